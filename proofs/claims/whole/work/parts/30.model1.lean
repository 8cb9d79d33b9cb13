set_option maxHeartbeats 4000000 in
set_option maxRecDepth 100000 in
theorem c_thrown (l : Launch) (D : va_G) (cZ : ClassId) (m0 m1 m2 m3 m4 m5 m6 : Nat) (err : Int32) (V S M : Nat → Int32) (O G : Int32) : sm_C l yX1_thrown wsX1_thrown ({ frames := 5, cells := 0, slots := 0, locals := 140 } : Room) D vwCl [(cZ, .boolean)] [.ref m0] (sm_wM cZ m0 m1 m2 m3 m4 m5 m6 err (sm_fb V) (sm_fb S) (sm_fo M) (sm_fl M) (sm_fw O) (sm_fw G)) (some (.int err)) (sm_wM cZ m0 m1 m2 m3 m4 m5 m6 err (sm_fb V) (sm_fb S) (sm_fo M) (sm_fl M) (sm_fw O) (sm_fw G)) := by
  refine sm_start (cc := cX1_thrown) (maxL := 1) (ret := some .int) (lv := [(0, .ref m0)]) (by decide) rfl (Nat.le_of_ble_eq_true rfl) rfl ?_
  intro p e s m below meth c hx hb hrt hts hown hlocks hml hin hK hP hD hS hA ls hl
  have hw := sm_hw hts
  refine lv_aload_n hx hb dX1_thrown_0 rfl (lv_at hl 0 rfl) ?_
  refine va_get (D := D) (ci := 1) (v := .int err) (C := RX1) (T := TX1) (N := 7) hx hb hts inX1 hown hK hP 0 rfl rfl 0 (by decide) (hw 232 rfl) (fun _ h9 => h9) rfl dX1_thrown_1 ?_
  exact sm_iret hx hb hrt hlocks hS hP hD dX1_thrown_4
set_option maxHeartbeats 4000000 in
set_option maxRecDepth 100000 in
theorem c_fails_f (l : Launch) (D : va_G) (cZ : ClassId) (m0 m1 m2 m3 m4 m5 m6 : Nat) (err : Int32) (V S M : Nat → Int32) (O G : Int32) (why : Int32) : sm_C l yX1_fails wsX1_fails ({ frames := 0, cells := 0, slots := 0, locals := 0 } : Room) D vwCl [(cZ, .boolean)] [.ref m0, .int (sm_bI false), .int why] (sm_wM cZ m0 m1 m2 m3 m4 m5 m6 err (sm_fb V) (sm_fb S) (sm_fo M) (sm_fl M) (sm_fw O) (sm_fw G)) (some (.int (sm_bI false))) (sm_wM cZ m0 m1 m2 m3 m4 m5 m6 0 (sm_fb V) (sm_fb S) (sm_fo M) (sm_fl M) (sm_fw O) (sm_fw G)) := by
  refine sm_start (cc := cX1_fails) (maxL := 3) (ret := some .boolean) (lv := [(0, .ref m0), (1, .int (sm_bI false)), (2, .int why)]) (by decide) rfl (Nat.le_of_ble_eq_true rfl) rfl ?_
  intro p e s m below meth c hx hb hrt hts hown hlocks hml hin hK hP hD hS hA ls hl
  have hw := sm_hw hts
  refine lv_aload_n hx hb dX1_fails_0 rfl (lv_at hl 0 rfl) ?_
  refine lv_iload_n hx hb dX1_fails_1 rfl (lv_at hl 1 rfl) ?_
  refine lv_if_eq (tgt := 9) hx hb dX1_fails_2 rfl (fun _ => ?_) (fun z => absurd (by decide) z)
  refine lv_iconst (v := 0) hx hb dX1_fails_9 (by decide) ?_
  refine sm_put (D := D) (ci := 1) (v := .int 0) (ty := .int) (C := RX1) (T := TX1) (N := 7) (ws' := (sm_wM cZ m0 m1 m2 m3 m4 m5 m6 0 (sm_fb V) (sm_fb S) (sm_fo M) (sm_fl M) (sm_fw O) (sm_fw G))) hx hb hts inX1 tyX1 tyX1_ok nX1 hown hK hP hD hS 0 rfl rfl 0 (by decide) (hw 232 rfl) (fun _ h9 => h9) rfl (by decide +kernel) rfl rfl (Nat.le_of_ble_eq_true rfl) dX1_fails_10 rfl (fun H locs hP hD hS => ?_)
  refine lv_iload_n hx hb dX1_fails_13 rfl (lv_at hl 1 rfl) ?_
  exact sm_zret hx hb hrt hlocks hS hP hD dX1_fails_14
set_option maxHeartbeats 4000000 in
set_option maxRecDepth 100000 in
theorem c_fails_t (l : Launch) (D : va_G) (cZ : ClassId) (m0 m1 m2 m3 m4 m5 m6 : Nat) (err : Int32) (V S M : Nat → Int32) (O G : Int32) (why : Int32) : sm_C l yX1_fails wsX1_fails ({ frames := 0, cells := 0, slots := 0, locals := 0 } : Room) D vwCl [(cZ, .boolean)] [.ref m0, .int (sm_bI true), .int why] (sm_wM cZ m0 m1 m2 m3 m4 m5 m6 err (sm_fb V) (sm_fb S) (sm_fo M) (sm_fl M) (sm_fw O) (sm_fw G)) (some (.int (sm_bI true))) (sm_wM cZ m0 m1 m2 m3 m4 m5 m6 why (sm_fb V) (sm_fb S) (sm_fo M) (sm_fl M) (sm_fw O) (sm_fw G)) := by
  refine sm_start (cc := cX1_fails) (maxL := 3) (ret := some .boolean) (lv := [(0, .ref m0), (1, .int (sm_bI true)), (2, .int why)]) (by decide) rfl (Nat.le_of_ble_eq_true rfl) rfl ?_
  intro p e s m below meth c hx hb hrt hts hown hlocks hml hin hK hP hD hS hA ls hl
  have hw := sm_hw hts
  refine lv_aload_n hx hb dX1_fails_0 rfl (lv_at hl 0 rfl) ?_
  refine lv_iload_n hx hb dX1_fails_1 rfl (lv_at hl 1 rfl) ?_
  refine lv_if_eq (tgt := 9) hx hb dX1_fails_2 rfl (fun z => absurd z (by decide)) (fun _ => ?_)
  refine lv_iload_n hx hb dX1_fails_5 rfl (lv_at hl 2 rfl) ?_
  refine lv_goto (tgt := 10) hx hb dX1_fails_6 rfl ?_
  refine sm_put (D := D) (ci := 1) (v := .int why) (ty := .int) (C := RX1) (T := TX1) (N := 7) (ws' := (sm_wM cZ m0 m1 m2 m3 m4 m5 m6 why (sm_fb V) (sm_fb S) (sm_fo M) (sm_fl M) (sm_fw O) (sm_fw G))) hx hb hts inX1 tyX1 tyX1_ok nX1 hown hK hP hD hS 0 rfl rfl 0 (by decide) (hw 232 rfl) (fun _ h9 => h9) rfl (by decide +kernel) rfl rfl (Nat.le_of_ble_eq_true rfl) dX1_fails_10 rfl (fun H locs hP hD hS => ?_)
  refine lv_iload_n hx hb dX1_fails_13 rfl (lv_at hl 1 rfl) ?_
  exact sm_zret hx hb hrt hlocks hS hP hD dX1_fails_14
set_option maxHeartbeats 4000000 in
set_option maxRecDepth 100000 in
theorem c_none_f (l : Launch) (D : va_G) (r : Nat) (hr : r < 16) : sm_C l yX1_none wsX1_none ({ frames := 0, cells := 0, slots := 0, locals := 0 } : Room) D vwCl [] [.int (nI r)] [] (some (.int (sm_bI false))) [] := by
  refine sm_start (cc := cX1_none) (maxL := 1) (ret := some .boolean) (lv := [(0, .int (nI r))]) (by decide) rfl (Nat.le_of_ble_eq_true rfl) rfl ?_
  intro p e s m below meth c hx hb hrt hts hown hlocks hml hin hK hP hD hS hA ls hl
  have hw := sm_hw hts
  refine lv_iload_n hx hb dX1_none_0 rfl (lv_at hl 0 rfl) ?_
  refine lv_if_lt (tgt := 10) hx hb dX1_none_1 rfl (fun z => absurd z (nI_pos (by omega))) (fun _ => ?_)
  refine lv_iload_n hx hb dX1_none_4 rfl (lv_at hl 0 rfl) ?_
  refine lv_bipush (v := 16) hx hb dX1_none_5 (by decide) ?_
  refine lv_icmp_lt (tgt := 14) hx hb dX1_none_7 rfl (fun _ => ?_) (fun z => absurd (nI_lt (b := 16) hr (by decide)) z)
  refine lv_iconst (v := 0) hx hb dX1_none_14 (by decide) ?_
  refine sm_eqi (y := sm_bI false) (rfl) ?_
  exact sm_zret hx hb hrt hlocks hS hP hD dX1_none_15
set_option maxHeartbeats 4000000 in
set_option maxRecDepth 100000 in
theorem c_none_t (l : Launch) (D : va_G) (i : Int32) (hi : i < 0 ∨ 16 ≤ i) : sm_C l yX1_none wsX1_none ({ frames := 0, cells := 0, slots := 0, locals := 0 } : Room) D vwCl [] [.int i] [] (some (.int (sm_bI true))) [] := by
  refine sm_start (cc := cX1_none) (maxL := 1) (ret := some .boolean) (lv := [(0, .int i)]) (by decide) rfl (Nat.le_of_ble_eq_true rfl) rfl ?_
  intro p e s m below meth c hx hb hrt hts hown hlocks hml hin hK hP hD hS hA ls hl
  have hw := sm_hw hts
  refine lv_iload_n hx hb dX1_none_0 rfl (lv_at hl 0 rfl) ?_
  refine lv_if_lt (tgt := 10) hx hb dX1_none_1 rfl (fun h1 => ?_) (fun h1 => ?_)
  · refine lv_iconst (v := 1) hx hb dX1_none_10 (by decide) ?_
    refine lv_goto (tgt := 15) hx hb dX1_none_11 rfl ?_
    refine sm_eqi (y := sm_bI true) (rfl) ?_
    exact sm_zret hx hb hrt hlocks hS hP hD dX1_none_15
  · refine lv_iload_n hx hb dX1_none_4 rfl (lv_at hl 0 rfl) ?_
    refine lv_bipush (v := 16) hx hb dX1_none_5 (by decide) ?_
    refine lv_icmp_lt (tgt := 14) hx hb dX1_none_7 rfl (fun z => absurd z (sm_orf hi h1)) (fun _ => ?_)
    refine lv_iconst (v := 1) hx hb dX1_none_10 (by decide) ?_
    refine lv_goto (tgt := 15) hx hb dX1_none_11 rfl ?_
    refine sm_eqi (y := sm_bI true) (rfl) ?_
    exact sm_zret hx hb hrt hlocks hS hP hD dX1_none_15
set_option maxHeartbeats 4000000 in
set_option maxRecDepth 100000 in
theorem c_is (l : Launch) (D : va_G) (cZ : ClassId) (m0 m1 m2 m3 m4 m5 m6 : Nat) (err : Int32) (L OB OL OU GO : Nat → Int32) (V : Nat → Int32) (r k : Nat) (hr : r < 16) (hk : k < 32) : sm_C l yX1_is wsX1_is ({ frames := 0, cells := 0, slots := 0, locals := 0 } : Room) D vwCl [(cZ, .boolean)] [.ref m0, .int (nI r), .int (nI k)] (sm_wM cZ m0 m1 m2 m3 m4 m5 m6 err (sm_fb V) L OB OL OU GO) (some (.int (sm_bI (bt (V r) k)))) (sm_wM cZ m0 m1 m2 m3 m4 m5 m6 err (sm_fb V) L OB OL OU GO) := by
  refine sm_start (cc := cX1_is) (maxL := 3) (ret := some .boolean) (lv := [(0, .ref m0), (1, .int (nI r)), (2, .int (nI k))]) (by decide) rfl (Nat.le_of_ble_eq_true rfl) rfl ?_
  intro p e s m below meth c hx hb hrt hts hown hlocks hml hin hK hP hD hS hA ls hl
  have hw := sm_hw hts
  refine lv_aload_n hx hb dX1_is_0 rfl (lv_at hl 0 rfl) ?_
  refine va_get (D := D) (ci := 1) (v := .ref m1) (C := RX1) (T := TX1) (N := 7) hx hb hts inX1 hown hK hP 0 rfl rfl 1 (by decide) (hw 233 rfl) (fun _ h9 => h9) rfl dX1_is_1 ?_
  refine lv_bipush (v := 32) hx hb dX1_is_4 (by decide) ?_
  refine lv_iload_n hx hb dX1_is_6 rfl (lv_at hl 1 rfl) ?_
  refine lv_imul hx hb dX1_is_7 ?_
  refine sm_eqi (y := nI (32 * r)) (pk_mul 32 r) ?_
  refine lv_iload_n hx hb dX1_is_8 rfl (lv_at hl 2 rfl) ?_
  refine lv_iadd hx hb dX1_is_9 ?_
  refine sm_eqi (y := nI ((32 * r) + k)) (nI_add (32 * r) k) ?_
  refine va_zald hx hb hK hP 1 0 rfl rfl (vp_in_nI (n := (32 * r) + k) (by omega) (by decide)) dX1_is_10 ?_
  refine sm_eqi (y := sm_bI (bt (V r) k)) ((sm_cl _ (n := (32 * r) + k) (by omega)).trans (sm_fb_at V (by omega))) ?_
  exact sm_zret hx hb hrt hlocks hS hP hD dX1_is_11
set_option maxHeartbeats 4000000 in
set_option maxRecDepth 100000 in
theorem c_un (l : Launch) (D : va_G) (cZ : ClassId) (m0 m1 m2 m3 m4 m5 m6 : Nat) (err : Int32) (B OB OL OU GO : Nat → Int32) (S : Nat → Int32) (r k : Nat) (hr : r < 16) (hk : k < 32) : sm_C l yX1_un wsX1_un ({ frames := 0, cells := 0, slots := 0, locals := 0 } : Room) D vwCl [(cZ, .boolean)] [.ref m0, .int (nI r), .int (nI k)] (sm_wM cZ m0 m1 m2 m3 m4 m5 m6 err B (sm_fb S) OB OL OU GO) (some (.int (sm_bI (bt (S r) k)))) (sm_wM cZ m0 m1 m2 m3 m4 m5 m6 err B (sm_fb S) OB OL OU GO) := by
  refine sm_start (cc := cX1_un) (maxL := 3) (ret := some .boolean) (lv := [(0, .ref m0), (1, .int (nI r)), (2, .int (nI k))]) (by decide) rfl (Nat.le_of_ble_eq_true rfl) rfl ?_
  intro p e s m below meth c hx hb hrt hts hown hlocks hml hin hK hP hD hS hA ls hl
  have hw := sm_hw hts
  refine lv_aload_n hx hb dX1_un_0 rfl (lv_at hl 0 rfl) ?_
  refine va_get (D := D) (ci := 1) (v := .ref m2) (C := RX1) (T := TX1) (N := 7) hx hb hts inX1 hown hK hP 0 rfl rfl 2 (by decide) (hw 234 rfl) (fun _ h9 => h9) rfl dX1_un_1 ?_
  refine lv_bipush (v := 32) hx hb dX1_un_4 (by decide) ?_
  refine lv_iload_n hx hb dX1_un_6 rfl (lv_at hl 1 rfl) ?_
  refine lv_imul hx hb dX1_un_7 ?_
  refine sm_eqi (y := nI (32 * r)) (pk_mul 32 r) ?_
  refine lv_iload_n hx hb dX1_un_8 rfl (lv_at hl 2 rfl) ?_
  refine lv_iadd hx hb dX1_un_9 ?_
  refine sm_eqi (y := nI ((32 * r) + k)) (nI_add (32 * r) k) ?_
  refine va_zald hx hb hK hP 2 0 rfl rfl (vp_in_nI (n := (32 * r) + k) (by omega) (by decide)) dX1_un_10 ?_
  refine sm_eqi (y := sm_bI (bt (S r) k)) ((sm_cl _ (n := (32 * r) + k) (by omega)).trans (sm_fb_at S (by omega))) ?_
  exact sm_zret hx hb hrt hlocks hS hP hD dX1_un_11
set_option maxHeartbeats 4000000 in
set_option maxRecDepth 100000 in
theorem c_number (l : Launch) (D : va_G) (cZ : ClassId) (m0 m1 m2 m3 m4 m5 m6 : Nat) (err : Int32) (V S M : Nat → Int32) (O G : Int32) (r : Nat) (hr : r < 16) : sm_C l yX1_number wsX1_number ({ frames := 0, cells := 0, slots := 0, locals := 0 } : Room) D vwCl [(cZ, .boolean)] [.ref m0, .int (nI r)] (sm_wM cZ m0 m1 m2 m3 m4 m5 m6 err (sm_fb V) (sm_fb S) (sm_fo M) (sm_fl M) (sm_fw O) (sm_fw G)) (some (.int (V r))) (sm_wM cZ m0 m1 m2 m3 m4 m5 m6 err (sm_fb V) (sm_fb S) (sm_fo M) (sm_fl M) (sm_fw O) (sm_fw G)) := by
  refine sm_start (cc := cX1_number) (maxL := 4) (ret := some .int) (lv := [(0, .ref m0), (1, .int (nI r))]) (by decide) rfl (Nat.le_of_ble_eq_true rfl) rfl ?_
  intro p e s m below meth c hx hb hrt hts hown hlocks hml hin hK hP hD hS hA ls hl
  have hw := sm_hw hts
  refine lv_iconst (v := 0) hx hb dX1_number_0 (by decide) ?_
  refine lv_istore_n (lv' := [(2, .int 0), (0, .ref m0), (1, .int (nI r))]) hx hb dX1_number_1 rfl hl (by decide) rfl (fun ls hl => ?_)
  refine lv_iconst (v := 0) hx hb dX1_number_2 (by decide) ?_
  refine lv_istore_n (lv' := [(3, .int 0), (2, .int 0), (0, .ref m0), (1, .int (nI r))]) hx hb dX1_number_3 rfl hl (by decide) rfl (fun ls hl => ?_)
  refine sm_loopW (nL := 4) (lv := fun k => [(0, .ref m0), (1, .int (nI r)), (2, .int (sm_mk (bt (V r)) k)), (3, .int (nI k))]) (w := fun k => (sm_wM cZ m0 m1 m2 m3 m4 m5 m6 err (sm_fb V) (sm_fb S) (sm_fo M) (sm_fl M) (sm_fw O) (sm_fw G))) 32 (fun H locs ls hl hP hD hS => ?_) (fun k hk ih H locs ls hl hP hD hS => ?_) (lv_sub hl [2, 3, 1, 0] rfl) (sm_cP (rfl) hP) (sm_cD (rfl) hD) hS
  · have hl : lv_has ls 4 [(0, .ref m0), (1, .int (nI r)), (2, .int (sm_mk (bt (V r)) 32)), (3, .int (nI 32))] := hl
    have hP : va_P D vwCl (sm_wM cZ m0 m1 m2 m3 m4 m5 m6 err (sm_fb V) (sm_fb S) (sm_fo M) (sm_fl M) (sm_fw O) (sm_fw G)) H := hP
    have hD : va_D _ (sm_wM cZ m0 m1 m2 m3 m4 m5 m6 err (sm_fb V) (sm_fb S) (sm_fo M) (sm_fl M) (sm_fw O) (sm_fw G)) := hD
    refine lv_iload_n hx hb dX1_number_4 rfl (lv_at hl 3 rfl) ?_
    refine lv_bipush (v := 32) hx hb dX1_number_5 (by decide) ?_
    refine lv_icmp_ge (tgt := 36) hx hb dX1_number_7 rfl (fun _ => ?_) (fun z => absurd (by decide) z)
    refine lv_iload_n hx hb dX1_number_36 rfl (lv_at hl 2 rfl) ?_
    refine sm_eqi (y := V r) (sm_mkx (fun _ _ => rfl)) ?_
    exact sm_iret hx hb hrt hlocks hS hP hD dX1_number_37
  · have hl : lv_has ls 4 [(0, .ref m0), (1, .int (nI r)), (2, .int (sm_mk (bt (V r)) k)), (3, .int (nI k))] := hl
    have hP : va_P D vwCl (sm_wM cZ m0 m1 m2 m3 m4 m5 m6 err (sm_fb V) (sm_fb S) (sm_fo M) (sm_fl M) (sm_fw O) (sm_fw G)) H := hP
    have hD : va_D _ (sm_wM cZ m0 m1 m2 m3 m4 m5 m6 err (sm_fb V) (sm_fb S) (sm_fo M) (sm_fl M) (sm_fw O) (sm_fw G)) := hD
    refine lv_iload_n hx hb dX1_number_4 rfl (lv_at hl 3 rfl) ?_
    refine lv_bipush (v := 32) hx hb dX1_number_5 (by decide) ?_
    refine lv_icmp_ge (tgt := 36) hx hb dX1_number_7 rfl (fun z => absurd z (nI_ge (b := 32) hk (by decide))) (fun _ => ?_)
    refine lv_aload_n hx hb dX1_number_10 rfl (lv_at hl 0 rfl) ?_
    refine va_get (D := D) (ci := 1) (v := .ref m1) (C := RX1) (T := TX1) (N := 7) hx hb hts inX1 hown hK hP 0 rfl rfl 1 (by decide) (hw 233 rfl) (fun _ h9 => h9) rfl dX1_number_11 ?_
    refine lv_bipush (v := 32) hx hb dX1_number_14 (by decide) ?_
    refine lv_iload_n hx hb dX1_number_16 rfl (lv_at hl 1 rfl) ?_
    refine lv_imul hx hb dX1_number_17 ?_
    refine sm_eqi (y := nI (32 * r)) (pk_mul 32 r) ?_
    refine lv_iload_n hx hb dX1_number_18 rfl (lv_at hl 3 rfl) ?_
    refine lv_iadd hx hb dX1_number_19 ?_
    refine sm_eqi (y := nI ((32 * r) + k)) (nI_add (32 * r) k) ?_
    refine va_zald hx hb hK hP 1 0 rfl rfl (vp_in_nI (n := (32 * r) + k) (by omega) (by decide)) dX1_number_20 ?_
    refine sm_eqi (y := sm_bI (bt (V r) k)) ((sm_cl _ (n := (32 * r) + k) (by omega)).trans (sm_fb_at V (by omega))) ?_
    refine sm_ifb_eq (tgt := 30) hx hb dX1_number_21 rfl (fun h21 => ?_) (fun h21 => ?_)
    · have hl : lv_has ls 4 [(0, .ref m0), (1, .int (nI r)), (2, .int (sm_mk (bt (V r)) (k + 1))), (3, .int (nI k))] := by rw [sm_mk_n h21]; exact hl
      refine lv_iinc (k := 3) (v := nI (k + 1)) (lv' := [(3, .int (nI (k + 1))), (0, .ref m0), (1, .int (nI r)), (2, .int (sm_mk (bt (V r)) (k + 1)))]) hx hb dX1_number_30 hl rfl (sm_inc k) (by decide) rfl (fun ls hl => ?_)
      refine lv_goto (tgt := 4) hx hb dX1_number_33 rfl ?_
      exact ih _ _ _ (lv_sub hl [1, 2, 3, 0] rfl) (sm_cP (rfl) hP) (sm_cD (rfl) hD) hS
    · refine lv_iload_n hx hb dX1_number_24 rfl (lv_at hl 2 rfl) ?_
      refine lv_iconst (v := 1) hx hb dX1_number_25 (by decide) ?_
      refine lv_iload_n hx hb dX1_number_26 rfl (lv_at hl 3 rfl) ?_
      refine lv_ishl hx hb dX1_number_27 ?_
      refine lv_ior hx hb dX1_number_28 ?_
      refine sm_eqi (y := sm_mk (bt (V r)) (k + 1)) (sm_mk_t h21) ?_
      refine lv_istore_n (lv' := [(2, .int (sm_mk (bt (V r)) (k + 1))), (0, .ref m0), (1, .int (nI r)), (3, .int (nI k))]) hx hb dX1_number_29 rfl hl (by decide) rfl (fun ls hl => ?_)
      refine lv_iinc (k := 3) (v := nI (k + 1)) (lv' := [(3, .int (nI (k + 1))), (2, .int (sm_mk (bt (V r)) (k + 1))), (0, .ref m0), (1, .int (nI r))]) hx hb dX1_number_30 hl rfl (sm_inc k) (by decide) rfl (fun ls hl => ?_)
      refine lv_goto (tgt := 4) hx hb dX1_number_33 rfl ?_
      exact ih _ _ _ (lv_sub hl [2, 3, 1, 0] rfl) (sm_cP (rfl) hP) (sm_cD (rfl) hD) hS
set_option maxHeartbeats 4000000 in
set_option maxRecDepth 100000 in
theorem c_give (l : Launch) (D : va_G) (cZ : ClassId) (m0 m1 m2 m3 m4 m5 m6 : Nat) (err : Int32) (V S M : Nat → Int32) (O G : Int32) (r : Nat) (hr : r < 16) : sm_C l yX1_give wsX1_give ({ frames := 0, cells := 0, slots := 0, locals := 0 } : Room) D vwCl [(cZ, .boolean)] [.ref m0, .int (nI r)] (sm_wM cZ m0 m1 m2 m3 m4 m5 m6 err (sm_fb V) (sm_fb S) (sm_fo M) (sm_fl M) (sm_fw O) (sm_fw G)) none (sm_wM cZ m0 m1 m2 m3 m4 m5 m6 err (sm_fb (upd V r O)) (sm_fb (upd S r G)) (sm_fo M) (sm_fl M) (sm_fw O) (sm_fw G)) := by
  refine sm_start (cc := cX1_give) (maxL := 3) (ret := none) (lv := [(0, .ref m0), (1, .int (nI r))]) (by decide) rfl (Nat.le_of_ble_eq_true rfl) rfl ?_
  intro p e s m below meth c hx hb hrt hts hown hlocks hml hin hK hP hD hS hA ls hl
  have hw := sm_hw hts
  refine lv_iconst (v := 0) hx hb dX1_give_0 (by decide) ?_
  refine lv_istore_n (lv' := [(2, .int 0), (0, .ref m0), (1, .int (nI r))]) hx hb dX1_give_1 rfl hl (by decide) rfl (fun ls hl => ?_)
  refine sm_loopW (nL := 3) (lv := fun k => [(0, .ref m0), (1, .int (nI r)), (2, .int (nI k))]) (w := fun k => (sm_wM cZ m0 m1 m2 m3 m4 m5 m6 err (sm_fill (sm_fb V) (bt O) (32 * r) k) (sm_fill (sm_fb S) (bt G) (32 * r) k) (sm_fo M) (sm_fl M) (sm_fw O) (sm_fw G))) 32 (fun H locs ls hl hP hD hS => ?_) (fun k hk ih H locs ls hl hP hD hS => ?_) (lv_sub hl [1, 2, 0] rfl) (sm_cP (by simp only [sm_fill0]) hP) (sm_cD (by simp only [sm_fill0]) hD) hS
  · have hl : lv_has ls 3 [(0, .ref m0), (1, .int (nI r)), (2, .int (nI 32))] := hl
    have hP : va_P D vwCl (sm_wM cZ m0 m1 m2 m3 m4 m5 m6 err (sm_fill (sm_fb V) (bt O) (32 * r) 32) (sm_fill (sm_fb S) (bt G) (32 * r) 32) (sm_fo M) (sm_fl M) (sm_fw O) (sm_fw G)) H := hP
    have hD : va_D _ (sm_wM cZ m0 m1 m2 m3 m4 m5 m6 err (sm_fill (sm_fb V) (bt O) (32 * r) 32) (sm_fill (sm_fb S) (bt G) (32 * r) 32) (sm_fo M) (sm_fl M) (sm_fw O) (sm_fw G)) := hD
    refine lv_iload_n hx hb dX1_give_2 rfl (lv_at hl 2 rfl) ?_
    refine lv_bipush (v := 32) hx hb dX1_give_3 (by decide) ?_
    refine lv_icmp_ge (tgt := 48) hx hb dX1_give_5 rfl (fun _ => ?_) (fun z => absurd (by decide) z)
    exact sm_vret hx hb hrt hlocks hS (sm_cP (by rw [sm_fill_b, sm_fill_b]) hP) (sm_cD (by rw [sm_fill_b, sm_fill_b]) hD) dX1_give_48
  · have hl : lv_has ls 3 [(0, .ref m0), (1, .int (nI r)), (2, .int (nI k))] := hl
    have hP : va_P D vwCl (sm_wM cZ m0 m1 m2 m3 m4 m5 m6 err (sm_fill (sm_fb V) (bt O) (32 * r) k) (sm_fill (sm_fb S) (bt G) (32 * r) k) (sm_fo M) (sm_fl M) (sm_fw O) (sm_fw G)) H := hP
    have hD : va_D _ (sm_wM cZ m0 m1 m2 m3 m4 m5 m6 err (sm_fill (sm_fb V) (bt O) (32 * r) k) (sm_fill (sm_fb S) (bt G) (32 * r) k) (sm_fo M) (sm_fl M) (sm_fw O) (sm_fw G)) := hD
    refine lv_iload_n hx hb dX1_give_2 rfl (lv_at hl 2 rfl) ?_
    refine lv_bipush (v := 32) hx hb dX1_give_3 (by decide) ?_
    refine lv_icmp_ge (tgt := 48) hx hb dX1_give_5 rfl (fun z => absurd z (nI_ge (b := 32) hk (by decide))) (fun _ => ?_)
    refine lv_aload_n hx hb dX1_give_8 rfl (lv_at hl 0 rfl) ?_
    refine va_get (D := D) (ci := 1) (v := .ref m1) (C := RX1) (T := TX1) (N := 7) hx hb hts inX1 hown hK hP 0 rfl rfl 1 (by decide) (hw 233 rfl) (fun _ h9 => h9) rfl dX1_give_9 ?_
    refine lv_bipush (v := 32) hx hb dX1_give_12 (by decide) ?_
    refine lv_iload_n hx hb dX1_give_14 rfl (lv_at hl 1 rfl) ?_
    refine lv_imul hx hb dX1_give_15 ?_
    refine sm_eqi (y := nI (32 * r)) (pk_mul 32 r) ?_
    refine lv_iload_n hx hb dX1_give_16 rfl (lv_at hl 2 rfl) ?_
    refine lv_iadd hx hb dX1_give_17 ?_
    refine sm_eqi (y := nI ((32 * r) + k)) (nI_add (32 * r) k) ?_
    refine lv_aload_n hx hb dX1_give_18 rfl (lv_at hl 0 rfl) ?_
    refine va_get (D := D) (ci := 1) (v := .ref m5) (C := RX1) (T := TX1) (N := 7) hx hb hts inX1 hown hK hP 0 rfl rfl 5 (by decide) (hw 237 rfl) (fun _ h9 => h9) rfl dX1_give_19 ?_
    refine lv_iload_n hx hb dX1_give_22 rfl (lv_at hl 2 rfl) ?_
    refine va_zald hx hb hK hP 5 0 rfl rfl (vp_in_nI (n := k) (by omega) (by decide)) dX1_give_23 ?_
    refine sm_eqi (y := sm_bI (bt O k)) ((sm_cl _ (n := k) (by omega)).trans rfl) ?_
    refine sm_zast (f' := sm_fill (sm_fb V) (bt O) (32 * r) (k + 1)) (ws' := (sm_wM cZ m0 m1 m2 m3 m4 m5 m6 err (sm_fill (sm_fb V) (bt O) (32 * r) (k + 1)) (sm_fill (sm_fb S) (bt G) (32 * r) k) (sm_fo M) (sm_fl M) (sm_fw O) (sm_fw G))) hx hb hK hP hD hS 1 0 rfl rfl (vp_in_nI (n := (32 * r) + k) (by omega) (by decide)) dX1_give_24 (by rw [nI_clamp (by omega)]; exact sm_fillS (sm_fb V) (bt O) (32 * r) k) rfl (fun H locs hP hD hS => ?_)
    refine lv_aload_n hx hb dX1_give_25 rfl (lv_at hl 0 rfl) ?_
    refine va_get (D := D) (ci := 1) (v := .ref m2) (C := RX1) (T := TX1) (N := 7) hx hb hts inX1 hown hK hP 0 rfl rfl 2 (by decide) (hw 234 rfl) (fun _ h9 => h9) rfl dX1_give_26 ?_
    refine lv_bipush (v := 32) hx hb dX1_give_29 (by decide) ?_
    refine lv_iload_n hx hb dX1_give_31 rfl (lv_at hl 1 rfl) ?_
    refine lv_imul hx hb dX1_give_32 ?_
    refine sm_eqi (y := nI (32 * r)) (pk_mul 32 r) ?_
    refine lv_iload_n hx hb dX1_give_33 rfl (lv_at hl 2 rfl) ?_
    refine lv_iadd hx hb dX1_give_34 ?_
    refine sm_eqi (y := nI ((32 * r) + k)) (nI_add (32 * r) k) ?_
    refine lv_aload_n hx hb dX1_give_35 rfl (lv_at hl 0 rfl) ?_
    refine va_get (D := D) (ci := 1) (v := .ref m6) (C := RX1) (T := TX1) (N := 7) hx hb hts inX1 hown hK hP 0 rfl rfl 6 (by decide) (hw 238 rfl) (fun _ h9 => h9) rfl dX1_give_36 ?_
    refine lv_iload_n hx hb dX1_give_39 rfl (lv_at hl 2 rfl) ?_
    refine va_zald hx hb hK hP 6 0 rfl rfl (vp_in_nI (n := k) (by omega) (by decide)) dX1_give_40 ?_
    refine sm_eqi (y := sm_bI (bt G k)) ((sm_cl _ (n := k) (by omega)).trans rfl) ?_
    refine sm_zast (f' := sm_fill (sm_fb S) (bt G) (32 * r) (k + 1)) (ws' := (sm_wM cZ m0 m1 m2 m3 m4 m5 m6 err (sm_fill (sm_fb V) (bt O) (32 * r) (k + 1)) (sm_fill (sm_fb S) (bt G) (32 * r) (k + 1)) (sm_fo M) (sm_fl M) (sm_fw O) (sm_fw G))) hx hb hK hP hD hS 2 0 rfl rfl (vp_in_nI (n := (32 * r) + k) (by omega) (by decide)) dX1_give_41 (by rw [nI_clamp (by omega)]; exact sm_fillS (sm_fb S) (bt G) (32 * r) k) rfl (fun H locs hP hD hS => ?_)
    refine lv_iinc (k := 2) (v := nI (k + 1)) (lv' := [(2, .int (nI (k + 1))), (0, .ref m0), (1, .int (nI r))]) hx hb dX1_give_42 hl rfl (sm_inc k) (by decide) rfl (fun ls hl => ?_)
    refine lv_goto (tgt := 2) hx hb dX1_give_45 rfl ?_
    exact ih _ _ _ (lv_sub hl [1, 2, 0] rfl) (sm_cP (rfl) hP) (sm_cD (rfl) hD) hS
set_option maxHeartbeats 4000000 in
set_option maxRecDepth 100000 in
theorem c_make (l : Launch) (D : va_G) (cZ : ClassId) (m0 m1 m2 m3 m4 m5 m6 : Nat) (err : Int32) (V S M : Nat → Int32) (O G : Int32) (v : Int32) : sm_C l yX1_make wsX1_make ({ frames := 0, cells := 0, slots := 0, locals := 0 } : Room) D vwCl [(cZ, .boolean)] [.ref m0, .int v] (sm_wM cZ m0 m1 m2 m3 m4 m5 m6 err (sm_fb V) (sm_fb S) (sm_fo M) (sm_fl M) (sm_fw O) (sm_fw G)) none (sm_wM cZ m0 m1 m2 m3 m4 m5 m6 err (sm_fb V) (sm_fb S) (sm_fo M) (sm_fl M) (sm_fw v) (sm_fw 0)) := by
  refine sm_start (cc := cX1_make) (maxL := 3) (ret := none) (lv := [(0, .ref m0), (1, .int v)]) (by decide) rfl (Nat.le_of_ble_eq_true rfl) rfl ?_
  intro p e s m below meth c hx hb hrt hts hown hlocks hml hin hK hP hD hS hA ls hl
  have hw := sm_hw hts
  refine lv_iconst (v := 0) hx hb dX1_make_0 (by decide) ?_
  refine lv_istore_n (lv' := [(2, .int 0), (0, .ref m0), (1, .int v)]) hx hb dX1_make_1 rfl hl (by decide) rfl (fun ls hl => ?_)
  refine sm_loopW (nL := 3) (lv := fun k => [(0, .ref m0), (1, .int v), (2, .int (nI k))]) (w := fun k => (sm_wM cZ m0 m1 m2 m3 m4 m5 m6 err (sm_fb V) (sm_fb S) (sm_fo M) (sm_fl M) (sm_fill (sm_fw O) (bt v) 0 k) (sm_fill (sm_fw G) (fun _ => false) 0 k))) 32 (fun H locs ls hl hP hD hS => ?_) (fun k hk ih H locs ls hl hP hD hS => ?_) (lv_sub hl [1, 2, 0] rfl) (sm_cP (by simp only [sm_fill0]) hP) (sm_cD (by simp only [sm_fill0]) hD) hS
  · have hl : lv_has ls 3 [(0, .ref m0), (1, .int v), (2, .int (nI 32))] := hl
    have hP : va_P D vwCl (sm_wM cZ m0 m1 m2 m3 m4 m5 m6 err (sm_fb V) (sm_fb S) (sm_fo M) (sm_fl M) (sm_fill (sm_fw O) (bt v) 0 32) (sm_fill (sm_fw G) (fun _ => false) 0 32)) H := hP
    have hD : va_D _ (sm_wM cZ m0 m1 m2 m3 m4 m5 m6 err (sm_fb V) (sm_fb S) (sm_fo M) (sm_fl M) (sm_fill (sm_fw O) (bt v) 0 32) (sm_fill (sm_fw G) (fun _ => false) 0 32)) := hD
    refine lv_iload_n hx hb dX1_make_2 rfl (lv_at hl 2 rfl) ?_
    refine lv_bipush (v := 32) hx hb dX1_make_3 (by decide) ?_
    refine lv_icmp_ge (tgt := 41) hx hb dX1_make_5 rfl (fun _ => ?_) (fun z => absurd (by decide) z)
    exact sm_vret hx hb hrt hlocks hS (sm_cP (by rw [sm_fill_w, sm_fill_w, sm_mkx (fun _ _ => rfl), sm_mk_f]) hP) (sm_cD (by rw [sm_fill_w, sm_fill_w, sm_mkx (fun _ _ => rfl), sm_mk_f]) hD) dX1_make_41
  · have hl : lv_has ls 3 [(0, .ref m0), (1, .int v), (2, .int (nI k))] := hl
    have hP : va_P D vwCl (sm_wM cZ m0 m1 m2 m3 m4 m5 m6 err (sm_fb V) (sm_fb S) (sm_fo M) (sm_fl M) (sm_fill (sm_fw O) (bt v) 0 k) (sm_fill (sm_fw G) (fun _ => false) 0 k)) H := hP
    have hD : va_D _ (sm_wM cZ m0 m1 m2 m3 m4 m5 m6 err (sm_fb V) (sm_fb S) (sm_fo M) (sm_fl M) (sm_fill (sm_fw O) (bt v) 0 k) (sm_fill (sm_fw G) (fun _ => false) 0 k)) := hD
    refine lv_iload_n hx hb dX1_make_2 rfl (lv_at hl 2 rfl) ?_
    refine lv_bipush (v := 32) hx hb dX1_make_3 (by decide) ?_
    refine lv_icmp_ge (tgt := 41) hx hb dX1_make_5 rfl (fun z => absurd z (nI_ge (b := 32) hk (by decide))) (fun _ => ?_)
    refine lv_aload_n hx hb dX1_make_8 rfl (lv_at hl 0 rfl) ?_
    refine va_get (D := D) (ci := 1) (v := .ref m5) (C := RX1) (T := TX1) (N := 7) hx hb hts inX1 hown hK hP 0 rfl rfl 5 (by decide) (hw 237 rfl) (fun _ h9 => h9) rfl dX1_make_9 ?_
    refine lv_iload_n hx hb dX1_make_12 rfl (lv_at hl 2 rfl) ?_
    refine lv_iload_n hx hb dX1_make_13 rfl (lv_at hl 1 rfl) ?_
    refine lv_iload_n hx hb dX1_make_14 rfl (lv_at hl 2 rfl) ?_
    refine lv_ishr hx hb dX1_make_15 ?_
    refine lv_iconst (v := 1) hx hb dX1_make_16 (by decide) ?_
    refine lv_iand hx hb dX1_make_17 ?_
    refine sm_eqi (y := sm_bI (bt v k)) (sm_tst v hk) ?_
    refine lv_iconst (v := 1) hx hb dX1_make_18 (by decide) ?_
    refine lv_icmp_ne (tgt := 26) hx hb dX1_make_19 rfl (fun h19 => ?_) (fun h19 => ?_)
    · refine lv_iconst (v := 0) hx hb dX1_make_26 (by decide) ?_
      refine sm_eqi (y := sm_bI (bt v k)) ((sm_b1f h19).symm) ?_
      refine sm_zast (f' := sm_fill (sm_fw O) (bt v) 0 (k + 1)) (ws' := (sm_wM cZ m0 m1 m2 m3 m4 m5 m6 err (sm_fb V) (sm_fb S) (sm_fo M) (sm_fl M) (sm_fill (sm_fw O) (bt v) 0 (k + 1)) (sm_fill (sm_fw G) (fun _ => false) 0 k))) hx hb hK hP hD hS 5 0 rfl rfl (vp_in_nI (n := k) (by omega) (by decide)) dX1_make_27 (by rw [nI_clamp (by omega)]; exact sm_fillS0 (sm_fw O) (bt v) k) rfl (fun H locs hP hD hS => ?_)
      refine lv_aload_n hx hb dX1_make_28 rfl (lv_at hl 0 rfl) ?_
      refine va_get (D := D) (ci := 1) (v := .ref m6) (C := RX1) (T := TX1) (N := 7) hx hb hts inX1 hown hK hP 0 rfl rfl 6 (by decide) (hw 238 rfl) (fun _ h9 => h9) rfl dX1_make_29 ?_
      refine lv_iload_n hx hb dX1_make_32 rfl (lv_at hl 2 rfl) ?_
      refine lv_iconst (v := 0) hx hb dX1_make_33 (by decide) ?_
      refine sm_eqi (y := sm_bI false) (rfl) ?_
      refine sm_zast (f' := sm_fill (sm_fw G) (fun _ => false) 0 (k + 1)) (ws' := (sm_wM cZ m0 m1 m2 m3 m4 m5 m6 err (sm_fb V) (sm_fb S) (sm_fo M) (sm_fl M) (sm_fill (sm_fw O) (bt v) 0 (k + 1)) (sm_fill (sm_fw G) (fun _ => false) 0 (k + 1)))) hx hb hK hP hD hS 6 0 rfl rfl (vp_in_nI (n := k) (by omega) (by decide)) dX1_make_34 (by rw [nI_clamp (by omega)]; exact sm_fillS0 (sm_fw G) (fun _ => false) k) rfl (fun H locs hP hD hS => ?_)
      refine lv_iinc (k := 2) (v := nI (k + 1)) (lv' := [(2, .int (nI (k + 1))), (0, .ref m0), (1, .int v)]) hx hb dX1_make_35 hl rfl (sm_inc k) (by decide) rfl (fun ls hl => ?_)
      refine lv_goto (tgt := 2) hx hb dX1_make_38 rfl ?_
      exact ih _ _ _ (lv_sub hl [1, 2, 0] rfl) (sm_cP (rfl) hP) (sm_cD (rfl) hD) hS
    · refine lv_iconst (v := 1) hx hb dX1_make_22 (by decide) ?_
      refine lv_goto (tgt := 27) hx hb dX1_make_23 rfl ?_
      refine sm_eqi (y := sm_bI (bt v k)) (h19.symm) ?_
      refine sm_zast (f' := sm_fill (sm_fw O) (bt v) 0 (k + 1)) (ws' := (sm_wM cZ m0 m1 m2 m3 m4 m5 m6 err (sm_fb V) (sm_fb S) (sm_fo M) (sm_fl M) (sm_fill (sm_fw O) (bt v) 0 (k + 1)) (sm_fill (sm_fw G) (fun _ => false) 0 k))) hx hb hK hP hD hS 5 0 rfl rfl (vp_in_nI (n := k) (by omega) (by decide)) dX1_make_27 (by rw [nI_clamp (by omega)]; exact sm_fillS0 (sm_fw O) (bt v) k) rfl (fun H locs hP hD hS => ?_)
      refine lv_aload_n hx hb dX1_make_28 rfl (lv_at hl 0 rfl) ?_
      refine va_get (D := D) (ci := 1) (v := .ref m6) (C := RX1) (T := TX1) (N := 7) hx hb hts inX1 hown hK hP 0 rfl rfl 6 (by decide) (hw 238 rfl) (fun _ h9 => h9) rfl dX1_make_29 ?_
      refine lv_iload_n hx hb dX1_make_32 rfl (lv_at hl 2 rfl) ?_
      refine lv_iconst (v := 0) hx hb dX1_make_33 (by decide) ?_
      refine sm_eqi (y := sm_bI false) (rfl) ?_
      refine sm_zast (f' := sm_fill (sm_fw G) (fun _ => false) 0 (k + 1)) (ws' := (sm_wM cZ m0 m1 m2 m3 m4 m5 m6 err (sm_fb V) (sm_fb S) (sm_fo M) (sm_fl M) (sm_fill (sm_fw O) (bt v) 0 (k + 1)) (sm_fill (sm_fw G) (fun _ => false) 0 (k + 1)))) hx hb hK hP hD hS 6 0 rfl rfl (vp_in_nI (n := k) (by omega) (by decide)) dX1_make_34 (by rw [nI_clamp (by omega)]; exact sm_fillS0 (sm_fw G) (fun _ => false) k) rfl (fun H locs hP hD hS => ?_)
      refine lv_iinc (k := 2) (v := nI (k + 1)) (lv' := [(2, .int (nI (k + 1))), (0, .ref m0), (1, .int v)]) hx hb dX1_make_35 hl rfl (sm_inc k) (by decide) rfl (fun ls hl => ?_)
      refine lv_goto (tgt := 2) hx hb dX1_make_38 rfl ?_
      exact ih _ _ _ (lv_sub hl [1, 2, 0] rfl) (sm_cP (rfl) hP) (sm_cD (rfl) hD) hS
set_option maxHeartbeats 4000000 in
set_option maxRecDepth 100000 in
theorem c_lowest (l : Launch) (D : va_G) (cZ : ClassId) (m0 m1 m2 m3 m4 m5 m6 : Nat) (err : Int32) (V S M : Nat → Int32) (O G : Int32) (r : Nat) (hr : r < 16) : sm_C l yX1_lowest wsX1_lowest ({ frames := 1, cells := 0, slots := 0, locals := 22 } : Room) D vwCl [(cZ, .boolean)] [.ref m0, .int (nI r)] (sm_wM cZ m0 m1 m2 m3 m4 m5 m6 err (sm_fb V) (sm_fb S) (sm_fo M) (sm_fl M) (sm_fw O) (sm_fw G)) (some (.int (nI (sm_tz (S r))))) (sm_wM cZ m0 m1 m2 m3 m4 m5 m6 err (sm_fb V) (sm_fb S) (sm_fo M) (sm_fl M) (sm_fw O) (sm_fw G)) := by
  refine sm_start (cc := cX1_lowest) (maxL := 3) (ret := some .int) (lv := [(0, .ref m0), (1, .int (nI r))]) (by decide) rfl (Nat.le_of_ble_eq_true rfl) rfl ?_
  intro p e s m below meth c hx hb hrt hts hown hlocks hml hin hK hP hD hS hA ls hl
  have hw := sm_hw hts
  have ht := sm_tz_le (S r)
  refine lv_iconst (v := 0) hx hb dX1_lowest_0 (by decide) ?_
  refine lv_istore_n (lv' := [(2, .int 0), (0, .ref m0), (1, .int (nI r))]) hx hb dX1_lowest_1 rfl hl (by decide) rfl (fun ls hl => ?_)
  refine sm_loopW (nL := 3) (lv := fun k => [(0, .ref m0), (1, .int (nI r)), (2, .int (nI k))]) (w := fun k => (sm_wM cZ m0 m1 m2 m3 m4 m5 m6 err (sm_fb V) (sm_fb S) (sm_fo M) (sm_fl M) (sm_fw O) (sm_fw G))) (sm_tz (S r)) (fun H locs ls hl hP hD hS => ?_) (fun k hk ih H locs ls hl hP hD hS => ?_) (lv_sub hl [1, 2, 0] rfl) (sm_cP (rfl) hP) (sm_cD (rfl) hD) hS
  · have hl : lv_has ls 3 [(0, .ref m0), (1, .int (nI r)), (2, .int (nI (sm_tz (S r))))] := hl
    have hP : va_P D vwCl (sm_wM cZ m0 m1 m2 m3 m4 m5 m6 err (sm_fb V) (sm_fb S) (sm_fo M) (sm_fl M) (sm_fw O) (sm_fw G)) H := hP
    have hD : va_D _ (sm_wM cZ m0 m1 m2 m3 m4 m5 m6 err (sm_fb V) (sm_fb S) (sm_fo M) (sm_fl M) (sm_fw O) (sm_fw G)) := hD
    refine lv_iload_n hx hb dX1_lowest_2 rfl (lv_at hl 2 rfl) ?_
    refine lv_bipush (v := 32) hx hb dX1_lowest_3 (by decide) ?_
    refine lv_icmp_ge (tgt := 23) hx hb dX1_lowest_5 rfl (fun h5 => ?_) (fun h5 => ?_)
    · refine lv_iload_n hx hb dX1_lowest_23 rfl (lv_at hl 2 rfl) ?_
      exact sm_iret hx hb hrt hlocks hS hP hD dX1_lowest_24
    · refine lv_aload_n hx hb dX1_lowest_8 rfl (lv_at hl 0 rfl) ?_
      refine lv_iload_n hx hb dX1_lowest_9 rfl (lv_at hl 1 rfl) ?_
      refine lv_iload_n hx hb dX1_lowest_10 rfl (lv_at hl 2 rfl) ?_
      refine sm_callV (C := RX1) (As := [.int (nI r), .int (nI (sm_tz (S r)))]) (rest := []) (wr := []) (wn := (sm_wM cZ m0 m1 m2 m3 m4 m5 m6 err (sm_fb V) (sm_fb S) (sm_fo M) (sm_fl M) (sm_fw O) (sm_fw G))) (st1 := [.int (sm_bI (bt (S r) (sm_tz (S r))))]) ⟨hx, hb, hml, hown, hts⟩ (c_un l D cZ m0 m1 m2 m3 m4 m5 m6 err (sm_fb V) (sm_fo M) (sm_fl M) (sm_fw O) (sm_fw G) S r (sm_tz (S r)) (by omega) (sm_nle32 ht h5)) (cwV 2 hts (sm_gV (i1 := 285) (i2 := 286) (i3 := 353) (i4 := 2) (i5 := 287) rfl rfl rfl rfl rfl) rfl rfl rfl (by decide +kernel) ⟨Nat.le_of_ble_eq_true rfl, Nat.le_of_ble_eq_true rfl⟩) hK [0] rfl hP hD hS hA 0 rfl rfl [0, 1, 2, 3, 4, 5, 6] [] rfl rfl (by decide) (by decide) (by decide) rfl hl.1 rfl (Nat.le_of_ble_eq_true rfl) dX1_lowest_11 ⟨Nat.le_of_ble_eq_true rfl, Nat.le_of_ble_eq_true rfl⟩ rfl rfl (fun H locs hP hD hS => ?_)
      refine lv_if_ne (tgt := 23) hx hb dX1_lowest_14 rfl (fun _ => ?_) (fun z => absurd z (sm_bn1 (sm_tz_at (sm_nle32 ht h5))))
      refine lv_iload_n hx hb dX1_lowest_23 rfl (lv_at hl 2 rfl) ?_
      exact sm_iret hx hb hrt hlocks hS hP hD dX1_lowest_24
  · have hl : lv_has ls 3 [(0, .ref m0), (1, .int (nI r)), (2, .int (nI k))] := hl
    have hP : va_P D vwCl (sm_wM cZ m0 m1 m2 m3 m4 m5 m6 err (sm_fb V) (sm_fb S) (sm_fo M) (sm_fl M) (sm_fw O) (sm_fw G)) H := hP
    have hD : va_D _ (sm_wM cZ m0 m1 m2 m3 m4 m5 m6 err (sm_fb V) (sm_fb S) (sm_fo M) (sm_fl M) (sm_fw O) (sm_fw G)) := hD
    refine lv_iload_n hx hb dX1_lowest_2 rfl (lv_at hl 2 rfl) ?_
    refine lv_bipush (v := 32) hx hb dX1_lowest_3 (by decide) ?_
    refine lv_icmp_ge (tgt := 23) hx hb dX1_lowest_5 rfl (fun z => absurd z (nI_ge (b := 32) (Nat.lt_of_lt_of_le hk ht) (by decide))) (fun _ => ?_)
    refine lv_aload_n hx hb dX1_lowest_8 rfl (lv_at hl 0 rfl) ?_
    refine lv_iload_n hx hb dX1_lowest_9 rfl (lv_at hl 1 rfl) ?_
    refine lv_iload_n hx hb dX1_lowest_10 rfl (lv_at hl 2 rfl) ?_
    refine sm_callV (C := RX1) (As := [.int (nI r), .int (nI k)]) (rest := []) (wr := []) (wn := (sm_wM cZ m0 m1 m2 m3 m4 m5 m6 err (sm_fb V) (sm_fb S) (sm_fo M) (sm_fl M) (sm_fw O) (sm_fw G))) (st1 := [.int (sm_bI (bt (S r) k))]) ⟨hx, hb, hml, hown, hts⟩ (c_un l D cZ m0 m1 m2 m3 m4 m5 m6 err (sm_fb V) (sm_fo M) (sm_fl M) (sm_fw O) (sm_fw G) S r k (by omega) (by omega)) (cwV 2 hts (sm_gV (i1 := 285) (i2 := 286) (i3 := 353) (i4 := 2) (i5 := 287) rfl rfl rfl rfl rfl) rfl rfl rfl (by decide +kernel) ⟨Nat.le_of_ble_eq_true rfl, Nat.le_of_ble_eq_true rfl⟩) hK [0] rfl hP hD hS hA 0 rfl rfl [0, 1, 2, 3, 4, 5, 6] [] rfl rfl (by decide) (by decide) (by decide) rfl hl.1 rfl (Nat.le_of_ble_eq_true rfl) dX1_lowest_11 ⟨Nat.le_of_ble_eq_true rfl, Nat.le_of_ble_eq_true rfl⟩ rfl rfl (fun H locs hP hD hS => ?_)
    refine lv_if_ne (tgt := 23) hx hb dX1_lowest_14 rfl (fun z => absurd (sm_bn0 (sm_tz_lt hk)) z) (fun _ => ?_)
    refine lv_iinc (k := 2) (v := nI (k + 1)) (lv' := [(2, .int (nI (k + 1))), (0, .ref m0), (1, .int (nI r))]) hx hb dX1_lowest_17 hl rfl (sm_inc k) (by decide) rfl (fun ls hl => ?_)
    refine lv_goto (tgt := 2) hx hb dX1_lowest_20 rfl ?_
    exact ih _ _ _ (lv_sub hl [1, 2, 0] rfl) (sm_cP (rfl) hP) (sm_cD (rfl) hD) hS
set_option maxHeartbeats 4000000 in
set_option maxRecDepth 100000 in
theorem c_noughts (l : Launch) (D : va_G) (cZ : ClassId) (m0 m1 m2 m3 m4 m5 m6 : Nat) (err : Int32) (V S M : Nat → Int32) (O G : Int32) (r : Nat) (hr : r < 16) : sm_C l yX1_noughts wsX1_noughts ({ frames := 1, cells := 0, slots := 0, locals := 22 } : Room) D vwCl [(cZ, .boolean)] [.ref m0, .int (nI r)] (sm_wM cZ m0 m1 m2 m3 m4 m5 m6 err (sm_fb V) (sm_fb S) (sm_fo M) (sm_fl M) (sm_fw O) (sm_fw G)) (some (.int (nI (sm_tz (V r ||| S r))))) (sm_wM cZ m0 m1 m2 m3 m4 m5 m6 err (sm_fb V) (sm_fb S) (sm_fo M) (sm_fl M) (sm_fw O) (sm_fw G)) := by
  refine sm_start (cc := cX1_noughts) (maxL := 3) (ret := some .int) (lv := [(0, .ref m0), (1, .int (nI r))]) (by decide) rfl (Nat.le_of_ble_eq_true rfl) rfl ?_
  intro p e s m below meth c hx hb hrt hts hown hlocks hml hin hK hP hD hS hA ls hl
  have hw := sm_hw hts
  have ht := sm_tz_le (V r ||| S r)
  refine lv_iconst (v := 0) hx hb dX1_noughts_0 (by decide) ?_
  refine lv_istore_n (lv' := [(2, .int 0), (0, .ref m0), (1, .int (nI r))]) hx hb dX1_noughts_1 rfl hl (by decide) rfl (fun ls hl => ?_)
  refine sm_loopW (nL := 3) (lv := fun k => [(0, .ref m0), (1, .int (nI r)), (2, .int (nI k))]) (w := fun k => (sm_wM cZ m0 m1 m2 m3 m4 m5 m6 err (sm_fb V) (sm_fb S) (sm_fo M) (sm_fl M) (sm_fw O) (sm_fw G))) (sm_tz (V r ||| S r)) (fun H locs ls hl hP hD hS => ?_) (fun k hk ih H locs ls hl hP hD hS => ?_) (lv_sub hl [1, 2, 0] rfl) (sm_cP (rfl) hP) (sm_cD (rfl) hD) hS
  · have hl : lv_has ls 3 [(0, .ref m0), (1, .int (nI r)), (2, .int (nI (sm_tz (V r ||| S r))))] := hl
    have hP : va_P D vwCl (sm_wM cZ m0 m1 m2 m3 m4 m5 m6 err (sm_fb V) (sm_fb S) (sm_fo M) (sm_fl M) (sm_fw O) (sm_fw G)) H := hP
    have hD : va_D _ (sm_wM cZ m0 m1 m2 m3 m4 m5 m6 err (sm_fb V) (sm_fb S) (sm_fo M) (sm_fl M) (sm_fw O) (sm_fw G)) := hD
    refine lv_iload_n hx hb dX1_noughts_2 rfl (lv_at hl 2 rfl) ?_
    refine lv_bipush (v := 32) hx hb dX1_noughts_3 (by decide) ?_
    refine lv_icmp_ge (tgt := 32) hx hb dX1_noughts_5 rfl (fun h5 => ?_) (fun h5 => ?_)
    · refine lv_iload_n hx hb dX1_noughts_32 rfl (lv_at hl 2 rfl) ?_
      exact sm_iret hx hb hrt hlocks hS hP hD dX1_noughts_33
    · refine lv_aload_n hx hb dX1_noughts_8 rfl (lv_at hl 0 rfl) ?_
      refine lv_iload_n hx hb dX1_noughts_9 rfl (lv_at hl 1 rfl) ?_
      refine lv_iload_n hx hb dX1_noughts_10 rfl (lv_at hl 2 rfl) ?_
      refine sm_callV (C := RX1) (As := [.int (nI r), .int (nI (sm_tz (V r ||| S r)))]) (rest := []) (wr := []) (wn := (sm_wM cZ m0 m1 m2 m3 m4 m5 m6 err (sm_fb V) (sm_fb S) (sm_fo M) (sm_fl M) (sm_fw O) (sm_fw G))) (st1 := [.int (sm_bI (bt (S r) (sm_tz (V r ||| S r))))]) ⟨hx, hb, hml, hown, hts⟩ (c_un l D cZ m0 m1 m2 m3 m4 m5 m6 err (sm_fb V) (sm_fo M) (sm_fl M) (sm_fw O) (sm_fw G) S r (sm_tz (V r ||| S r)) (by omega) (sm_nle32 ht h5)) (cwV 2 hts (sm_gV (i1 := 285) (i2 := 286) (i3 := 353) (i4 := 2) (i5 := 287) rfl rfl rfl rfl rfl) rfl rfl rfl (by decide +kernel) ⟨Nat.le_of_ble_eq_true rfl, Nat.le_of_ble_eq_true rfl⟩) hK [0] rfl hP hD hS hA 0 rfl rfl [0, 1, 2, 3, 4, 5, 6] [] rfl rfl (by decide) (by decide) (by decide) rfl hl.1 rfl (Nat.le_of_ble_eq_true rfl) dX1_noughts_11 ⟨Nat.le_of_ble_eq_true rfl, Nat.le_of_ble_eq_true rfl⟩ rfl rfl (fun H locs hP hD hS => ?_)
      refine sm_ifb_ne (tgt := 32) hx hb dX1_noughts_14 rfl (fun h14 => ?_) (fun h14 => ?_)
      · refine lv_iload_n hx hb dX1_noughts_32 rfl (lv_at hl 2 rfl) ?_
        exact sm_iret hx hb hrt hlocks hS hP hD dX1_noughts_33
      · refine lv_aload_n hx hb dX1_noughts_17 rfl (lv_at hl 0 rfl) ?_
        refine lv_iload_n hx hb dX1_noughts_18 rfl (lv_at hl 1 rfl) ?_
        refine lv_iload_n hx hb dX1_noughts_19 rfl (lv_at hl 2 rfl) ?_
        refine sm_callV (C := RX1) (As := [.int (nI r), .int (nI (sm_tz (V r ||| S r)))]) (rest := []) (wr := []) (wn := (sm_wM cZ m0 m1 m2 m3 m4 m5 m6 err (sm_fb V) (sm_fb S) (sm_fo M) (sm_fl M) (sm_fw O) (sm_fw G))) (st1 := [.int (sm_bI (bt (V r) (sm_tz (V r ||| S r))))]) ⟨hx, hb, hml, hown, hts⟩ (c_is l D cZ m0 m1 m2 m3 m4 m5 m6 err (sm_fb S) (sm_fo M) (sm_fl M) (sm_fw O) (sm_fw G) V r (sm_tz (V r ||| S r)) (by omega) (sm_nle32 ht h5)) (cwV 2 hts (sm_gV (i1 := 291) (i2 := 292) (i3 := 355) (i4 := 2) (i5 := 293) rfl rfl rfl rfl rfl) rfl rfl rfl (by decide +kernel) ⟨Nat.le_of_ble_eq_true rfl, Nat.le_of_ble_eq_true rfl⟩) hK [0] rfl hP hD hS hA 0 rfl rfl [0, 1, 2, 3, 4, 5, 6] [] rfl rfl (by decide) (by decide) (by decide) rfl hl.1 rfl (Nat.le_of_ble_eq_true rfl) dX1_noughts_20 ⟨Nat.le_of_ble_eq_true rfl, Nat.le_of_ble_eq_true rfl⟩ rfl rfl (fun H locs hP hD hS => ?_)
        refine lv_if_ne (tgt := 32) hx hb dX1_noughts_23 rfl (fun _ => ?_) (fun z => absurd z (sm_bn1 (sm_ora (sm_nle32 ht h5) h14)))
        refine lv_iload_n hx hb dX1_noughts_32 rfl (lv_at hl 2 rfl) ?_
        exact sm_iret hx hb hrt hlocks hS hP hD dX1_noughts_33
  · have hl : lv_has ls 3 [(0, .ref m0), (1, .int (nI r)), (2, .int (nI k))] := hl
    have hP : va_P D vwCl (sm_wM cZ m0 m1 m2 m3 m4 m5 m6 err (sm_fb V) (sm_fb S) (sm_fo M) (sm_fl M) (sm_fw O) (sm_fw G)) H := hP
    have hD : va_D _ (sm_wM cZ m0 m1 m2 m3 m4 m5 m6 err (sm_fb V) (sm_fb S) (sm_fo M) (sm_fl M) (sm_fw O) (sm_fw G)) := hD
    refine lv_iload_n hx hb dX1_noughts_2 rfl (lv_at hl 2 rfl) ?_
    refine lv_bipush (v := 32) hx hb dX1_noughts_3 (by decide) ?_
    refine lv_icmp_ge (tgt := 32) hx hb dX1_noughts_5 rfl (fun z => absurd z (nI_ge (b := 32) (Nat.lt_of_lt_of_le hk ht) (by decide))) (fun _ => ?_)
    refine lv_aload_n hx hb dX1_noughts_8 rfl (lv_at hl 0 rfl) ?_
    refine lv_iload_n hx hb dX1_noughts_9 rfl (lv_at hl 1 rfl) ?_
    refine lv_iload_n hx hb dX1_noughts_10 rfl (lv_at hl 2 rfl) ?_
    refine sm_callV (C := RX1) (As := [.int (nI r), .int (nI k)]) (rest := []) (wr := []) (wn := (sm_wM cZ m0 m1 m2 m3 m4 m5 m6 err (sm_fb V) (sm_fb S) (sm_fo M) (sm_fl M) (sm_fw O) (sm_fw G))) (st1 := [.int (sm_bI (bt (S r) k))]) ⟨hx, hb, hml, hown, hts⟩ (c_un l D cZ m0 m1 m2 m3 m4 m5 m6 err (sm_fb V) (sm_fo M) (sm_fl M) (sm_fw O) (sm_fw G) S r k (by omega) (by omega)) (cwV 2 hts (sm_gV (i1 := 285) (i2 := 286) (i3 := 353) (i4 := 2) (i5 := 287) rfl rfl rfl rfl rfl) rfl rfl rfl (by decide +kernel) ⟨Nat.le_of_ble_eq_true rfl, Nat.le_of_ble_eq_true rfl⟩) hK [0] rfl hP hD hS hA 0 rfl rfl [0, 1, 2, 3, 4, 5, 6] [] rfl rfl (by decide) (by decide) (by decide) rfl hl.1 rfl (Nat.le_of_ble_eq_true rfl) dX1_noughts_11 ⟨Nat.le_of_ble_eq_true rfl, Nat.le_of_ble_eq_true rfl⟩ rfl rfl (fun H locs hP hD hS => ?_)
    refine lv_if_ne (tgt := 32) hx hb dX1_noughts_14 rfl (fun z => absurd (sm_bn0 (sm_orb hk).2) z) (fun _ => ?_)
    refine lv_aload_n hx hb dX1_noughts_17 rfl (lv_at hl 0 rfl) ?_
    refine lv_iload_n hx hb dX1_noughts_18 rfl (lv_at hl 1 rfl) ?_
    refine lv_iload_n hx hb dX1_noughts_19 rfl (lv_at hl 2 rfl) ?_
    refine sm_callV (C := RX1) (As := [.int (nI r), .int (nI k)]) (rest := []) (wr := []) (wn := (sm_wM cZ m0 m1 m2 m3 m4 m5 m6 err (sm_fb V) (sm_fb S) (sm_fo M) (sm_fl M) (sm_fw O) (sm_fw G))) (st1 := [.int (sm_bI (bt (V r) k))]) ⟨hx, hb, hml, hown, hts⟩ (c_is l D cZ m0 m1 m2 m3 m4 m5 m6 err (sm_fb S) (sm_fo M) (sm_fl M) (sm_fw O) (sm_fw G) V r k (by omega) (by omega)) (cwV 2 hts (sm_gV (i1 := 291) (i2 := 292) (i3 := 355) (i4 := 2) (i5 := 293) rfl rfl rfl rfl rfl) rfl rfl rfl (by decide +kernel) ⟨Nat.le_of_ble_eq_true rfl, Nat.le_of_ble_eq_true rfl⟩) hK [0] rfl hP hD hS hA 0 rfl rfl [0, 1, 2, 3, 4, 5, 6] [] rfl rfl (by decide) (by decide) (by decide) rfl hl.1 rfl (Nat.le_of_ble_eq_true rfl) dX1_noughts_20 ⟨Nat.le_of_ble_eq_true rfl, Nat.le_of_ble_eq_true rfl⟩ rfl rfl (fun H locs hP hD hS => ?_)
    refine lv_if_ne (tgt := 32) hx hb dX1_noughts_23 rfl (fun z => absurd (sm_bn0 (sm_orb hk).1) z) (fun _ => ?_)
    refine lv_iinc (k := 2) (v := nI (k + 1)) (lv' := [(2, .int (nI (k + 1))), (0, .ref m0), (1, .int (nI r))]) hx hb dX1_noughts_26 hl rfl (sm_inc k) (by decide) rfl (fun ls hl => ?_)
    refine lv_goto (tgt := 2) hx hb dX1_noughts_29 rfl ?_
    exact ih _ _ _ (lv_sub hl [1, 2, 0] rfl) (sm_cP (rfl) hP) (sm_cD (rfl) hD) hS
set_option maxHeartbeats 4000000 in
set_option maxRecDepth 100000 in
theorem c_from (l : Launch) (D : va_G) (cZ : ClassId) (m0 m1 m2 m3 m4 m5 m6 : Nat) (err : Int32) (V S M : Nat → Int32) (O G : Int32) (n : Nat) (hn : n < 2 ^ 31) : sm_C l yX1_from wsX1_from ({ frames := 0, cells := 0, slots := 0, locals := 0 } : Room) D vwCl [(cZ, .boolean)] [.ref m0, .int (nI n)] (sm_wM cZ m0 m1 m2 m3 m4 m5 m6 err (sm_fb V) (sm_fb S) (sm_fo M) (sm_fl M) (sm_fw O) (sm_fw G)) none (sm_wM cZ m0 m1 m2 m3 m4 m5 m6 err (sm_fb V) (sm_fb S) (sm_fo M) (sm_fl M) (sm_fw O) (sm_fw (sm_fr n))) := by
  refine sm_start (cc := cX1_from) (maxL := 3) (ret := none) (lv := [(0, .ref m0), (1, .int (nI n))]) (by decide) rfl (Nat.le_of_ble_eq_true rfl) rfl ?_
  intro p e s m below meth c hx hb hrt hts hown hlocks hml hin hK hP hD hS hA ls hl
  have hw := sm_hw hts
  refine lv_iconst (v := 0) hx hb dX1_from_0 (by decide) ?_
  refine lv_istore_n (lv' := [(2, .int 0), (0, .ref m0), (1, .int (nI n))]) hx hb dX1_from_1 rfl hl (by decide) rfl (fun ls hl => ?_)
  refine sm_loopW (nL := 3) (lv := fun k => [(0, .ref m0), (1, .int (nI n)), (2, .int (nI k))]) (w := fun k => (sm_wM cZ m0 m1 m2 m3 m4 m5 m6 err (sm_fb V) (sm_fb S) (sm_fo M) (sm_fl M) (sm_fw O) (sm_fill (sm_fw G) (fun i => decide (n ≤ i)) 0 k))) 32 (fun H locs ls hl hP hD hS => ?_) (fun k hk ih H locs ls hl hP hD hS => ?_) (lv_sub hl [1, 2, 0] rfl) (sm_cP (by simp only [sm_fill0]) hP) (sm_cD (by simp only [sm_fill0]) hD) hS
  · have hl : lv_has ls 3 [(0, .ref m0), (1, .int (nI n)), (2, .int (nI 32))] := hl
    have hP : va_P D vwCl (sm_wM cZ m0 m1 m2 m3 m4 m5 m6 err (sm_fb V) (sm_fb S) (sm_fo M) (sm_fl M) (sm_fw O) (sm_fill (sm_fw G) (fun i => decide (n ≤ i)) 0 32)) H := hP
    have hD : va_D _ (sm_wM cZ m0 m1 m2 m3 m4 m5 m6 err (sm_fb V) (sm_fb S) (sm_fo M) (sm_fl M) (sm_fw O) (sm_fill (sm_fw G) (fun i => decide (n ≤ i)) 0 32)) := hD
    refine lv_iload_n hx hb dX1_from_2 rfl (lv_at hl 2 rfl) ?_
    refine lv_bipush (v := 32) hx hb dX1_from_3 (by decide) ?_
    refine lv_icmp_ge (tgt := 30) hx hb dX1_from_5 rfl (fun _ => ?_) (fun z => absurd (by decide) z)
    exact sm_vret hx hb hrt hlocks hS (sm_cP (by rw [sm_fill_w]; rfl) hP) (sm_cD (by rw [sm_fill_w]; rfl) hD) dX1_from_30
  · have hl : lv_has ls 3 [(0, .ref m0), (1, .int (nI n)), (2, .int (nI k))] := hl
    have hP : va_P D vwCl (sm_wM cZ m0 m1 m2 m3 m4 m5 m6 err (sm_fb V) (sm_fb S) (sm_fo M) (sm_fl M) (sm_fw O) (sm_fill (sm_fw G) (fun i => decide (n ≤ i)) 0 k)) H := hP
    have hD : va_D _ (sm_wM cZ m0 m1 m2 m3 m4 m5 m6 err (sm_fb V) (sm_fb S) (sm_fo M) (sm_fl M) (sm_fw O) (sm_fill (sm_fw G) (fun i => decide (n ≤ i)) 0 k)) := hD
    refine lv_iload_n hx hb dX1_from_2 rfl (lv_at hl 2 rfl) ?_
    refine lv_bipush (v := 32) hx hb dX1_from_3 (by decide) ?_
    refine lv_icmp_ge (tgt := 30) hx hb dX1_from_5 rfl (fun z => absurd z (nI_ge (b := 32) hk (by decide))) (fun _ => ?_)
    refine lv_aload_n hx hb dX1_from_8 rfl (lv_at hl 0 rfl) ?_
    refine va_get (D := D) (ci := 1) (v := .ref m6) (C := RX1) (T := TX1) (N := 7) hx hb hts inX1 hown hK hP 0 rfl rfl 6 (by decide) (hw 238 rfl) (fun _ h9 => h9) rfl dX1_from_9 ?_
    refine lv_iload_n hx hb dX1_from_12 rfl (lv_at hl 2 rfl) ?_
    refine lv_iload_n hx hb dX1_from_13 rfl (lv_at hl 2 rfl) ?_
    refine lv_iload_n hx hb dX1_from_14 rfl (lv_at hl 1 rfl) ?_
    refine lv_icmp_lt (tgt := 22) hx hb dX1_from_15 rfl (fun h15 => ?_) (fun h15 => ?_)
    · refine lv_iconst (v := 0) hx hb dX1_from_22 (by decide) ?_
      refine sm_eqi (y := sm_bI (decide (n ≤ k))) (sm_frf hn hk h15) ?_
      refine sm_zast (f' := sm_fill (sm_fw G) (fun i => decide (n ≤ i)) 0 (k + 1)) (ws' := (sm_wM cZ m0 m1 m2 m3 m4 m5 m6 err (sm_fb V) (sm_fb S) (sm_fo M) (sm_fl M) (sm_fw O) (sm_fill (sm_fw G) (fun i => decide (n ≤ i)) 0 (k + 1)))) hx hb hK hP hD hS 6 0 rfl rfl (vp_in_nI (n := k) (by omega) (by decide)) dX1_from_23 (by rw [nI_clamp (by omega)]; exact sm_fillS0 (sm_fw G) (fun i => decide (n ≤ i)) k) rfl (fun H locs hP hD hS => ?_)
      refine lv_iinc (k := 2) (v := nI (k + 1)) (lv' := [(2, .int (nI (k + 1))), (0, .ref m0), (1, .int (nI n))]) hx hb dX1_from_24 hl rfl (sm_inc k) (by decide) rfl (fun ls hl => ?_)
      refine lv_goto (tgt := 2) hx hb dX1_from_27 rfl ?_
      exact ih _ _ _ (lv_sub hl [1, 2, 0] rfl) (sm_cP (rfl) hP) (sm_cD (rfl) hD) hS
    · refine lv_iconst (v := 1) hx hb dX1_from_18 (by decide) ?_
      refine lv_goto (tgt := 23) hx hb dX1_from_19 rfl ?_
      refine sm_eqi (y := sm_bI (decide (n ≤ k))) (sm_frt hn hk h15) ?_
      refine sm_zast (f' := sm_fill (sm_fw G) (fun i => decide (n ≤ i)) 0 (k + 1)) (ws' := (sm_wM cZ m0 m1 m2 m3 m4 m5 m6 err (sm_fb V) (sm_fb S) (sm_fo M) (sm_fl M) (sm_fw O) (sm_fill (sm_fw G) (fun i => decide (n ≤ i)) 0 (k + 1)))) hx hb hK hP hD hS 6 0 rfl rfl (vp_in_nI (n := k) (by omega) (by decide)) dX1_from_23 (by rw [nI_clamp (by omega)]; exact sm_fillS0 (sm_fw G) (fun i => decide (n ≤ i)) k) rfl (fun H locs hP hD hS => ?_)
      refine lv_iinc (k := 2) (v := nI (k + 1)) (lv' := [(2, .int (nI (k + 1))), (0, .ref m0), (1, .int (nI n))]) hx hb dX1_from_24 hl rfl (sm_inc k) (by decide) rfl (fun ls hl => ?_)
      refine lv_goto (tgt := 2) hx hb dX1_from_27 rfl ?_
      exact ih _ _ _ (lv_sub hl [1, 2, 0] rfl) (sm_cP (rfl) hP) (sm_cD (rfl) hD) hS
