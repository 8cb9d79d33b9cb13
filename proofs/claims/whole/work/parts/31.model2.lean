set_option maxHeartbeats 4000000 in
set_option maxRecDepth 100000 in
theorem c_mset (l : Launch) (D : va_G) (cZ : ClassId) (m0 m1 m2 m3 m4 m5 m6 : Nat) (err : Int32) (V S M : Nat → Int32) (O G : Int32) (r : Nat) (hr : r < 16) (v n : Int32) : sm_C l yX1_set wsX1_set ({ frames := 5, cells := 0, slots := 0, locals := 140 } : Room) D vwCl [(cZ, .boolean)] [.ref m0, .int (nI r), .int v, .int n] (sm_wM cZ m0 m1 m2 m3 m4 m5 m6 err (sm_fb V) (sm_fb S) (sm_fo M) (sm_fl M) (sm_fw O) (sm_fw G)) none (sm_wM cZ m0 m1 m2 m3 m4 m5 m6 0 (sm_fb (upd V r v)) (sm_fb (upd S r n)) (sm_fo M) (sm_fl M) (sm_fw v) (sm_fw n)) := by
  refine sm_start (cc := cX1_set) (maxL := 5) (ret := none) (lv := [(0, .ref m0), (1, .int (nI r)), (2, .int v), (3, .int n)]) (by decide) rfl (Nat.le_of_ble_eq_true rfl) rfl ?_
  intro p e s m below meth c hx hb hrt hts hown hlocks hml hin hK hP hD hS hA ls hl
  have hw := sm_hw hts
  refine lv_aload_n hx hb dX1_set_0 rfl (lv_at hl 0 rfl) ?_
  refine lv_iload_n hx hb dX1_set_1 rfl (lv_at hl 1 rfl) ?_
  refine sm_callS (As := [.int (nI r)]) (rest := [.ref m0]) (wr := (sm_wM cZ m0 m1 m2 m3 m4 m5 m6 err (sm_fb V) (sm_fb S) (sm_fo M) (sm_fl M) (sm_fw O) (sm_fw G))) (wn := (sm_wM cZ m0 m1 m2 m3 m4 m5 m6 err (sm_fb V) (sm_fb S) (sm_fo M) (sm_fl M) (sm_fw O) (sm_fw G))) (st1 := [.int (sm_bI false), .ref m0]) ⟨hx, hb, hml, hown, hts⟩ (c_none_f l D r (by omega)) (va_cwS 1 hts (sm_gS (i1 := 263) (i2 := 264) (i4 := 2) (i5 := 265) rfl rfl rfl rfl) rfl rfl rfl (by decide +kernel) ⟨Nat.le_of_ble_eq_true rfl, Nat.le_of_ble_eq_true rfl⟩) hK [] rfl hP hD hS hA [] [0, 1, 2, 3, 4, 5, 6] rfl rfl (by decide) (by decide) (by decide) rfl hl.1 rfl (Nat.le_of_ble_eq_true rfl) dX1_set_2 ⟨Nat.le_of_ble_eq_true rfl, Nat.le_of_ble_eq_true rfl⟩ rfl rfl (fun H locs hP hD hS => ?_)
  refine lv_iconst (v := 1) hx hb dX1_set_5 (by decide) ?_
  refine sm_callV (C := RX1) (As := [.int (sm_bI false), .int 1]) (rest := []) (wr := []) (wn := (sm_wM cZ m0 m1 m2 m3 m4 m5 m6 0 (sm_fb V) (sm_fb S) (sm_fo M) (sm_fl M) (sm_fw O) (sm_fw G))) (st1 := [.int (sm_bI false)]) ⟨hx, hb, hml, hown, hts⟩ (c_fails_f l D cZ m0 m1 m2 m3 m4 m5 m6 err V S M O G 1) (cwV 2 hts (sm_gV (i1 := 266) (i2 := 267) (i3 := 348) (i4 := 2) (i5 := 268) rfl rfl rfl rfl rfl) rfl rfl rfl (by decide +kernel) ⟨Nat.le_of_ble_eq_true rfl, Nat.le_of_ble_eq_true rfl⟩) hK [0] rfl hP hD hS hA 0 rfl rfl [0, 1, 2, 3, 4, 5, 6] [] rfl rfl (by decide) (by decide) (by decide) rfl hl.1 rfl (Nat.le_of_ble_eq_true rfl) dX1_set_6 ⟨Nat.le_of_ble_eq_true rfl, Nat.le_of_ble_eq_true rfl⟩ rfl rfl (fun H locs hP hD hS => ?_)
  refine lv_if_eq (tgt := 13) hx hb dX1_set_9 rfl (fun _ => ?_) (fun z => absurd (by decide) z)
  refine lv_aload_n hx hb dX1_set_13 rfl (lv_at hl 0 rfl) ?_
  refine lv_iload_n hx hb dX1_set_14 rfl (lv_at hl 2 rfl) ?_
  refine sm_callV (C := RX1) (As := [.int v]) (rest := []) (wr := []) (wn := (sm_wM cZ m0 m1 m2 m3 m4 m5 m6 0 (sm_fb V) (sm_fb S) (sm_fo M) (sm_fl M) (sm_fw v) (sm_fw 0))) (st1 := []) ⟨hx, hb, hml, hown, hts⟩ (c_make l D cZ m0 m1 m2 m3 m4 m5 m6 0 V S M O G v) (cwV 1 hts (sm_gV (i1 := 269) (i2 := 270) (i3 := 349) (i4 := 2) (i5 := 271) rfl rfl rfl rfl rfl) rfl rfl rfl (by decide +kernel) ⟨Nat.le_of_ble_eq_true rfl, Nat.le_of_ble_eq_true rfl⟩) hK [0] rfl hP hD hS hA 0 rfl rfl [0, 1, 2, 3, 4, 5, 6] [] rfl rfl (by decide) (by decide) (by decide) rfl hl.1 rfl (Nat.le_of_ble_eq_true rfl) dX1_set_15 ⟨Nat.le_of_ble_eq_true rfl, Nat.le_of_ble_eq_true rfl⟩ rfl rfl (fun H locs hP hD hS => ?_)
  refine lv_iconst (v := 0) hx hb dX1_set_18 (by decide) ?_
  refine lv_istore (lv' := [(4, .int 0), (0, .ref m0), (1, .int (nI r)), (2, .int v), (3, .int n)]) hx hb dX1_set_19 hl (by decide) rfl (fun ls hl => ?_)
  refine sm_loopW (nL := 5) (lv := fun k => [(0, .ref m0), (1, .int (nI r)), (2, .int v), (3, .int n), (4, .int (nI k))]) (w := fun k => (sm_wM cZ m0 m1 m2 m3 m4 m5 m6 0 (sm_fb V) (sm_fb S) (sm_fo M) (sm_fl M) (sm_fw v) (sm_fill (sm_fw 0) (bt n) 0 k))) 32 (fun H locs ls hl hP hD hS => ?_) (fun k hk ih H locs ls hl hP hD hS => ?_) (lv_sub hl [1, 2, 3, 4, 0] rfl) (sm_cP (by simp only [sm_fill0]) hP) (sm_cD (by simp only [sm_fill0]) hD) hS
  · have hl : lv_has ls 5 [(0, .ref m0), (1, .int (nI r)), (2, .int v), (3, .int n), (4, .int (nI 32))] := hl
    have hP : va_P D vwCl (sm_wM cZ m0 m1 m2 m3 m4 m5 m6 0 (sm_fb V) (sm_fb S) (sm_fo M) (sm_fl M) (sm_fw v) (sm_fill (sm_fw 0) (bt n) 0 32)) H := hP
    have hD : va_D _ (sm_wM cZ m0 m1 m2 m3 m4 m5 m6 0 (sm_fb V) (sm_fb S) (sm_fo M) (sm_fl M) (sm_fw v) (sm_fill (sm_fw 0) (bt n) 0 32)) := hD
    refine lv_iload hx hb dX1_set_21 (lv_at hl 4 rfl) ?_
    refine lv_bipush (v := 32) hx hb dX1_set_23 (by decide) ?_
    refine lv_icmp_ge (tgt := 56) hx hb dX1_set_25 rfl (fun _ => ?_) (fun z => absurd (by decide) z)
    have hP : va_P D vwCl (sm_wM cZ m0 m1 m2 m3 m4 m5 m6 0 (sm_fb V) (sm_fb S) (sm_fo M) (sm_fl M) (sm_fw v) (sm_fw n)) H := sm_cP (by rw [sm_fill_w, sm_mkx (fun _ _ => rfl)]) hP
    have hD : va_D _ (sm_wM cZ m0 m1 m2 m3 m4 m5 m6 0 (sm_fb V) (sm_fb S) (sm_fo M) (sm_fl M) (sm_fw v) (sm_fw n)) := sm_cD (by rw [sm_fill_w, sm_mkx (fun _ _ => rfl)]) hD
    refine lv_aload_n hx hb dX1_set_56 rfl (lv_at hl 0 rfl) ?_
    refine lv_iload_n hx hb dX1_set_57 rfl (lv_at hl 1 rfl) ?_
    refine sm_callV (C := RX1) (As := [.int (nI r)]) (rest := []) (wr := []) (wn := (sm_wM cZ m0 m1 m2 m3 m4 m5 m6 0 (sm_fb (upd V r v)) (sm_fb (upd S r n)) (sm_fo M) (sm_fl M) (sm_fw v) (sm_fw n))) (st1 := []) ⟨hx, hb, hml, hown, hts⟩ (c_give l D cZ m0 m1 m2 m3 m4 m5 m6 0 V S M v n r (by omega)) (cwV 1 hts (sm_gV (i1 := 272) (i2 := 273) (i3 := 350) (i4 := 2) (i5 := 274) rfl rfl rfl rfl rfl) rfl rfl rfl (by decide +kernel) ⟨Nat.le_of_ble_eq_true rfl, Nat.le_of_ble_eq_true rfl⟩) hK [0] rfl hP hD hS hA 0 rfl rfl [0, 1, 2, 3, 4, 5, 6] [] rfl rfl (by decide) (by decide) (by decide) rfl hl.1 rfl (Nat.le_of_ble_eq_true rfl) dX1_set_58 ⟨Nat.le_of_ble_eq_true rfl, Nat.le_of_ble_eq_true rfl⟩ rfl rfl (fun H locs hP hD hS => ?_)
    exact sm_vret hx hb hrt hlocks hS hP hD dX1_set_61
  · have hl : lv_has ls 5 [(0, .ref m0), (1, .int (nI r)), (2, .int v), (3, .int n), (4, .int (nI k))] := hl
    have hP : va_P D vwCl (sm_wM cZ m0 m1 m2 m3 m4 m5 m6 0 (sm_fb V) (sm_fb S) (sm_fo M) (sm_fl M) (sm_fw v) (sm_fill (sm_fw 0) (bt n) 0 k)) H := hP
    have hD : va_D _ (sm_wM cZ m0 m1 m2 m3 m4 m5 m6 0 (sm_fb V) (sm_fb S) (sm_fo M) (sm_fl M) (sm_fw v) (sm_fill (sm_fw 0) (bt n) 0 k)) := hD
    refine lv_iload hx hb dX1_set_21 (lv_at hl 4 rfl) ?_
    refine lv_bipush (v := 32) hx hb dX1_set_23 (by decide) ?_
    refine lv_icmp_ge (tgt := 56) hx hb dX1_set_25 rfl (fun z => absurd z (nI_ge (b := 32) hk (by decide))) (fun _ => ?_)
    refine lv_aload_n hx hb dX1_set_28 rfl (lv_at hl 0 rfl) ?_
    refine va_get (D := D) (ci := 1) (v := .ref m6) (C := RX1) (T := TX1) (N := 7) hx hb hts inX1 hown hK hP 0 rfl rfl 6 (by decide) (hw 238 rfl) (fun _ h9 => h9) rfl dX1_set_29 ?_
    refine lv_iload hx hb dX1_set_32 (lv_at hl 4 rfl) ?_
    refine lv_iload_n hx hb dX1_set_34 rfl (lv_at hl 3 rfl) ?_
    refine lv_iload hx hb dX1_set_35 (lv_at hl 4 rfl) ?_
    refine lv_ishr hx hb dX1_set_37 ?_
    refine lv_iconst (v := 1) hx hb dX1_set_38 (by decide) ?_
    refine lv_iand hx hb dX1_set_39 ?_
    refine sm_eqi (y := sm_bI (bt n k)) (sm_tst n hk) ?_
    refine lv_iconst (v := 1) hx hb dX1_set_40 (by decide) ?_
    refine lv_icmp_ne (tgt := 48) hx hb dX1_set_41 rfl (fun h41 => ?_) (fun h41 => ?_)
    · refine lv_iconst (v := 0) hx hb dX1_set_48 (by decide) ?_
      refine sm_eqi (y := sm_bI (bt n k)) ((sm_b1f h41).symm) ?_
      refine sm_zast (f' := sm_fill (sm_fw 0) (bt n) 0 (k + 1)) (ws' := (sm_wM cZ m0 m1 m2 m3 m4 m5 m6 0 (sm_fb V) (sm_fb S) (sm_fo M) (sm_fl M) (sm_fw v) (sm_fill (sm_fw 0) (bt n) 0 (k + 1)))) hx hb hK hP hD hS 6 0 rfl rfl (vp_in_nI (n := k) (by omega) (by decide)) dX1_set_49 (by rw [nI_clamp (by omega)]; exact sm_fillS0 (sm_fw 0) (bt n) k) rfl (fun H locs hP hD hS => ?_)
      refine lv_iinc (k := 4) (v := nI (k + 1)) (lv' := [(4, .int (nI (k + 1))), (0, .ref m0), (1, .int (nI r)), (2, .int v), (3, .int n)]) hx hb dX1_set_50 hl rfl (sm_inc k) (by decide) rfl (fun ls hl => ?_)
      refine lv_goto (tgt := 21) hx hb dX1_set_53 rfl ?_
      exact ih _ _ _ (lv_sub hl [1, 2, 3, 4, 0] rfl) (sm_cP (rfl) hP) (sm_cD (rfl) hD) hS
    · refine lv_iconst (v := 1) hx hb dX1_set_44 (by decide) ?_
      refine lv_goto (tgt := 49) hx hb dX1_set_45 rfl ?_
      refine sm_eqi (y := sm_bI (bt n k)) (h41.symm) ?_
      refine sm_zast (f' := sm_fill (sm_fw 0) (bt n) 0 (k + 1)) (ws' := (sm_wM cZ m0 m1 m2 m3 m4 m5 m6 0 (sm_fb V) (sm_fb S) (sm_fo M) (sm_fl M) (sm_fw v) (sm_fill (sm_fw 0) (bt n) 0 (k + 1)))) hx hb hK hP hD hS 6 0 rfl rfl (vp_in_nI (n := k) (by omega) (by decide)) dX1_set_49 (by rw [nI_clamp (by omega)]; exact sm_fillS0 (sm_fw 0) (bt n) k) rfl (fun H locs hP hD hS => ?_)
      refine lv_iinc (k := 4) (v := nI (k + 1)) (lv' := [(4, .int (nI (k + 1))), (0, .ref m0), (1, .int (nI r)), (2, .int v), (3, .int n)]) hx hb dX1_set_50 hl rfl (sm_inc k) (by decide) rfl (fun ls hl => ?_)
      refine lv_goto (tgt := 21) hx hb dX1_set_53 rfl ?_
      exact ih _ _ _ (lv_sub hl [1, 2, 3, 4, 0] rfl) (sm_cP (rfl) hP) (sm_cD (rfl) hD) hS
set_option maxHeartbeats 4000000 in
set_option maxRecDepth 100000 in
theorem c_mset_x (l : Launch) (D : va_G) (cZ : ClassId) (m0 m1 m2 m3 m4 m5 m6 : Nat) (err : Int32) (V S M : Nat → Int32) (O G : Int32) (i : Int32) (hi : i < 0 ∨ 16 ≤ i) (v n : Int32) : sm_C l yX1_set wsX1_set ({ frames := 5, cells := 0, slots := 0, locals := 140 } : Room) D vwCl [(cZ, .boolean)] [.ref m0, .int i, .int v, .int n] (sm_wM cZ m0 m1 m2 m3 m4 m5 m6 err (sm_fb V) (sm_fb S) (sm_fo M) (sm_fl M) (sm_fw O) (sm_fw G)) none (sm_wM cZ m0 m1 m2 m3 m4 m5 m6 1 (sm_fb V) (sm_fb S) (sm_fo M) (sm_fl M) (sm_fw O) (sm_fw G)) := by
  refine sm_start (cc := cX1_set) (maxL := 5) (ret := none) (lv := [(0, .ref m0), (1, .int i), (2, .int v), (3, .int n)]) (by decide) rfl (Nat.le_of_ble_eq_true rfl) rfl ?_
  intro p e s m below meth c hx hb hrt hts hown hlocks hml hin hK hP hD hS hA ls hl
  have hw := sm_hw hts
  refine lv_aload_n hx hb dX1_set_0 rfl (lv_at hl 0 rfl) ?_
  refine lv_iload_n hx hb dX1_set_1 rfl (lv_at hl 1 rfl) ?_
  refine sm_callS (As := [.int i]) (rest := [.ref m0]) (wr := (sm_wM cZ m0 m1 m2 m3 m4 m5 m6 err (sm_fb V) (sm_fb S) (sm_fo M) (sm_fl M) (sm_fw O) (sm_fw G))) (wn := (sm_wM cZ m0 m1 m2 m3 m4 m5 m6 err (sm_fb V) (sm_fb S) (sm_fo M) (sm_fl M) (sm_fw O) (sm_fw G))) (st1 := [.int (sm_bI true), .ref m0]) ⟨hx, hb, hml, hown, hts⟩ (c_none_t l D i hi) (va_cwS 1 hts (sm_gS (i1 := 263) (i2 := 264) (i4 := 2) (i5 := 265) rfl rfl rfl rfl) rfl rfl rfl (by decide +kernel) ⟨Nat.le_of_ble_eq_true rfl, Nat.le_of_ble_eq_true rfl⟩) hK [] rfl hP hD hS hA [] [0, 1, 2, 3, 4, 5, 6] rfl rfl (by decide) (by decide) (by decide) rfl hl.1 rfl (Nat.le_of_ble_eq_true rfl) dX1_set_2 ⟨Nat.le_of_ble_eq_true rfl, Nat.le_of_ble_eq_true rfl⟩ rfl rfl (fun H locs hP hD hS => ?_)
  refine lv_iconst (v := 1) hx hb dX1_set_5 (by decide) ?_
  refine sm_callV (C := RX1) (As := [.int (sm_bI true), .int 1]) (rest := []) (wr := []) (wn := (sm_wM cZ m0 m1 m2 m3 m4 m5 m6 1 (sm_fb V) (sm_fb S) (sm_fo M) (sm_fl M) (sm_fw O) (sm_fw G))) (st1 := [.int (sm_bI true)]) ⟨hx, hb, hml, hown, hts⟩ (c_fails_t l D cZ m0 m1 m2 m3 m4 m5 m6 err V S M O G 1) (cwV 2 hts (sm_gV (i1 := 266) (i2 := 267) (i3 := 348) (i4 := 2) (i5 := 268) rfl rfl rfl rfl rfl) rfl rfl rfl (by decide +kernel) ⟨Nat.le_of_ble_eq_true rfl, Nat.le_of_ble_eq_true rfl⟩) hK [0] rfl hP hD hS hA 0 rfl rfl [0, 1, 2, 3, 4, 5, 6] [] rfl rfl (by decide) (by decide) (by decide) rfl hl.1 rfl (Nat.le_of_ble_eq_true rfl) dX1_set_6 ⟨Nat.le_of_ble_eq_true rfl, Nat.le_of_ble_eq_true rfl⟩ rfl rfl (fun H locs hP hD hS => ?_)
  refine lv_if_eq (tgt := 13) hx hb dX1_set_9 rfl (fun z => absurd z (by decide)) (fun _ => ?_)
  exact sm_vret hx hb hrt hlocks hS hP hD dX1_set_12
set_option maxHeartbeats 4000000 in
set_option maxRecDepth 100000 in
theorem c_mvalue (l : Launch) (D : va_G) (cZ : ClassId) (m0 m1 m2 m3 m4 m5 m6 : Nat) (err : Int32) (V S M : Nat → Int32) (O G : Int32) (r : Nat) (hr : r < 16) : sm_C l yX1_value wsX1_value ({ frames := 5, cells := 0, slots := 0, locals := 140 } : Room) D vwCl [(cZ, .boolean)] [.ref m0, .int (nI r)] (sm_wM cZ m0 m1 m2 m3 m4 m5 m6 err (sm_fb V) (sm_fb S) (sm_fo M) (sm_fl M) (sm_fw O) (sm_fw G)) (some (.int (V r))) (sm_wM cZ m0 m1 m2 m3 m4 m5 m6 0 (sm_fb V) (sm_fb S) (sm_fo M) (sm_fl M) (sm_fw O) (sm_fw G)) := by
  refine sm_start (cc := cX1_value) (maxL := 2) (ret := some .int) (lv := [(0, .ref m0), (1, .int (nI r))]) (by decide) rfl (Nat.le_of_ble_eq_true rfl) rfl ?_
  intro p e s m below meth c hx hb hrt hts hown hlocks hml hin hK hP hD hS hA ls hl
  have hw := sm_hw hts
  refine lv_aload_n hx hb dX1_value_0 rfl (lv_at hl 0 rfl) ?_
  refine lv_iload_n hx hb dX1_value_1 rfl (lv_at hl 1 rfl) ?_
  refine sm_callS (As := [.int (nI r)]) (rest := [.ref m0]) (wr := (sm_wM cZ m0 m1 m2 m3 m4 m5 m6 err (sm_fb V) (sm_fb S) (sm_fo M) (sm_fl M) (sm_fw O) (sm_fw G))) (wn := (sm_wM cZ m0 m1 m2 m3 m4 m5 m6 err (sm_fb V) (sm_fb S) (sm_fo M) (sm_fl M) (sm_fw O) (sm_fw G))) (st1 := [.int (sm_bI false), .ref m0]) ⟨hx, hb, hml, hown, hts⟩ (c_none_f l D r (by omega)) (va_cwS 1 hts (sm_gS (i1 := 263) (i2 := 264) (i4 := 2) (i5 := 265) rfl rfl rfl rfl) rfl rfl rfl (by decide +kernel) ⟨Nat.le_of_ble_eq_true rfl, Nat.le_of_ble_eq_true rfl⟩) hK [] rfl hP hD hS hA [] [0, 1, 2, 3, 4, 5, 6] rfl rfl (by decide) (by decide) (by decide) rfl hl.1 rfl (Nat.le_of_ble_eq_true rfl) dX1_value_2 ⟨Nat.le_of_ble_eq_true rfl, Nat.le_of_ble_eq_true rfl⟩ rfl rfl (fun H locs hP hD hS => ?_)
  refine lv_iconst (v := 1) hx hb dX1_value_5 (by decide) ?_
  refine sm_callV (C := RX1) (As := [.int (sm_bI false), .int 1]) (rest := []) (wr := []) (wn := (sm_wM cZ m0 m1 m2 m3 m4 m5 m6 0 (sm_fb V) (sm_fb S) (sm_fo M) (sm_fl M) (sm_fw O) (sm_fw G))) (st1 := [.int (sm_bI false)]) ⟨hx, hb, hml, hown, hts⟩ (c_fails_f l D cZ m0 m1 m2 m3 m4 m5 m6 err V S M O G 1) (cwV 2 hts (sm_gV (i1 := 266) (i2 := 267) (i3 := 348) (i4 := 2) (i5 := 268) rfl rfl rfl rfl rfl) rfl rfl rfl (by decide +kernel) ⟨Nat.le_of_ble_eq_true rfl, Nat.le_of_ble_eq_true rfl⟩) hK [0] rfl hP hD hS hA 0 rfl rfl [0, 1, 2, 3, 4, 5, 6] [] rfl rfl (by decide) (by decide) (by decide) rfl hl.1 rfl (Nat.le_of_ble_eq_true rfl) dX1_value_6 ⟨Nat.le_of_ble_eq_true rfl, Nat.le_of_ble_eq_true rfl⟩ rfl rfl (fun H locs hP hD hS => ?_)
  refine lv_if_eq (tgt := 16) hx hb dX1_value_9 rfl (fun _ => ?_) (fun z => absurd (by decide) z)
  refine lv_aload_n hx hb dX1_value_16 rfl (lv_at hl 0 rfl) ?_
  refine lv_iload_n hx hb dX1_value_17 rfl (lv_at hl 1 rfl) ?_
  refine sm_callV (C := RX1) (As := [.int (nI r)]) (rest := []) (wr := []) (wn := (sm_wM cZ m0 m1 m2 m3 m4 m5 m6 0 (sm_fb V) (sm_fb S) (sm_fo M) (sm_fl M) (sm_fw O) (sm_fw G))) (st1 := [.int (V r)]) ⟨hx, hb, hml, hown, hts⟩ (c_number l D cZ m0 m1 m2 m3 m4 m5 m6 0 V S M O G r (by omega)) (cwV 1 hts (sm_gV (i1 := 279) (i2 := 280) (i3 := 351) (i4 := 2) (i5 := 281) rfl rfl rfl rfl rfl) rfl rfl rfl (by decide +kernel) ⟨Nat.le_of_ble_eq_true rfl, Nat.le_of_ble_eq_true rfl⟩) hK [0] rfl hP hD hS hA 0 rfl rfl [0, 1, 2, 3, 4, 5, 6] [] rfl rfl (by decide) (by decide) (by decide) rfl hl.1 rfl (Nat.le_of_ble_eq_true rfl) dX1_value_18 ⟨Nat.le_of_ble_eq_true rfl, Nat.le_of_ble_eq_true rfl⟩ rfl rfl (fun H locs hP hD hS => ?_)
  exact sm_iret hx hb hrt hlocks hS hP hD dX1_value_21
set_option maxHeartbeats 4000000 in
set_option maxRecDepth 100000 in
theorem c_mvalue_x (l : Launch) (D : va_G) (cZ : ClassId) (m0 m1 m2 m3 m4 m5 m6 : Nat) (err : Int32) (V S M : Nat → Int32) (O G : Int32) (i : Int32) (hi : i < 0 ∨ 16 ≤ i) : sm_C l yX1_value wsX1_value ({ frames := 5, cells := 0, slots := 0, locals := 140 } : Room) D vwCl [(cZ, .boolean)] [.ref m0, .int i] (sm_wM cZ m0 m1 m2 m3 m4 m5 m6 err (sm_fb V) (sm_fb S) (sm_fo M) (sm_fl M) (sm_fw O) (sm_fw G)) (some (.int 0)) (sm_wM cZ m0 m1 m2 m3 m4 m5 m6 1 (sm_fb V) (sm_fb S) (sm_fo M) (sm_fl M) (sm_fw O) (sm_fw G)) := by
  refine sm_start (cc := cX1_value) (maxL := 2) (ret := some .int) (lv := [(0, .ref m0), (1, .int i)]) (by decide) rfl (Nat.le_of_ble_eq_true rfl) rfl ?_
  intro p e s m below meth c hx hb hrt hts hown hlocks hml hin hK hP hD hS hA ls hl
  have hw := sm_hw hts
  refine lv_aload_n hx hb dX1_value_0 rfl (lv_at hl 0 rfl) ?_
  refine lv_iload_n hx hb dX1_value_1 rfl (lv_at hl 1 rfl) ?_
  refine sm_callS (As := [.int i]) (rest := [.ref m0]) (wr := (sm_wM cZ m0 m1 m2 m3 m4 m5 m6 err (sm_fb V) (sm_fb S) (sm_fo M) (sm_fl M) (sm_fw O) (sm_fw G))) (wn := (sm_wM cZ m0 m1 m2 m3 m4 m5 m6 err (sm_fb V) (sm_fb S) (sm_fo M) (sm_fl M) (sm_fw O) (sm_fw G))) (st1 := [.int (sm_bI true), .ref m0]) ⟨hx, hb, hml, hown, hts⟩ (c_none_t l D i hi) (va_cwS 1 hts (sm_gS (i1 := 263) (i2 := 264) (i4 := 2) (i5 := 265) rfl rfl rfl rfl) rfl rfl rfl (by decide +kernel) ⟨Nat.le_of_ble_eq_true rfl, Nat.le_of_ble_eq_true rfl⟩) hK [] rfl hP hD hS hA [] [0, 1, 2, 3, 4, 5, 6] rfl rfl (by decide) (by decide) (by decide) rfl hl.1 rfl (Nat.le_of_ble_eq_true rfl) dX1_value_2 ⟨Nat.le_of_ble_eq_true rfl, Nat.le_of_ble_eq_true rfl⟩ rfl rfl (fun H locs hP hD hS => ?_)
  refine lv_iconst (v := 1) hx hb dX1_value_5 (by decide) ?_
  refine sm_callV (C := RX1) (As := [.int (sm_bI true), .int 1]) (rest := []) (wr := []) (wn := (sm_wM cZ m0 m1 m2 m3 m4 m5 m6 1 (sm_fb V) (sm_fb S) (sm_fo M) (sm_fl M) (sm_fw O) (sm_fw G))) (st1 := [.int (sm_bI true)]) ⟨hx, hb, hml, hown, hts⟩ (c_fails_t l D cZ m0 m1 m2 m3 m4 m5 m6 err V S M O G 1) (cwV 2 hts (sm_gV (i1 := 266) (i2 := 267) (i3 := 348) (i4 := 2) (i5 := 268) rfl rfl rfl rfl rfl) rfl rfl rfl (by decide +kernel) ⟨Nat.le_of_ble_eq_true rfl, Nat.le_of_ble_eq_true rfl⟩) hK [0] rfl hP hD hS hA 0 rfl rfl [0, 1, 2, 3, 4, 5, 6] [] rfl rfl (by decide) (by decide) (by decide) rfl hl.1 rfl (Nat.le_of_ble_eq_true rfl) dX1_value_6 ⟨Nat.le_of_ble_eq_true rfl, Nat.le_of_ble_eq_true rfl⟩ rfl rfl (fun H locs hP hD hS => ?_)
  refine lv_if_eq (tgt := 16) hx hb dX1_value_9 rfl (fun z => absurd z (by decide)) (fun _ => ?_)
  refine lv_iconst (v := 0) hx hb dX1_value_12 (by decide) ?_
  refine lv_goto (tgt := 21) hx hb dX1_value_13 rfl ?_
  exact sm_iret hx hb hrt hlocks hS hP hD dX1_value_21
set_option maxHeartbeats 4000000 in
set_option maxRecDepth 100000 in
theorem c_mnot (l : Launch) (D : va_G) (cZ : ClassId) (m0 m1 m2 m3 m4 m5 m6 : Nat) (err : Int32) (V S M : Nat → Int32) (O G : Int32) (r : Nat) (hr : r < 16) : sm_C l yX1_not wsX1_not ({ frames := 5, cells := 0, slots := 0, locals := 140 } : Room) D vwCl [(cZ, .boolean)] [.ref m0, .int (nI r)] (sm_wM cZ m0 m1 m2 m3 m4 m5 m6 err (sm_fb V) (sm_fb S) (sm_fo M) (sm_fl M) (sm_fw O) (sm_fw G)) (some (.int (S r))) (sm_wM cZ m0 m1 m2 m3 m4 m5 m6 0 (sm_fb V) (sm_fb S) (sm_fo M) (sm_fl M) (sm_fw O) (sm_fw G)) := by
  refine sm_start (cc := cX1_not) (maxL := 4) (ret := some .int) (lv := [(0, .ref m0), (1, .int (nI r))]) (by decide) rfl (Nat.le_of_ble_eq_true rfl) rfl ?_
  intro p e s m below meth c hx hb hrt hts hown hlocks hml hin hK hP hD hS hA ls hl
  have hw := sm_hw hts
  refine lv_aload_n hx hb dX1_not_0 rfl (lv_at hl 0 rfl) ?_
  refine lv_iload_n hx hb dX1_not_1 rfl (lv_at hl 1 rfl) ?_
  refine sm_callS (As := [.int (nI r)]) (rest := [.ref m0]) (wr := (sm_wM cZ m0 m1 m2 m3 m4 m5 m6 err (sm_fb V) (sm_fb S) (sm_fo M) (sm_fl M) (sm_fw O) (sm_fw G))) (wn := (sm_wM cZ m0 m1 m2 m3 m4 m5 m6 err (sm_fb V) (sm_fb S) (sm_fo M) (sm_fl M) (sm_fw O) (sm_fw G))) (st1 := [.int (sm_bI false), .ref m0]) ⟨hx, hb, hml, hown, hts⟩ (c_none_f l D r (by omega)) (va_cwS 1 hts (sm_gS (i1 := 263) (i2 := 264) (i4 := 2) (i5 := 265) rfl rfl rfl rfl) rfl rfl rfl (by decide +kernel) ⟨Nat.le_of_ble_eq_true rfl, Nat.le_of_ble_eq_true rfl⟩) hK [] rfl hP hD hS hA [] [0, 1, 2, 3, 4, 5, 6] rfl rfl (by decide) (by decide) (by decide) rfl hl.1 rfl (Nat.le_of_ble_eq_true rfl) dX1_not_2 ⟨Nat.le_of_ble_eq_true rfl, Nat.le_of_ble_eq_true rfl⟩ rfl rfl (fun H locs hP hD hS => ?_)
  refine lv_iconst (v := 1) hx hb dX1_not_5 (by decide) ?_
  refine sm_callV (C := RX1) (As := [.int (sm_bI false), .int 1]) (rest := []) (wr := []) (wn := (sm_wM cZ m0 m1 m2 m3 m4 m5 m6 0 (sm_fb V) (sm_fb S) (sm_fo M) (sm_fl M) (sm_fw O) (sm_fw G))) (st1 := [.int (sm_bI false)]) ⟨hx, hb, hml, hown, hts⟩ (c_fails_f l D cZ m0 m1 m2 m3 m4 m5 m6 err V S M O G 1) (cwV 2 hts (sm_gV (i1 := 266) (i2 := 267) (i3 := 348) (i4 := 2) (i5 := 268) rfl rfl rfl rfl rfl) rfl rfl rfl (by decide +kernel) ⟨Nat.le_of_ble_eq_true rfl, Nat.le_of_ble_eq_true rfl⟩) hK [0] rfl hP hD hS hA 0 rfl rfl [0, 1, 2, 3, 4, 5, 6] [] rfl rfl (by decide) (by decide) (by decide) rfl hl.1 rfl (Nat.le_of_ble_eq_true rfl) dX1_not_6 ⟨Nat.le_of_ble_eq_true rfl, Nat.le_of_ble_eq_true rfl⟩ rfl rfl (fun H locs hP hD hS => ?_)
  refine lv_if_eq (tgt := 14) hx hb dX1_not_9 rfl (fun _ => ?_) (fun z => absurd (by decide) z)
  refine lv_iconst (v := 0) hx hb dX1_not_14 (by decide) ?_
  refine lv_istore_n (lv' := [(2, .int 0), (0, .ref m0), (1, .int (nI r))]) hx hb dX1_not_15 rfl hl (by decide) rfl (fun ls hl => ?_)
  refine lv_iconst (v := 0) hx hb dX1_not_16 (by decide) ?_
  refine lv_istore_n (lv' := [(3, .int 0), (2, .int 0), (0, .ref m0), (1, .int (nI r))]) hx hb dX1_not_17 rfl hl (by decide) rfl (fun ls hl => ?_)
  refine sm_loopW (nL := 4) (lv := fun k => [(0, .ref m0), (1, .int (nI r)), (2, .int (sm_mk (bt (S r)) k)), (3, .int (nI k))]) (w := fun k => (sm_wM cZ m0 m1 m2 m3 m4 m5 m6 0 (sm_fb V) (sm_fb S) (sm_fo M) (sm_fl M) (sm_fw O) (sm_fw G))) 32 (fun H locs ls hl hP hD hS => ?_) (fun k hk ih H locs ls hl hP hD hS => ?_) (lv_sub hl [2, 3, 1, 0] rfl) (sm_cP (rfl) hP) (sm_cD (rfl) hD) hS
  · have hl : lv_has ls 4 [(0, .ref m0), (1, .int (nI r)), (2, .int (sm_mk (bt (S r)) 32)), (3, .int (nI 32))] := hl
    have hP : va_P D vwCl (sm_wM cZ m0 m1 m2 m3 m4 m5 m6 0 (sm_fb V) (sm_fb S) (sm_fo M) (sm_fl M) (sm_fw O) (sm_fw G)) H := hP
    have hD : va_D _ (sm_wM cZ m0 m1 m2 m3 m4 m5 m6 0 (sm_fb V) (sm_fb S) (sm_fo M) (sm_fl M) (sm_fw O) (sm_fw G)) := hD
    refine lv_iload_n hx hb dX1_not_18 rfl (lv_at hl 3 rfl) ?_
    refine lv_bipush (v := 32) hx hb dX1_not_19 (by decide) ?_
    refine lv_icmp_ge (tgt := 45) hx hb dX1_not_21 rfl (fun _ => ?_) (fun z => absurd (by decide) z)
    refine lv_iload_n hx hb dX1_not_45 rfl (lv_at hl 2 rfl) ?_
    refine sm_eqi (y := S r) (sm_mkx (fun _ _ => rfl)) ?_
    exact sm_iret hx hb hrt hlocks hS hP hD dX1_not_46
  · have hl : lv_has ls 4 [(0, .ref m0), (1, .int (nI r)), (2, .int (sm_mk (bt (S r)) k)), (3, .int (nI k))] := hl
    have hP : va_P D vwCl (sm_wM cZ m0 m1 m2 m3 m4 m5 m6 0 (sm_fb V) (sm_fb S) (sm_fo M) (sm_fl M) (sm_fw O) (sm_fw G)) H := hP
    have hD : va_D _ (sm_wM cZ m0 m1 m2 m3 m4 m5 m6 0 (sm_fb V) (sm_fb S) (sm_fo M) (sm_fl M) (sm_fw O) (sm_fw G)) := hD
    refine lv_iload_n hx hb dX1_not_18 rfl (lv_at hl 3 rfl) ?_
    refine lv_bipush (v := 32) hx hb dX1_not_19 (by decide) ?_
    refine lv_icmp_ge (tgt := 45) hx hb dX1_not_21 rfl (fun z => absurd z (nI_ge (b := 32) hk (by decide))) (fun _ => ?_)
    refine lv_aload_n hx hb dX1_not_24 rfl (lv_at hl 0 rfl) ?_
    refine lv_iload_n hx hb dX1_not_25 rfl (lv_at hl 1 rfl) ?_
    refine lv_iload_n hx hb dX1_not_26 rfl (lv_at hl 3 rfl) ?_
    refine sm_callV (C := RX1) (As := [.int (nI r), .int (nI k)]) (rest := []) (wr := []) (wn := (sm_wM cZ m0 m1 m2 m3 m4 m5 m6 0 (sm_fb V) (sm_fb S) (sm_fo M) (sm_fl M) (sm_fw O) (sm_fw G))) (st1 := [.int (sm_bI (bt (S r) k))]) ⟨hx, hb, hml, hown, hts⟩ (c_un l D cZ m0 m1 m2 m3 m4 m5 m6 0 (sm_fb V) (sm_fo M) (sm_fl M) (sm_fw O) (sm_fw G) S r k (by omega) (by omega)) (cwV 2 hts (sm_gV (i1 := 285) (i2 := 286) (i3 := 353) (i4 := 2) (i5 := 287) rfl rfl rfl rfl rfl) rfl rfl rfl (by decide +kernel) ⟨Nat.le_of_ble_eq_true rfl, Nat.le_of_ble_eq_true rfl⟩) hK [0] rfl hP hD hS hA 0 rfl rfl [0, 1, 2, 3, 4, 5, 6] [] rfl rfl (by decide) (by decide) (by decide) rfl hl.1 rfl (Nat.le_of_ble_eq_true rfl) dX1_not_27 ⟨Nat.le_of_ble_eq_true rfl, Nat.le_of_ble_eq_true rfl⟩ rfl rfl (fun H locs hP hD hS => ?_)
    refine sm_ifb_eq (tgt := 39) hx hb dX1_not_30 rfl (fun h30 => ?_) (fun h30 => ?_)
    · have hl : lv_has ls 4 [(0, .ref m0), (1, .int (nI r)), (2, .int (sm_mk (bt (S r)) (k + 1))), (3, .int (nI k))] := by rw [sm_mk_n h30]; exact hl
      refine lv_iinc (k := 3) (v := nI (k + 1)) (lv' := [(3, .int (nI (k + 1))), (0, .ref m0), (1, .int (nI r)), (2, .int (sm_mk (bt (S r)) (k + 1)))]) hx hb dX1_not_39 hl rfl (sm_inc k) (by decide) rfl (fun ls hl => ?_)
      refine lv_goto (tgt := 18) hx hb dX1_not_42 rfl ?_
      exact ih _ _ _ (lv_sub hl [1, 2, 3, 0] rfl) (sm_cP (rfl) hP) (sm_cD (rfl) hD) hS
    · refine lv_iload_n hx hb dX1_not_33 rfl (lv_at hl 2 rfl) ?_
      refine lv_iconst (v := 1) hx hb dX1_not_34 (by decide) ?_
      refine lv_iload_n hx hb dX1_not_35 rfl (lv_at hl 3 rfl) ?_
      refine lv_ishl hx hb dX1_not_36 ?_
      refine lv_ior hx hb dX1_not_37 ?_
      refine sm_eqi (y := sm_mk (bt (S r)) (k + 1)) (sm_mk_t h30) ?_
      refine lv_istore_n (lv' := [(2, .int (sm_mk (bt (S r)) (k + 1))), (0, .ref m0), (1, .int (nI r)), (3, .int (nI k))]) hx hb dX1_not_38 rfl hl (by decide) rfl (fun ls hl => ?_)
      refine lv_iinc (k := 3) (v := nI (k + 1)) (lv' := [(3, .int (nI (k + 1))), (2, .int (sm_mk (bt (S r)) (k + 1))), (0, .ref m0), (1, .int (nI r))]) hx hb dX1_not_39 hl rfl (sm_inc k) (by decide) rfl (fun ls hl => ?_)
      refine lv_goto (tgt := 18) hx hb dX1_not_42 rfl ?_
      exact ih _ _ _ (lv_sub hl [2, 3, 1, 0] rfl) (sm_cP (rfl) hP) (sm_cD (rfl) hD) hS
set_option maxHeartbeats 4000000 in
set_option maxRecDepth 100000 in
theorem c_mnot_x (l : Launch) (D : va_G) (cZ : ClassId) (m0 m1 m2 m3 m4 m5 m6 : Nat) (err : Int32) (V S M : Nat → Int32) (O G : Int32) (i : Int32) (hi : i < 0 ∨ 16 ≤ i) : sm_C l yX1_not wsX1_not ({ frames := 5, cells := 0, slots := 0, locals := 140 } : Room) D vwCl [(cZ, .boolean)] [.ref m0, .int i] (sm_wM cZ m0 m1 m2 m3 m4 m5 m6 err (sm_fb V) (sm_fb S) (sm_fo M) (sm_fl M) (sm_fw O) (sm_fw G)) (some (.int 0)) (sm_wM cZ m0 m1 m2 m3 m4 m5 m6 1 (sm_fb V) (sm_fb S) (sm_fo M) (sm_fl M) (sm_fw O) (sm_fw G)) := by
  refine sm_start (cc := cX1_not) (maxL := 4) (ret := some .int) (lv := [(0, .ref m0), (1, .int i)]) (by decide) rfl (Nat.le_of_ble_eq_true rfl) rfl ?_
  intro p e s m below meth c hx hb hrt hts hown hlocks hml hin hK hP hD hS hA ls hl
  have hw := sm_hw hts
  refine lv_aload_n hx hb dX1_not_0 rfl (lv_at hl 0 rfl) ?_
  refine lv_iload_n hx hb dX1_not_1 rfl (lv_at hl 1 rfl) ?_
  refine sm_callS (As := [.int i]) (rest := [.ref m0]) (wr := (sm_wM cZ m0 m1 m2 m3 m4 m5 m6 err (sm_fb V) (sm_fb S) (sm_fo M) (sm_fl M) (sm_fw O) (sm_fw G))) (wn := (sm_wM cZ m0 m1 m2 m3 m4 m5 m6 err (sm_fb V) (sm_fb S) (sm_fo M) (sm_fl M) (sm_fw O) (sm_fw G))) (st1 := [.int (sm_bI true), .ref m0]) ⟨hx, hb, hml, hown, hts⟩ (c_none_t l D i hi) (va_cwS 1 hts (sm_gS (i1 := 263) (i2 := 264) (i4 := 2) (i5 := 265) rfl rfl rfl rfl) rfl rfl rfl (by decide +kernel) ⟨Nat.le_of_ble_eq_true rfl, Nat.le_of_ble_eq_true rfl⟩) hK [] rfl hP hD hS hA [] [0, 1, 2, 3, 4, 5, 6] rfl rfl (by decide) (by decide) (by decide) rfl hl.1 rfl (Nat.le_of_ble_eq_true rfl) dX1_not_2 ⟨Nat.le_of_ble_eq_true rfl, Nat.le_of_ble_eq_true rfl⟩ rfl rfl (fun H locs hP hD hS => ?_)
  refine lv_iconst (v := 1) hx hb dX1_not_5 (by decide) ?_
  refine sm_callV (C := RX1) (As := [.int (sm_bI true), .int 1]) (rest := []) (wr := []) (wn := (sm_wM cZ m0 m1 m2 m3 m4 m5 m6 1 (sm_fb V) (sm_fb S) (sm_fo M) (sm_fl M) (sm_fw O) (sm_fw G))) (st1 := [.int (sm_bI true)]) ⟨hx, hb, hml, hown, hts⟩ (c_fails_t l D cZ m0 m1 m2 m3 m4 m5 m6 err V S M O G 1) (cwV 2 hts (sm_gV (i1 := 266) (i2 := 267) (i3 := 348) (i4 := 2) (i5 := 268) rfl rfl rfl rfl rfl) rfl rfl rfl (by decide +kernel) ⟨Nat.le_of_ble_eq_true rfl, Nat.le_of_ble_eq_true rfl⟩) hK [0] rfl hP hD hS hA 0 rfl rfl [0, 1, 2, 3, 4, 5, 6] [] rfl rfl (by decide) (by decide) (by decide) rfl hl.1 rfl (Nat.le_of_ble_eq_true rfl) dX1_not_6 ⟨Nat.le_of_ble_eq_true rfl, Nat.le_of_ble_eq_true rfl⟩ rfl rfl (fun H locs hP hD hS => ?_)
  refine lv_if_eq (tgt := 14) hx hb dX1_not_9 rfl (fun z => absurd z (by decide)) (fun _ => ?_)
  refine lv_iconst (v := 0) hx hb dX1_not_12 (by decide) ?_
  exact sm_iret hx hb hrt hlocks hS hP hD dX1_not_13
set_option maxHeartbeats 4000000 in
set_option maxRecDepth 100000 in
theorem c_end (l : Launch) (D : va_G) (cZ : ClassId) (m0 m1 m2 m3 m4 m5 m6 : Nat) (err : Int32) (V S M : Nat → Int32) (O G : Int32) (r : Nat) (hr : r < 16) (gr sg : Bool) : sm_C l yX1_end wsX1_end ({ frames := 1, cells := 0, slots := 0, locals := 22 } : Room) D vwCl [(cZ, .boolean)] [.ref m0, .int (nI r), .int (sm_bI gr), .int (sm_bI sg)] (sm_wM cZ m0 m1 m2 m3 m4 m5 m6 err (sm_fb V) (sm_fb S) (sm_fo M) (sm_fl M) (sm_fw O) (sm_fw G)) (some (.long (sm_en (sm_one (V r) (S r) gr sg) sg 32))) (sm_wM cZ m0 m1 m2 m3 m4 m5 m6 err (sm_fb V) (sm_fb S) (sm_fo M) (sm_fl M) (sm_fw O) (sm_fw G)) := by
  refine sm_start (cc := cX1_end) (maxL := 9) (ret := some .long) (lv := [(0, .ref m0), (1, .int (nI r)), (2, .int (sm_bI gr)), (3, .int (sm_bI sg))]) (by decide) rfl (Nat.le_of_ble_eq_true rfl) rfl ?_
  intro p e s m below meth c hx hb hrt hts hown hlocks hml hin hK hP hD hS hA ls hl
  have hw := sm_hw hts
  refine lv_lconst (v := 0) hx hb dX1_end_0 (by decide) ?_
  refine lv_lstore (lv' := [(4, .long 0), (0, .ref m0), (1, .int (nI r)), (2, .int (sm_bI gr)), (3, .int (sm_bI sg))]) hx hb dX1_end_1 hl (by decide) rfl (fun ls hl => ?_)
  refine lv_iconst (v := 0) hx hb dX1_end_3 (by decide) ?_
  refine lv_istore (lv' := [(6, .int 0), (4, .long 0), (0, .ref m0), (1, .int (nI r)), (2, .int (sm_bI gr)), (3, .int (sm_bI sg))]) hx hb dX1_end_4 hl (by decide) rfl (fun ls hl => ?_)
  refine sm_loopW (nL := 9) (lv := fun k => [(0, .ref m0), (1, .int (nI r)), (2, .int (sm_bI gr)), (3, .int (sm_bI sg)), (4, .long (sm_en (sm_one (V r) (S r) gr sg) sg k)), (6, .int (nI k))]) (w := fun k => (sm_wM cZ m0 m1 m2 m3 m4 m5 m6 err (sm_fb V) (sm_fb S) (sm_fo M) (sm_fl M) (sm_fw O) (sm_fw G))) 32 (fun H locs ls hl hP hD hS => ?_) (fun k hk ih H locs ls hl hP hD hS => ?_) (lv_sub hl [2, 3, 4, 5, 1, 0] rfl) (sm_cP (rfl) hP) (sm_cD (rfl) hD) hS
  · have hl : lv_has ls 9 [(0, .ref m0), (1, .int (nI r)), (2, .int (sm_bI gr)), (3, .int (sm_bI sg)), (4, .long (sm_en (sm_one (V r) (S r) gr sg) sg 32)), (6, .int (nI 32))] := hl
    have hP : va_P D vwCl (sm_wM cZ m0 m1 m2 m3 m4 m5 m6 err (sm_fb V) (sm_fb S) (sm_fo M) (sm_fl M) (sm_fw O) (sm_fw G)) H := hP
    have hD : va_D _ (sm_wM cZ m0 m1 m2 m3 m4 m5 m6 err (sm_fb V) (sm_fb S) (sm_fo M) (sm_fl M) (sm_fw O) (sm_fw G)) := hD
    refine lv_iload hx hb dX1_end_6 (lv_at hl 5 rfl) ?_
    refine lv_bipush (v := 32) hx hb dX1_end_8 (by decide) ?_
    refine lv_icmp_ge (tgt := 97) hx hb dX1_end_10 rfl (fun _ => ?_) (fun z => absurd (by decide) z)
    refine lv_lload hx hb dX1_end_97 (lv_at hl 4 rfl) ?_
    exact sm_lret hx hb hrt hlocks hS hP hD dX1_end_99
  · have hl : lv_has ls 9 [(0, .ref m0), (1, .int (nI r)), (2, .int (sm_bI gr)), (3, .int (sm_bI sg)), (4, .long (sm_en (sm_one (V r) (S r) gr sg) sg k)), (6, .int (nI k))] := hl
    have hP : va_P D vwCl (sm_wM cZ m0 m1 m2 m3 m4 m5 m6 err (sm_fb V) (sm_fb S) (sm_fo M) (sm_fl M) (sm_fw O) (sm_fw G)) H := hP
    have hD : va_D _ (sm_wM cZ m0 m1 m2 m3 m4 m5 m6 err (sm_fb V) (sm_fb S) (sm_fo M) (sm_fl M) (sm_fw O) (sm_fw G)) := hD
    refine lv_iload hx hb dX1_end_6 (lv_at hl 5 rfl) ?_
    refine lv_bipush (v := 32) hx hb dX1_end_8 (by decide) ?_
    refine lv_icmp_ge (tgt := 97) hx hb dX1_end_10 rfl (fun z => absurd z (nI_ge (b := 32) hk (by decide))) (fun _ => ?_)
    refine sm_joinH (pcJ := 29) (t := sm_bI (sg && decide (k = 31))) (lv := [(0, .ref m0), (1, .int (nI r)), (2, .int (sm_bI gr)), (3, .int (sm_bI sg)), (4, .long (sm_en (sm_one (V r) (S r) gr sg) sg k)), (6, .int (nI k))]) (w := (sm_wM cZ m0 m1 m2 m3 m4 m5 m6 err (sm_fb V) (sm_fb S) (sm_fo M) (sm_fl M) (sm_fw O) (sm_fw G))) (rest := []) hl hP hD hS (fun j29 => ?_) (fun H locs ls hl hP hD hS => ?_)
    · refine lv_iload_n hx hb dX1_end_13 rfl (lv_at hl 3 rfl) ?_
      refine sm_ifb_eq (tgt := 28) hx hb dX1_end_14 rfl (fun h14 => ?_) (fun h14 => ?_)
      · refine lv_iconst (v := 0) hx hb dX1_end_28 (by decide) ?_
        refine sm_eqi (y := sm_bI (sg && decide (k = 31))) (by simp [sm_bI, h14]) ?_
        exact j29 _ _ _ (lv_sub hl [0, 1, 2, 3, 4, 5] rfl) hP hD hS
      · refine lv_iload hx hb dX1_end_17 (lv_at hl 5 rfl) ?_
        refine lv_bipush (v := 31) hx hb dX1_end_19 (by decide) ?_
        refine lv_icmp_ne (tgt := 28) hx hb dX1_end_21 rfl (fun h21 => ?_) (fun h21 => ?_)
        · refine lv_iconst (v := 0) hx hb dX1_end_28 (by decide) ?_
          refine sm_eqi (y := sm_bI (sg && decide (k = 31))) (sm_ej2 k hk h21) ?_
          exact j29 _ _ _ (lv_sub hl [0, 1, 2, 3, 4, 5] rfl) hP hD hS
        · refine lv_iconst (v := 1) hx hb dX1_end_24 (by decide) ?_
          refine lv_goto (tgt := 29) hx hb dX1_end_25 rfl ?_
          refine sm_eqi (y := sm_bI (sg && decide (k = 31))) (sm_ej1 k hk h14 h21) ?_
          exact j29 _ _ _ (lv_sub hl [0, 1, 2, 3, 4, 5] rfl) hP hD hS
    refine lv_istore (lv' := [(7, .int (sm_bI (sg && decide (k = 31)))), (0, .ref m0), (1, .int (nI r)), (2, .int (sm_bI gr)), (3, .int (sm_bI sg)), (4, .long (sm_en (sm_one (V r) (S r) gr sg) sg k)), (6, .int (nI k))]) hx hb dX1_end_29 hl (by decide) rfl (fun ls hl => ?_)
    refine sm_joinH (pcJ := 62) (t := sm_bI (sm_one (V r) (S r) gr sg k)) (lv := [(0, .ref m0), (1, .int (nI r)), (2, .int (sm_bI gr)), (3, .int (sm_bI sg)), (4, .long (sm_en (sm_one (V r) (S r) gr sg) sg k)), (6, .int (nI k)), (7, .int (sm_bI (sg && decide (k = 31))))]) (w := (sm_wM cZ m0 m1 m2 m3 m4 m5 m6 err (sm_fb V) (sm_fb S) (sm_fo M) (sm_fl M) (sm_fw O) (sm_fw G))) (rest := []) hl hP hD hS (fun j62 => ?_) (fun H locs ls hl hP hD hS => ?_)
    · refine lv_aload_n hx hb dX1_end_31 rfl (lv_at hl 1 rfl) ?_
      refine lv_iload_n hx hb dX1_end_32 rfl (lv_at hl 2 rfl) ?_
      refine lv_iload hx hb dX1_end_33 (lv_at hl 6 rfl) ?_
      refine sm_callV (C := RX1) (As := [.int (nI r), .int (nI k)]) (rest := []) (wr := []) (wn := (sm_wM cZ m0 m1 m2 m3 m4 m5 m6 err (sm_fb V) (sm_fb S) (sm_fo M) (sm_fl M) (sm_fw O) (sm_fw G))) (st1 := [.int (sm_bI (bt (S r) k))]) ⟨hx, hb, hml, hown, hts⟩ (c_un l D cZ m0 m1 m2 m3 m4 m5 m6 err (sm_fb V) (sm_fo M) (sm_fl M) (sm_fw O) (sm_fw G) S r k (by omega) (by omega)) (cwV 2 hts (sm_gV (i1 := 285) (i2 := 286) (i3 := 353) (i4 := 2) (i5 := 287) rfl rfl rfl rfl rfl) rfl rfl rfl (by decide +kernel) ⟨Nat.le_of_ble_eq_true rfl, Nat.le_of_ble_eq_true rfl⟩) hK [0] rfl hP hD hS hA 0 rfl rfl [0, 1, 2, 3, 4, 5, 6] [] rfl rfl (by decide) (by decide) (by decide) rfl hl.1 rfl (Nat.le_of_ble_eq_true rfl) dX1_end_35 ⟨Nat.le_of_ble_eq_true rfl, Nat.le_of_ble_eq_true rfl⟩ rfl rfl (fun H locs hP hD hS => ?_)
      refine sm_ifb_eq (tgt := 55) hx hb dX1_end_38 rfl (fun h38 => ?_) (fun h38 => ?_)
      · refine lv_aload_n hx hb dX1_end_55 rfl (lv_at hl 1 rfl) ?_
        refine lv_iload_n hx hb dX1_end_56 rfl (lv_at hl 2 rfl) ?_
        refine lv_iload hx hb dX1_end_57 (lv_at hl 6 rfl) ?_
        refine sm_callV (C := RX1) (As := [.int (nI r), .int (nI k)]) (rest := []) (wr := []) (wn := (sm_wM cZ m0 m1 m2 m3 m4 m5 m6 err (sm_fb V) (sm_fb S) (sm_fo M) (sm_fl M) (sm_fw O) (sm_fw G))) (st1 := [.int (sm_bI (bt (V r) k))]) ⟨hx, hb, hml, hown, hts⟩ (c_is l D cZ m0 m1 m2 m3 m4 m5 m6 err (sm_fb S) (sm_fo M) (sm_fl M) (sm_fw O) (sm_fw G) V r k (by omega) (by omega)) (cwV 2 hts (sm_gV (i1 := 291) (i2 := 292) (i3 := 355) (i4 := 2) (i5 := 293) rfl rfl rfl rfl rfl) rfl rfl rfl (by decide +kernel) ⟨Nat.le_of_ble_eq_true rfl, Nat.le_of_ble_eq_true rfl⟩) hK [0] rfl hP hD hS hA 0 rfl rfl [0, 1, 2, 3, 4, 5, 6] [] rfl rfl (by decide) (by decide) (by decide) rfl hl.1 rfl (Nat.le_of_ble_eq_true rfl) dX1_end_59 ⟨Nat.le_of_ble_eq_true rfl, Nat.le_of_ble_eq_true rfl⟩ rfl rfl (fun H locs hP hD hS => ?_)
        refine sm_eqi (y := sm_bI (sm_one (V r) (S r) gr sg k)) (sm_ej5 h38) ?_
        exact j62 _ _ _ (lv_sub hl [1, 2, 3, 4, 5, 6, 0] rfl) hP hD hS
      · refine lv_iload_n hx hb dX1_end_41 rfl (lv_at hl 3 rfl) ?_
        refine lv_iload hx hb dX1_end_42 (lv_at hl 0 rfl) ?_
        refine lv_icmp_eq (tgt := 51) hx hb dX1_end_44 rfl (fun h44 => ?_) (fun h44 => ?_)
        · refine lv_iconst (v := 0) hx hb dX1_end_51 (by decide) ?_
          refine lv_goto (tgt := 62) hx hb dX1_end_52 rfl ?_
          refine sm_eqi (y := sm_bI (sm_one (V r) (S r) gr sg k)) (sm_ej4 h38 h44) ?_
          exact j62 _ _ _ (lv_sub hl [1, 2, 3, 4, 5, 6, 0] rfl) hP hD hS
        · refine lv_iconst (v := 1) hx hb dX1_end_47 (by decide) ?_
          refine lv_goto (tgt := 62) hx hb dX1_end_48 rfl ?_
          refine sm_eqi (y := sm_bI (sm_one (V r) (S r) gr sg k)) (sm_ej3 h38 h44) ?_
          exact j62 _ _ _ (lv_sub hl [1, 2, 3, 4, 5, 6, 0] rfl) hP hD hS
    refine lv_istore (lv' := [(8, .int (sm_bI (sm_one (V r) (S r) gr sg k))), (0, .ref m0), (1, .int (nI r)), (2, .int (sm_bI gr)), (3, .int (sm_bI sg)), (4, .long (sm_en (sm_one (V r) (S r) gr sg) sg k)), (6, .int (nI k)), (7, .int (sm_bI (sg && decide (k = 31))))]) hx hb dX1_end_62 hl (by decide) rfl (fun ls hl => ?_)
    refine lv_iload hx hb dX1_end_64 (lv_at hl 0 rfl) ?_
    refine sm_ifb_eq (tgt := 91) hx hb dX1_end_66 rfl (fun h66 => ?_) (fun h66 => ?_)
    · have hl : lv_has ls 9 [(8, .int (sm_bI (sm_one (V r) (S r) gr sg k))), (0, .ref m0), (1, .int (nI r)), (2, .int (sm_bI gr)), (3, .int (sm_bI sg)), (4, .long (sm_en (sm_one (V r) (S r) gr sg) sg (k + 1))), (6, .int (nI k)), (7, .int (sm_bI (sg && decide (k = 31))))] := by rw [sm_en_n h66]; exact hl
      refine lv_iinc (k := 6) (v := nI (k + 1)) (lv' := [(6, .int (nI (k + 1))), (8, .int (sm_bI (sm_one (V r) (S r) gr sg k))), (0, .ref m0), (1, .int (nI r)), (2, .int (sm_bI gr)), (3, .int (sm_bI sg)), (4, .long (sm_en (sm_one (V r) (S r) gr sg) sg (k + 1))), (7, .int (sm_bI (sg && decide (k = 31))))]) hx hb dX1_end_91 hl rfl (sm_inc k) (by decide) rfl (fun ls hl => ?_)
      refine lv_goto (tgt := 6) hx hb dX1_end_94 rfl ?_
      exact ih _ _ _ (lv_sub hl [2, 3, 4, 5, 6, 0] rfl) (sm_cP (rfl) hP) (sm_cD (rfl) hD) hS
    · refine lv_lload hx hb dX1_end_69 (lv_at hl 5 rfl) ?_
      refine lv_iload hx hb dX1_end_71 (lv_at hl 7 rfl) ?_
      refine sm_ifb_eq (tgt := 84) hx hb dX1_end_73 rfl (fun h73 => ?_) (fun h73 => ?_)
      · refine lv_lconst (v := 1) hx hb dX1_end_84 (by decide) ?_
        refine lv_iload hx hb dX1_end_85 (lv_at hl 6 rfl) ?_
        refine lv_lshl (v := sm_lshl 1 (nI k)) hx hb dX1_end_87 rfl ?_
        refine lv_ladd hx hb dX1_end_88 ?_
        refine lv_lstore (lv' := [(4, .long ((sm_en (sm_one (V r) (S r) gr sg) sg k) + (sm_lshl 1 (nI k)))), (8, .int (sm_bI (sm_one (V r) (S r) gr sg k))), (0, .ref m0), (1, .int (nI r)), (2, .int (sm_bI gr)), (3, .int (sm_bI sg)), (6, .int (nI k)), (7, .int (sm_bI (sg && decide (k = 31))))]) hx hb dX1_end_89 hl (by decide) rfl (fun ls hl => ?_)
        have hl : lv_has ls 9 [(4, .long (sm_en (sm_one (V r) (S r) gr sg) sg (k + 1))), (8, .int (sm_bI (sm_one (V r) (S r) gr sg k))), (0, .ref m0), (1, .int (nI r)), (2, .int (sm_bI gr)), (3, .int (sm_bI sg)), (6, .int (nI k)), (7, .int (sm_bI (sg && decide (k = 31))))] := by rw [sm_en_t0 h66 h73]; exact hl
        refine lv_iinc (k := 6) (v := nI (k + 1)) (lv' := [(6, .int (nI (k + 1))), (4, .long (sm_en (sm_one (V r) (S r) gr sg) sg (k + 1))), (8, .int (sm_bI (sm_one (V r) (S r) gr sg k))), (0, .ref m0), (1, .int (nI r)), (2, .int (sm_bI gr)), (3, .int (sm_bI sg)), (7, .int (sm_bI (sg && decide (k = 31))))]) hx hb dX1_end_91 hl rfl (sm_inc k) (by decide) rfl (fun ls hl => ?_)
        refine lv_goto (tgt := 6) hx hb dX1_end_94 rfl ?_
        exact ih _ _ _ (lv_sub hl [3, 4, 5, 6, 1, 0] rfl) (sm_cP (rfl) hP) (sm_cD (rfl) hD) hS
      · refine lv_lconst (v := 1) hx hb dX1_end_76 (by decide) ?_
        refine lv_iload hx hb dX1_end_77 (lv_at hl 6 rfl) ?_
        refine lv_lshl (v := sm_lshl 1 (nI k)) hx hb dX1_end_79 rfl ?_
        refine lv_lneg hx hb dX1_end_80 ?_
        refine lv_goto (tgt := 88) hx hb dX1_end_81 rfl ?_
        refine lv_ladd hx hb dX1_end_88 ?_
        refine lv_lstore (lv' := [(4, .long ((sm_en (sm_one (V r) (S r) gr sg) sg k) + (-(sm_lshl 1 (nI k))))), (8, .int (sm_bI (sm_one (V r) (S r) gr sg k))), (0, .ref m0), (1, .int (nI r)), (2, .int (sm_bI gr)), (3, .int (sm_bI sg)), (6, .int (nI k)), (7, .int (sm_bI (sg && decide (k = 31))))]) hx hb dX1_end_89 hl (by decide) rfl (fun ls hl => ?_)
        have hl : lv_has ls 9 [(4, .long (sm_en (sm_one (V r) (S r) gr sg) sg (k + 1))), (8, .int (sm_bI (sm_one (V r) (S r) gr sg k))), (0, .ref m0), (1, .int (nI r)), (2, .int (sm_bI gr)), (3, .int (sm_bI sg)), (6, .int (nI k)), (7, .int (sm_bI (sg && decide (k = 31))))] := by rw [sm_en_t1 h66 h73]; exact hl
        refine lv_iinc (k := 6) (v := nI (k + 1)) (lv' := [(6, .int (nI (k + 1))), (4, .long (sm_en (sm_one (V r) (S r) gr sg) sg (k + 1))), (8, .int (sm_bI (sm_one (V r) (S r) gr sg k))), (0, .ref m0), (1, .int (nI r)), (2, .int (sm_bI gr)), (3, .int (sm_bI sg)), (7, .int (sm_bI (sg && decide (k = 31))))]) hx hb dX1_end_91 hl rfl (sm_inc k) (by decide) rfl (fun ls hl => ?_)
        refine lv_goto (tgt := 6) hx hb dX1_end_94 rfl ?_
        exact ih _ _ _ (lv_sub hl [3, 4, 5, 6, 1, 0] rfl) (sm_cP (rfl) hP) (sm_cD (rfl) hD) hS
set_option maxHeartbeats 4000000 in
set_option maxRecDepth 100000 in
theorem c_mleast (l : Launch) (D : va_G) (cZ : ClassId) (m0 m1 m2 m3 m4 m5 m6 : Nat) (err : Int32) (V S M : Nat → Int32) (O G : Int32) (r : Nat) (hr : r < 16) : sm_C l yX1_least wsX1_least ({ frames := 5, cells := 0, slots := 0, locals := 140 } : Room) D vwCl [(cZ, .boolean)] [.ref m0, .int (nI r)] (sm_wM cZ m0 m1 m2 m3 m4 m5 m6 err (sm_fb V) (sm_fb S) (sm_fo M) (sm_fl M) (sm_fw O) (sm_fw G)) (some (.int (sm_le (V r) (S r)))) (sm_wM cZ m0 m1 m2 m3 m4 m5 m6 0 (sm_fb V) (sm_fb S) (sm_fo M) (sm_fl M) (sm_fw O) (sm_fw G)) := by
  refine sm_start (cc := cX1_least) (maxL := 2) (ret := some .int) (lv := [(0, .ref m0), (1, .int (nI r))]) (by decide) rfl (Nat.le_of_ble_eq_true rfl) rfl ?_
  intro p e s m below meth c hx hb hrt hts hown hlocks hml hin hK hP hD hS hA ls hl
  have hw := sm_hw hts
  refine lv_aload_n hx hb dX1_least_0 rfl (lv_at hl 0 rfl) ?_
  refine lv_iload_n hx hb dX1_least_1 rfl (lv_at hl 1 rfl) ?_
  refine sm_callS (As := [.int (nI r)]) (rest := [.ref m0]) (wr := (sm_wM cZ m0 m1 m2 m3 m4 m5 m6 err (sm_fb V) (sm_fb S) (sm_fo M) (sm_fl M) (sm_fw O) (sm_fw G))) (wn := (sm_wM cZ m0 m1 m2 m3 m4 m5 m6 err (sm_fb V) (sm_fb S) (sm_fo M) (sm_fl M) (sm_fw O) (sm_fw G))) (st1 := [.int (sm_bI false), .ref m0]) ⟨hx, hb, hml, hown, hts⟩ (c_none_f l D r (by omega)) (va_cwS 1 hts (sm_gS (i1 := 263) (i2 := 264) (i4 := 2) (i5 := 265) rfl rfl rfl rfl) rfl rfl rfl (by decide +kernel) ⟨Nat.le_of_ble_eq_true rfl, Nat.le_of_ble_eq_true rfl⟩) hK [] rfl hP hD hS hA [] [0, 1, 2, 3, 4, 5, 6] rfl rfl (by decide) (by decide) (by decide) rfl hl.1 rfl (Nat.le_of_ble_eq_true rfl) dX1_least_2 ⟨Nat.le_of_ble_eq_true rfl, Nat.le_of_ble_eq_true rfl⟩ rfl rfl (fun H locs hP hD hS => ?_)
  refine lv_iconst (v := 1) hx hb dX1_least_5 (by decide) ?_
  refine sm_callV (C := RX1) (As := [.int (sm_bI false), .int 1]) (rest := []) (wr := []) (wn := (sm_wM cZ m0 m1 m2 m3 m4 m5 m6 0 (sm_fb V) (sm_fb S) (sm_fo M) (sm_fl M) (sm_fw O) (sm_fw G))) (st1 := [.int (sm_bI false)]) ⟨hx, hb, hml, hown, hts⟩ (c_fails_f l D cZ m0 m1 m2 m3 m4 m5 m6 err V S M O G 1) (cwV 2 hts (sm_gV (i1 := 266) (i2 := 267) (i3 := 348) (i4 := 2) (i5 := 268) rfl rfl rfl rfl rfl) rfl rfl rfl (by decide +kernel) ⟨Nat.le_of_ble_eq_true rfl, Nat.le_of_ble_eq_true rfl⟩) hK [0] rfl hP hD hS hA 0 rfl rfl [0, 1, 2, 3, 4, 5, 6] [] rfl rfl (by decide) (by decide) (by decide) rfl hl.1 rfl (Nat.le_of_ble_eq_true rfl) dX1_least_6 ⟨Nat.le_of_ble_eq_true rfl, Nat.le_of_ble_eq_true rfl⟩ rfl rfl (fun H locs hP hD hS => ?_)
  refine lv_if_eq (tgt := 16) hx hb dX1_least_9 rfl (fun _ => ?_) (fun z => absurd (by decide) z)
  refine lv_aload_n hx hb dX1_least_16 rfl (lv_at hl 0 rfl) ?_
  refine lv_iload_n hx hb dX1_least_17 rfl (lv_at hl 1 rfl) ?_
  refine lv_iconst (v := 0) hx hb dX1_least_18 (by decide) ?_
  refine lv_iconst (v := 1) hx hb dX1_least_19 (by decide) ?_
  refine sm_callV (C := RX1) (As := [.int (nI r), .int (sm_bI false), .int (sm_bI true)]) (rest := []) (wr := []) (wn := (sm_wM cZ m0 m1 m2 m3 m4 m5 m6 0 (sm_fb V) (sm_fb S) (sm_fo M) (sm_fl M) (sm_fw O) (sm_fw G))) (st1 := [.long (sm_en (sm_one (V r) (S r) false true) true 32)]) ⟨hx, hb, hml, hown, hts⟩ (c_end l D cZ m0 m1 m2 m3 m4 m5 m6 0 V S M O G r (by omega) false true) (cwV 3 hts (sm_gV (i1 := 300) (i2 := 301) (i3 := 358) (i4 := 2) (i5 := 302) rfl rfl rfl rfl rfl) rfl rfl rfl (by decide +kernel) ⟨Nat.le_of_ble_eq_true rfl, Nat.le_of_ble_eq_true rfl⟩) hK [0] rfl hP hD hS hA 0 rfl rfl [0, 1, 2, 3, 4, 5, 6] [] rfl rfl (by decide) (by decide) (by decide) rfl hl.1 rfl (Nat.le_of_ble_eq_true rfl) dX1_least_20 ⟨Nat.le_of_ble_eq_true rfl, Nat.le_of_ble_eq_true rfl⟩ rfl rfl (fun H locs hP hD hS => ?_)
  refine lv_l2i (v := (sm_en (sm_one (V r) (S r) false true) true 32).toInt32) hx hb dX1_least_23 rfl ?_
  refine sm_eqi (y := sm_le (V r) (S r)) (sm_endl (V r) (S r)) ?_
  exact sm_iret hx hb hrt hlocks hS hP hD dX1_least_24
set_option maxHeartbeats 4000000 in
set_option maxRecDepth 100000 in
theorem c_mleast_x (l : Launch) (D : va_G) (cZ : ClassId) (m0 m1 m2 m3 m4 m5 m6 : Nat) (err : Int32) (V S M : Nat → Int32) (O G : Int32) (i : Int32) (hi : i < 0 ∨ 16 ≤ i) : sm_C l yX1_least wsX1_least ({ frames := 5, cells := 0, slots := 0, locals := 140 } : Room) D vwCl [(cZ, .boolean)] [.ref m0, .int i] (sm_wM cZ m0 m1 m2 m3 m4 m5 m6 err (sm_fb V) (sm_fb S) (sm_fo M) (sm_fl M) (sm_fw O) (sm_fw G)) (some (.int 0)) (sm_wM cZ m0 m1 m2 m3 m4 m5 m6 1 (sm_fb V) (sm_fb S) (sm_fo M) (sm_fl M) (sm_fw O) (sm_fw G)) := by
  refine sm_start (cc := cX1_least) (maxL := 2) (ret := some .int) (lv := [(0, .ref m0), (1, .int i)]) (by decide) rfl (Nat.le_of_ble_eq_true rfl) rfl ?_
  intro p e s m below meth c hx hb hrt hts hown hlocks hml hin hK hP hD hS hA ls hl
  have hw := sm_hw hts
  refine lv_aload_n hx hb dX1_least_0 rfl (lv_at hl 0 rfl) ?_
  refine lv_iload_n hx hb dX1_least_1 rfl (lv_at hl 1 rfl) ?_
  refine sm_callS (As := [.int i]) (rest := [.ref m0]) (wr := (sm_wM cZ m0 m1 m2 m3 m4 m5 m6 err (sm_fb V) (sm_fb S) (sm_fo M) (sm_fl M) (sm_fw O) (sm_fw G))) (wn := (sm_wM cZ m0 m1 m2 m3 m4 m5 m6 err (sm_fb V) (sm_fb S) (sm_fo M) (sm_fl M) (sm_fw O) (sm_fw G))) (st1 := [.int (sm_bI true), .ref m0]) ⟨hx, hb, hml, hown, hts⟩ (c_none_t l D i hi) (va_cwS 1 hts (sm_gS (i1 := 263) (i2 := 264) (i4 := 2) (i5 := 265) rfl rfl rfl rfl) rfl rfl rfl (by decide +kernel) ⟨Nat.le_of_ble_eq_true rfl, Nat.le_of_ble_eq_true rfl⟩) hK [] rfl hP hD hS hA [] [0, 1, 2, 3, 4, 5, 6] rfl rfl (by decide) (by decide) (by decide) rfl hl.1 rfl (Nat.le_of_ble_eq_true rfl) dX1_least_2 ⟨Nat.le_of_ble_eq_true rfl, Nat.le_of_ble_eq_true rfl⟩ rfl rfl (fun H locs hP hD hS => ?_)
  refine lv_iconst (v := 1) hx hb dX1_least_5 (by decide) ?_
  refine sm_callV (C := RX1) (As := [.int (sm_bI true), .int 1]) (rest := []) (wr := []) (wn := (sm_wM cZ m0 m1 m2 m3 m4 m5 m6 1 (sm_fb V) (sm_fb S) (sm_fo M) (sm_fl M) (sm_fw O) (sm_fw G))) (st1 := [.int (sm_bI true)]) ⟨hx, hb, hml, hown, hts⟩ (c_fails_t l D cZ m0 m1 m2 m3 m4 m5 m6 err V S M O G 1) (cwV 2 hts (sm_gV (i1 := 266) (i2 := 267) (i3 := 348) (i4 := 2) (i5 := 268) rfl rfl rfl rfl rfl) rfl rfl rfl (by decide +kernel) ⟨Nat.le_of_ble_eq_true rfl, Nat.le_of_ble_eq_true rfl⟩) hK [0] rfl hP hD hS hA 0 rfl rfl [0, 1, 2, 3, 4, 5, 6] [] rfl rfl (by decide) (by decide) (by decide) rfl hl.1 rfl (Nat.le_of_ble_eq_true rfl) dX1_least_6 ⟨Nat.le_of_ble_eq_true rfl, Nat.le_of_ble_eq_true rfl⟩ rfl rfl (fun H locs hP hD hS => ?_)
  refine lv_if_eq (tgt := 16) hx hb dX1_least_9 rfl (fun z => absurd z (by decide)) (fun _ => ?_)
  refine lv_iconst (v := 0) hx hb dX1_least_12 (by decide) ?_
  refine lv_goto (tgt := 24) hx hb dX1_least_13 rfl ?_
  exact sm_iret hx hb hrt hlocks hS hP hD dX1_least_24
set_option maxHeartbeats 4000000 in
set_option maxRecDepth 100000 in
theorem c_mgreatest (l : Launch) (D : va_G) (cZ : ClassId) (m0 m1 m2 m3 m4 m5 m6 : Nat) (err : Int32) (V S M : Nat → Int32) (O G : Int32) (r : Nat) (hr : r < 16) : sm_C l yX1_greatest wsX1_greatest ({ frames := 5, cells := 0, slots := 0, locals := 140 } : Room) D vwCl [(cZ, .boolean)] [.ref m0, .int (nI r)] (sm_wM cZ m0 m1 m2 m3 m4 m5 m6 err (sm_fb V) (sm_fb S) (sm_fo M) (sm_fl M) (sm_fw O) (sm_fw G)) (some (.int (sm_he (V r) (S r)))) (sm_wM cZ m0 m1 m2 m3 m4 m5 m6 0 (sm_fb V) (sm_fb S) (sm_fo M) (sm_fl M) (sm_fw O) (sm_fw G)) := by
  refine sm_start (cc := cX1_greatest) (maxL := 2) (ret := some .int) (lv := [(0, .ref m0), (1, .int (nI r))]) (by decide) rfl (Nat.le_of_ble_eq_true rfl) rfl ?_
  intro p e s m below meth c hx hb hrt hts hown hlocks hml hin hK hP hD hS hA ls hl
  have hw := sm_hw hts
  refine lv_aload_n hx hb dX1_greatest_0 rfl (lv_at hl 0 rfl) ?_
  refine lv_iload_n hx hb dX1_greatest_1 rfl (lv_at hl 1 rfl) ?_
  refine sm_callS (As := [.int (nI r)]) (rest := [.ref m0]) (wr := (sm_wM cZ m0 m1 m2 m3 m4 m5 m6 err (sm_fb V) (sm_fb S) (sm_fo M) (sm_fl M) (sm_fw O) (sm_fw G))) (wn := (sm_wM cZ m0 m1 m2 m3 m4 m5 m6 err (sm_fb V) (sm_fb S) (sm_fo M) (sm_fl M) (sm_fw O) (sm_fw G))) (st1 := [.int (sm_bI false), .ref m0]) ⟨hx, hb, hml, hown, hts⟩ (c_none_f l D r (by omega)) (va_cwS 1 hts (sm_gS (i1 := 263) (i2 := 264) (i4 := 2) (i5 := 265) rfl rfl rfl rfl) rfl rfl rfl (by decide +kernel) ⟨Nat.le_of_ble_eq_true rfl, Nat.le_of_ble_eq_true rfl⟩) hK [] rfl hP hD hS hA [] [0, 1, 2, 3, 4, 5, 6] rfl rfl (by decide) (by decide) (by decide) rfl hl.1 rfl (Nat.le_of_ble_eq_true rfl) dX1_greatest_2 ⟨Nat.le_of_ble_eq_true rfl, Nat.le_of_ble_eq_true rfl⟩ rfl rfl (fun H locs hP hD hS => ?_)
  refine lv_iconst (v := 1) hx hb dX1_greatest_5 (by decide) ?_
  refine sm_callV (C := RX1) (As := [.int (sm_bI false), .int 1]) (rest := []) (wr := []) (wn := (sm_wM cZ m0 m1 m2 m3 m4 m5 m6 0 (sm_fb V) (sm_fb S) (sm_fo M) (sm_fl M) (sm_fw O) (sm_fw G))) (st1 := [.int (sm_bI false)]) ⟨hx, hb, hml, hown, hts⟩ (c_fails_f l D cZ m0 m1 m2 m3 m4 m5 m6 err V S M O G 1) (cwV 2 hts (sm_gV (i1 := 266) (i2 := 267) (i3 := 348) (i4 := 2) (i5 := 268) rfl rfl rfl rfl rfl) rfl rfl rfl (by decide +kernel) ⟨Nat.le_of_ble_eq_true rfl, Nat.le_of_ble_eq_true rfl⟩) hK [0] rfl hP hD hS hA 0 rfl rfl [0, 1, 2, 3, 4, 5, 6] [] rfl rfl (by decide) (by decide) (by decide) rfl hl.1 rfl (Nat.le_of_ble_eq_true rfl) dX1_greatest_6 ⟨Nat.le_of_ble_eq_true rfl, Nat.le_of_ble_eq_true rfl⟩ rfl rfl (fun H locs hP hD hS => ?_)
  refine lv_if_eq (tgt := 16) hx hb dX1_greatest_9 rfl (fun _ => ?_) (fun z => absurd (by decide) z)
  refine lv_aload_n hx hb dX1_greatest_16 rfl (lv_at hl 0 rfl) ?_
  refine lv_iload_n hx hb dX1_greatest_17 rfl (lv_at hl 1 rfl) ?_
  refine lv_iconst (v := 1) hx hb dX1_greatest_18 (by decide) ?_
  refine lv_iconst (v := 1) hx hb dX1_greatest_19 (by decide) ?_
  refine sm_callV (C := RX1) (As := [.int (nI r), .int (sm_bI true), .int (sm_bI true)]) (rest := []) (wr := []) (wn := (sm_wM cZ m0 m1 m2 m3 m4 m5 m6 0 (sm_fb V) (sm_fb S) (sm_fo M) (sm_fl M) (sm_fw O) (sm_fw G))) (st1 := [.long (sm_en (sm_one (V r) (S r) true true) true 32)]) ⟨hx, hb, hml, hown, hts⟩ (c_end l D cZ m0 m1 m2 m3 m4 m5 m6 0 V S M O G r (by omega) true true) (cwV 3 hts (sm_gV (i1 := 300) (i2 := 301) (i3 := 358) (i4 := 2) (i5 := 302) rfl rfl rfl rfl rfl) rfl rfl rfl (by decide +kernel) ⟨Nat.le_of_ble_eq_true rfl, Nat.le_of_ble_eq_true rfl⟩) hK [0] rfl hP hD hS hA 0 rfl rfl [0, 1, 2, 3, 4, 5, 6] [] rfl rfl (by decide) (by decide) (by decide) rfl hl.1 rfl (Nat.le_of_ble_eq_true rfl) dX1_greatest_20 ⟨Nat.le_of_ble_eq_true rfl, Nat.le_of_ble_eq_true rfl⟩ rfl rfl (fun H locs hP hD hS => ?_)
  refine lv_l2i (v := (sm_en (sm_one (V r) (S r) true true) true 32).toInt32) hx hb dX1_greatest_23 rfl ?_
  refine sm_eqi (y := sm_he (V r) (S r)) (sm_endh (V r) (S r)) ?_
  exact sm_iret hx hb hrt hlocks hS hP hD dX1_greatest_24
set_option maxHeartbeats 4000000 in
set_option maxRecDepth 100000 in
theorem c_mgreatest_x (l : Launch) (D : va_G) (cZ : ClassId) (m0 m1 m2 m3 m4 m5 m6 : Nat) (err : Int32) (V S M : Nat → Int32) (O G : Int32) (i : Int32) (hi : i < 0 ∨ 16 ≤ i) : sm_C l yX1_greatest wsX1_greatest ({ frames := 5, cells := 0, slots := 0, locals := 140 } : Room) D vwCl [(cZ, .boolean)] [.ref m0, .int i] (sm_wM cZ m0 m1 m2 m3 m4 m5 m6 err (sm_fb V) (sm_fb S) (sm_fo M) (sm_fl M) (sm_fw O) (sm_fw G)) (some (.int 0)) (sm_wM cZ m0 m1 m2 m3 m4 m5 m6 1 (sm_fb V) (sm_fb S) (sm_fo M) (sm_fl M) (sm_fw O) (sm_fw G)) := by
  refine sm_start (cc := cX1_greatest) (maxL := 2) (ret := some .int) (lv := [(0, .ref m0), (1, .int i)]) (by decide) rfl (Nat.le_of_ble_eq_true rfl) rfl ?_
  intro p e s m below meth c hx hb hrt hts hown hlocks hml hin hK hP hD hS hA ls hl
  have hw := sm_hw hts
  refine lv_aload_n hx hb dX1_greatest_0 rfl (lv_at hl 0 rfl) ?_
  refine lv_iload_n hx hb dX1_greatest_1 rfl (lv_at hl 1 rfl) ?_
  refine sm_callS (As := [.int i]) (rest := [.ref m0]) (wr := (sm_wM cZ m0 m1 m2 m3 m4 m5 m6 err (sm_fb V) (sm_fb S) (sm_fo M) (sm_fl M) (sm_fw O) (sm_fw G))) (wn := (sm_wM cZ m0 m1 m2 m3 m4 m5 m6 err (sm_fb V) (sm_fb S) (sm_fo M) (sm_fl M) (sm_fw O) (sm_fw G))) (st1 := [.int (sm_bI true), .ref m0]) ⟨hx, hb, hml, hown, hts⟩ (c_none_t l D i hi) (va_cwS 1 hts (sm_gS (i1 := 263) (i2 := 264) (i4 := 2) (i5 := 265) rfl rfl rfl rfl) rfl rfl rfl (by decide +kernel) ⟨Nat.le_of_ble_eq_true rfl, Nat.le_of_ble_eq_true rfl⟩) hK [] rfl hP hD hS hA [] [0, 1, 2, 3, 4, 5, 6] rfl rfl (by decide) (by decide) (by decide) rfl hl.1 rfl (Nat.le_of_ble_eq_true rfl) dX1_greatest_2 ⟨Nat.le_of_ble_eq_true rfl, Nat.le_of_ble_eq_true rfl⟩ rfl rfl (fun H locs hP hD hS => ?_)
  refine lv_iconst (v := 1) hx hb dX1_greatest_5 (by decide) ?_
  refine sm_callV (C := RX1) (As := [.int (sm_bI true), .int 1]) (rest := []) (wr := []) (wn := (sm_wM cZ m0 m1 m2 m3 m4 m5 m6 1 (sm_fb V) (sm_fb S) (sm_fo M) (sm_fl M) (sm_fw O) (sm_fw G))) (st1 := [.int (sm_bI true)]) ⟨hx, hb, hml, hown, hts⟩ (c_fails_t l D cZ m0 m1 m2 m3 m4 m5 m6 err V S M O G 1) (cwV 2 hts (sm_gV (i1 := 266) (i2 := 267) (i3 := 348) (i4 := 2) (i5 := 268) rfl rfl rfl rfl rfl) rfl rfl rfl (by decide +kernel) ⟨Nat.le_of_ble_eq_true rfl, Nat.le_of_ble_eq_true rfl⟩) hK [0] rfl hP hD hS hA 0 rfl rfl [0, 1, 2, 3, 4, 5, 6] [] rfl rfl (by decide) (by decide) (by decide) rfl hl.1 rfl (Nat.le_of_ble_eq_true rfl) dX1_greatest_6 ⟨Nat.le_of_ble_eq_true rfl, Nat.le_of_ble_eq_true rfl⟩ rfl rfl (fun H locs hP hD hS => ?_)
  refine lv_if_eq (tgt := 16) hx hb dX1_greatest_9 rfl (fun z => absurd z (by decide)) (fun _ => ?_)
  refine lv_iconst (v := 0) hx hb dX1_greatest_12 (by decide) ?_
  refine lv_goto (tgt := 24) hx hb dX1_greatest_13 rfl ?_
  exact sm_iret hx hb hrt hlocks hS hP hD dX1_greatest_24
set_option maxHeartbeats 4000000 in
set_option maxRecDepth 100000 in
theorem c_moctet (l : Launch) (D : va_G) (cZ : ClassId) (m0 m1 m2 m3 m4 m5 m6 : Nat) (err : Int32) (V S M : Nat → Int32) (O G : Int32) (r : Nat) (hr : r < 256) (hM : M r = M r &&& 65535) : sm_C l yX1_octet wsX1_octet ({ frames := 5, cells := 0, slots := 0, locals := 140 } : Room) D vwCl [(cZ, .boolean)] [.ref m0, .int (nI r)] (sm_wM cZ m0 m1 m2 m3 m4 m5 m6 err (sm_fb V) (sm_fb S) (sm_fo M) (sm_fl M) (sm_fw O) (sm_fw G)) (some (.int (M r))) (sm_wM cZ m0 m1 m2 m3 m4 m5 m6 0 (sm_fb V) (sm_fb S) (sm_fo M) (sm_fl M) (sm_fw O) (sm_fw G)) := by
  refine sm_start (cc := cX1_octet) (maxL := 4) (ret := some .int) (lv := [(0, .ref m0), (1, .int (nI r))]) (by decide) rfl (Nat.le_of_ble_eq_true rfl) rfl ?_
  intro p e s m below meth c hx hb hrt hts hown hlocks hml hin hK hP hD hS hA ls hl
  have hw := sm_hw hts
  refine lv_aload_n hx hb dX1_octet_0 rfl (lv_at hl 0 rfl) ?_
  refine lv_iload_n hx hb dX1_octet_1 rfl (lv_at hl 1 rfl) ?_
  refine lv_if_lt (tgt := 12) hx hb dX1_octet_2 rfl (fun z => absurd z (nI_pos (by omega))) (fun _ => ?_)
  refine lv_iload_n hx hb dX1_octet_5 rfl (lv_at hl 1 rfl) ?_
  refine lv_sipush (v := 256) hx hb dX1_octet_6 (by decide) ?_
  refine lv_icmp_lt (tgt := 16) hx hb dX1_octet_9 rfl (fun _ => ?_) (fun z => absurd (nI_lt (b := 256) hr (by decide)) z)
  refine lv_iconst (v := 0) hx hb dX1_octet_16 (by decide) ?_
  refine lv_iconst (v := 1) hx hb dX1_octet_17 (by decide) ?_
  refine sm_callV (C := RX1) (As := [.int (sm_bI false), .int 1]) (rest := []) (wr := []) (wn := (sm_wM cZ m0 m1 m2 m3 m4 m5 m6 0 (sm_fb V) (sm_fb S) (sm_fo M) (sm_fl M) (sm_fw O) (sm_fw G))) (st1 := [.int (sm_bI false)]) ⟨hx, hb, hml, hown, hts⟩ (c_fails_f l D cZ m0 m1 m2 m3 m4 m5 m6 err V S M O G 1) (cwV 2 hts (sm_gV (i1 := 266) (i2 := 267) (i3 := 348) (i4 := 2) (i5 := 268) rfl rfl rfl rfl rfl) rfl rfl rfl (by decide +kernel) ⟨Nat.le_of_ble_eq_true rfl, Nat.le_of_ble_eq_true rfl⟩) hK [0] rfl hP hD hS hA 0 rfl rfl [0, 1, 2, 3, 4, 5, 6] [] rfl rfl (by decide) (by decide) (by decide) rfl hl.1 rfl (Nat.le_of_ble_eq_true rfl) dX1_octet_18 ⟨Nat.le_of_ble_eq_true rfl, Nat.le_of_ble_eq_true rfl⟩ rfl rfl (fun H locs hP hD hS => ?_)
  refine lv_if_eq (tgt := 26) hx hb dX1_octet_21 rfl (fun _ => ?_) (fun z => absurd (by decide) z)
  refine lv_iconst (v := 0) hx hb dX1_octet_26 (by decide) ?_
  refine lv_istore_n (lv' := [(2, .int 0), (0, .ref m0), (1, .int (nI r))]) hx hb dX1_octet_27 rfl hl (by decide) rfl (fun ls hl => ?_)
  refine lv_iconst (v := 0) hx hb dX1_octet_28 (by decide) ?_
  refine lv_istore_n (lv' := [(3, .int 0), (2, .int 0), (0, .ref m0), (1, .int (nI r))]) hx hb dX1_octet_29 rfl hl (by decide) rfl (fun ls hl => ?_)
  refine sm_loopW (nL := 4) (lv := fun k => [(0, .ref m0), (1, .int (nI r)), (2, .int (sm_oc (M r) k)), (3, .int (nI k))]) (w := fun k => (sm_wM cZ m0 m1 m2 m3 m4 m5 m6 0 (sm_fb V) (sm_fb S) (sm_fo M) (sm_fl M) (sm_fw O) (sm_fw G))) 8 (fun H locs ls hl hP hD hS => ?_) (fun k hk ih H locs ls hl hP hD hS => ?_) (lv_sub hl [2, 3, 1, 0] rfl) (sm_cP (rfl) hP) (sm_cD (rfl) hD) hS
  · have hl : lv_has ls 4 [(0, .ref m0), (1, .int (nI r)), (2, .int (sm_oc (M r) 8)), (3, .int (nI 8))] := hl
    have hP : va_P D vwCl (sm_wM cZ m0 m1 m2 m3 m4 m5 m6 0 (sm_fb V) (sm_fb S) (sm_fo M) (sm_fl M) (sm_fw O) (sm_fw G)) H := hP
    have hD : va_D _ (sm_wM cZ m0 m1 m2 m3 m4 m5 m6 0 (sm_fb V) (sm_fb S) (sm_fo M) (sm_fl M) (sm_fw O) (sm_fw G)) := hD
    refine lv_iload_n hx hb dX1_octet_30 rfl (lv_at hl 3 rfl) ?_
    refine lv_bipush (v := 8) hx hb dX1_octet_31 (by decide) ?_
    refine lv_icmp_ge (tgt := 90) hx hb dX1_octet_33 rfl (fun _ => ?_) (fun z => absurd (by decide) z)
    refine lv_iload_n hx hb dX1_octet_90 rfl (lv_at hl 2 rfl) ?_
    refine sm_eqi (y := M r) (sm_oc8 hM) ?_
    exact sm_iret hx hb hrt hlocks hS hP hD dX1_octet_91
  · have hl : lv_has ls 4 [(0, .ref m0), (1, .int (nI r)), (2, .int (sm_oc (M r) k)), (3, .int (nI k))] := hl
    have hP : va_P D vwCl (sm_wM cZ m0 m1 m2 m3 m4 m5 m6 0 (sm_fb V) (sm_fb S) (sm_fo M) (sm_fl M) (sm_fw O) (sm_fw G)) H := hP
    have hD : va_D _ (sm_wM cZ m0 m1 m2 m3 m4 m5 m6 0 (sm_fb V) (sm_fb S) (sm_fo M) (sm_fl M) (sm_fw O) (sm_fw G)) := hD
    refine lv_iload_n hx hb dX1_octet_30 rfl (lv_at hl 3 rfl) ?_
    refine lv_bipush (v := 8) hx hb dX1_octet_31 (by decide) ?_
    refine lv_icmp_ge (tgt := 90) hx hb dX1_octet_33 rfl (fun z => absurd z (nI_ge (b := 8) hk (by decide))) (fun _ => ?_)
    refine lv_iload_n hx hb dX1_octet_36 rfl (lv_at hl 2 rfl) ?_
    refine lv_aload_n hx hb dX1_octet_37 rfl (lv_at hl 0 rfl) ?_
    refine va_get (D := D) (ci := 1) (v := .ref m3) (C := RX1) (T := TX1) (N := 7) hx hb hts inX1 hown hK hP 0 rfl rfl 3 (by decide) (hw 235 rfl) (fun _ h9 => h9) rfl dX1_octet_38 ?_
    refine lv_bipush (v := 8) hx hb dX1_octet_41 (by decide) ?_
    refine lv_iload_n hx hb dX1_octet_43 rfl (lv_at hl 1 rfl) ?_
    refine lv_imul hx hb dX1_octet_44 ?_
    refine sm_eqi (y := nI (8 * r)) (pk_mul 8 r) ?_
    refine lv_iload_n hx hb dX1_octet_45 rfl (lv_at hl 3 rfl) ?_
    refine lv_iadd hx hb dX1_octet_46 ?_
    refine sm_eqi (y := nI ((8 * r) + k)) (nI_add (8 * r) k) ?_
    refine va_zald hx hb hK hP 3 0 rfl rfl (vp_in_nI (n := (8 * r) + k) (by omega) (by decide)) dX1_octet_47 ?_
    refine sm_eqi (y := sm_bI (bt (M r) k)) ((sm_cl _ (n := (8 * r) + k) (by omega)).trans (sm_fo_at M (by omega))) ?_
    refine sm_ifb_eq (tgt := 57) hx hb dX1_octet_48 rfl (fun h48 => ?_) (fun h48 => ?_)
    · refine lv_iconst (v := 0) hx hb dX1_octet_57 (by decide) ?_
      refine lv_aload_n hx hb dX1_octet_58 rfl (lv_at hl 0 rfl) ?_
      refine va_get (D := D) (ci := 1) (v := .ref m4) (C := RX1) (T := TX1) (N := 7) hx hb hts inX1 hown hK hP 0 rfl rfl 4 (by decide) (hw 236 rfl) (fun _ h9 => h9) rfl dX1_octet_59 ?_
      refine lv_bipush (v := 8) hx hb dX1_octet_62 (by decide) ?_
      refine lv_iload_n hx hb dX1_octet_64 rfl (lv_at hl 1 rfl) ?_
      refine lv_imul hx hb dX1_octet_65 ?_
      refine sm_eqi (y := nI (8 * r)) (pk_mul 8 r) ?_
      refine lv_iload_n hx hb dX1_octet_66 rfl (lv_at hl 3 rfl) ?_
      refine lv_iadd hx hb dX1_octet_67 ?_
      refine sm_eqi (y := nI ((8 * r) + k)) (nI_add (8 * r) k) ?_
      refine va_zald hx hb hK hP 4 0 rfl rfl (vp_in_nI (n := (8 * r) + k) (by omega) (by decide)) dX1_octet_68 ?_
      refine sm_eqi (y := sm_bI (bt (M r) (8 + k))) ((sm_cl _ (n := (8 * r) + k) (by omega)).trans (sm_fl_at M (by omega))) ?_
      refine sm_ifb_eq (tgt := 80) hx hb dX1_octet_69 rfl (fun h69 => ?_) (fun h69 => ?_)
      · refine lv_iconst (v := 0) hx hb dX1_octet_80 (by decide) ?_
        refine lv_iadd hx hb dX1_octet_81 ?_
        refine sm_eqi (y := 0) (by decide) ?_
        refine lv_iadd hx hb dX1_octet_82 ?_
        refine sm_eqi (y := sm_oc (M r) (k + 1)) (by simp [sm_oc, h48, h69]) ?_
        refine lv_istore_n (lv' := [(2, .int (sm_oc (M r) (k + 1))), (0, .ref m0), (1, .int (nI r)), (3, .int (nI k))]) hx hb dX1_octet_83 rfl hl (by decide) rfl (fun ls hl => ?_)
        refine lv_iinc (k := 3) (v := nI (k + 1)) (lv' := [(3, .int (nI (k + 1))), (2, .int (sm_oc (M r) (k + 1))), (0, .ref m0), (1, .int (nI r))]) hx hb dX1_octet_84 hl rfl (sm_inc k) (by decide) rfl (fun ls hl => ?_)
        refine lv_goto (tgt := 30) hx hb dX1_octet_87 rfl ?_
        exact ih _ _ _ (lv_sub hl [2, 3, 1, 0] rfl) (sm_cP (rfl) hP) (sm_cD (rfl) hD) hS
      · refine lv_sipush (v := 256) hx hb dX1_octet_72 (by decide) ?_
        refine lv_iload_n hx hb dX1_octet_75 rfl (lv_at hl 3 rfl) ?_
        refine lv_ishl hx hb dX1_octet_76 ?_
        refine lv_goto (tgt := 81) hx hb dX1_octet_77 rfl ?_
        refine lv_iadd hx hb dX1_octet_81 ?_
        refine lv_iadd hx hb dX1_octet_82 ?_
        refine sm_eqi (y := sm_oc (M r) (k + 1)) (by simp [sm_oc, h48, h69]) ?_
        refine lv_istore_n (lv' := [(2, .int (sm_oc (M r) (k + 1))), (0, .ref m0), (1, .int (nI r)), (3, .int (nI k))]) hx hb dX1_octet_83 rfl hl (by decide) rfl (fun ls hl => ?_)
        refine lv_iinc (k := 3) (v := nI (k + 1)) (lv' := [(3, .int (nI (k + 1))), (2, .int (sm_oc (M r) (k + 1))), (0, .ref m0), (1, .int (nI r))]) hx hb dX1_octet_84 hl rfl (sm_inc k) (by decide) rfl (fun ls hl => ?_)
        refine lv_goto (tgt := 30) hx hb dX1_octet_87 rfl ?_
        exact ih _ _ _ (lv_sub hl [2, 3, 1, 0] rfl) (sm_cP (rfl) hP) (sm_cD (rfl) hD) hS
    · refine lv_iconst (v := 1) hx hb dX1_octet_51 (by decide) ?_
      refine lv_iload_n hx hb dX1_octet_52 rfl (lv_at hl 3 rfl) ?_
      refine lv_ishl hx hb dX1_octet_53 ?_
      refine lv_goto (tgt := 58) hx hb dX1_octet_54 rfl ?_
      refine lv_aload_n hx hb dX1_octet_58 rfl (lv_at hl 0 rfl) ?_
      refine va_get (D := D) (ci := 1) (v := .ref m4) (C := RX1) (T := TX1) (N := 7) hx hb hts inX1 hown hK hP 0 rfl rfl 4 (by decide) (hw 236 rfl) (fun _ h9 => h9) rfl dX1_octet_59 ?_
      refine lv_bipush (v := 8) hx hb dX1_octet_62 (by decide) ?_
      refine lv_iload_n hx hb dX1_octet_64 rfl (lv_at hl 1 rfl) ?_
      refine lv_imul hx hb dX1_octet_65 ?_
      refine sm_eqi (y := nI (8 * r)) (pk_mul 8 r) ?_
      refine lv_iload_n hx hb dX1_octet_66 rfl (lv_at hl 3 rfl) ?_
      refine lv_iadd hx hb dX1_octet_67 ?_
      refine sm_eqi (y := nI ((8 * r) + k)) (nI_add (8 * r) k) ?_
      refine va_zald hx hb hK hP 4 0 rfl rfl (vp_in_nI (n := (8 * r) + k) (by omega) (by decide)) dX1_octet_68 ?_
      refine sm_eqi (y := sm_bI (bt (M r) (8 + k))) ((sm_cl _ (n := (8 * r) + k) (by omega)).trans (sm_fl_at M (by omega))) ?_
      refine sm_ifb_eq (tgt := 80) hx hb dX1_octet_69 rfl (fun h69 => ?_) (fun h69 => ?_)
      · refine lv_iconst (v := 0) hx hb dX1_octet_80 (by decide) ?_
        refine lv_iadd hx hb dX1_octet_81 ?_
        refine lv_iadd hx hb dX1_octet_82 ?_
        refine sm_eqi (y := sm_oc (M r) (k + 1)) (by simp [sm_oc, h48, h69]) ?_
        refine lv_istore_n (lv' := [(2, .int (sm_oc (M r) (k + 1))), (0, .ref m0), (1, .int (nI r)), (3, .int (nI k))]) hx hb dX1_octet_83 rfl hl (by decide) rfl (fun ls hl => ?_)
        refine lv_iinc (k := 3) (v := nI (k + 1)) (lv' := [(3, .int (nI (k + 1))), (2, .int (sm_oc (M r) (k + 1))), (0, .ref m0), (1, .int (nI r))]) hx hb dX1_octet_84 hl rfl (sm_inc k) (by decide) rfl (fun ls hl => ?_)
        refine lv_goto (tgt := 30) hx hb dX1_octet_87 rfl ?_
        exact ih _ _ _ (lv_sub hl [2, 3, 1, 0] rfl) (sm_cP (rfl) hP) (sm_cD (rfl) hD) hS
      · refine lv_sipush (v := 256) hx hb dX1_octet_72 (by decide) ?_
        refine lv_iload_n hx hb dX1_octet_75 rfl (lv_at hl 3 rfl) ?_
        refine lv_ishl hx hb dX1_octet_76 ?_
        refine lv_goto (tgt := 81) hx hb dX1_octet_77 rfl ?_
        refine lv_iadd hx hb dX1_octet_81 ?_
        refine lv_iadd hx hb dX1_octet_82 ?_
        refine sm_eqi (y := sm_oc (M r) (k + 1)) (by simp [sm_oc, h48, h69]) ?_
        refine lv_istore_n (lv' := [(2, .int (sm_oc (M r) (k + 1))), (0, .ref m0), (1, .int (nI r)), (3, .int (nI k))]) hx hb dX1_octet_83 rfl hl (by decide) rfl (fun ls hl => ?_)
        refine lv_iinc (k := 3) (v := nI (k + 1)) (lv' := [(3, .int (nI (k + 1))), (2, .int (sm_oc (M r) (k + 1))), (0, .ref m0), (1, .int (nI r))]) hx hb dX1_octet_84 hl rfl (sm_inc k) (by decide) rfl (fun ls hl => ?_)
        refine lv_goto (tgt := 30) hx hb dX1_octet_87 rfl ?_
        exact ih _ _ _ (lv_sub hl [2, 3, 1, 0] rfl) (sm_cP (rfl) hP) (sm_cD (rfl) hD) hS
set_option maxHeartbeats 4000000 in
set_option maxRecDepth 100000 in
theorem c_moctet_x (l : Launch) (D : va_G) (cZ : ClassId) (m0 m1 m2 m3 m4 m5 m6 : Nat) (err : Int32) (V S M : Nat → Int32) (O G : Int32) (i : Int32) (hi : i < 0 ∨ 256 ≤ i) : sm_C l yX1_octet wsX1_octet ({ frames := 5, cells := 0, slots := 0, locals := 140 } : Room) D vwCl [(cZ, .boolean)] [.ref m0, .int i] (sm_wM cZ m0 m1 m2 m3 m4 m5 m6 err (sm_fb V) (sm_fb S) (sm_fo M) (sm_fl M) (sm_fw O) (sm_fw G)) (some (.int 0)) (sm_wM cZ m0 m1 m2 m3 m4 m5 m6 1 (sm_fb V) (sm_fb S) (sm_fo M) (sm_fl M) (sm_fw O) (sm_fw G)) := by
  refine sm_start (cc := cX1_octet) (maxL := 4) (ret := some .int) (lv := [(0, .ref m0), (1, .int i)]) (by decide) rfl (Nat.le_of_ble_eq_true rfl) rfl ?_
  intro p e s m below meth c hx hb hrt hts hown hlocks hml hin hK hP hD hS hA ls hl
  have hw := sm_hw hts
  refine lv_aload_n hx hb dX1_octet_0 rfl (lv_at hl 0 rfl) ?_
  refine lv_iload_n hx hb dX1_octet_1 rfl (lv_at hl 1 rfl) ?_
  refine lv_if_lt (tgt := 12) hx hb dX1_octet_2 rfl (fun h2 => ?_) (fun h2 => ?_)
  · refine lv_iconst (v := 1) hx hb dX1_octet_12 (by decide) ?_
    refine lv_goto (tgt := 17) hx hb dX1_octet_13 rfl ?_
    refine lv_iconst (v := 1) hx hb dX1_octet_17 (by decide) ?_
    refine sm_callV (C := RX1) (As := [.int (sm_bI true), .int 1]) (rest := []) (wr := []) (wn := (sm_wM cZ m0 m1 m2 m3 m4 m5 m6 1 (sm_fb V) (sm_fb S) (sm_fo M) (sm_fl M) (sm_fw O) (sm_fw G))) (st1 := [.int (sm_bI true)]) ⟨hx, hb, hml, hown, hts⟩ (c_fails_t l D cZ m0 m1 m2 m3 m4 m5 m6 err V S M O G 1) (cwV 2 hts (sm_gV (i1 := 266) (i2 := 267) (i3 := 348) (i4 := 2) (i5 := 268) rfl rfl rfl rfl rfl) rfl rfl rfl (by decide +kernel) ⟨Nat.le_of_ble_eq_true rfl, Nat.le_of_ble_eq_true rfl⟩) hK [0] rfl hP hD hS hA 0 rfl rfl [0, 1, 2, 3, 4, 5, 6] [] rfl rfl (by decide) (by decide) (by decide) rfl hl.1 rfl (Nat.le_of_ble_eq_true rfl) dX1_octet_18 ⟨Nat.le_of_ble_eq_true rfl, Nat.le_of_ble_eq_true rfl⟩ rfl rfl (fun H locs hP hD hS => ?_)
    refine lv_if_eq (tgt := 26) hx hb dX1_octet_21 rfl (fun z => absurd z (by decide)) (fun _ => ?_)
    refine lv_iconst (v := 0) hx hb dX1_octet_24 (by decide) ?_
    exact sm_iret hx hb hrt hlocks hS hP hD dX1_octet_25
  · refine lv_iload_n hx hb dX1_octet_5 rfl (lv_at hl 1 rfl) ?_
    refine lv_sipush (v := 256) hx hb dX1_octet_6 (by decide) ?_
    refine lv_icmp_lt (tgt := 16) hx hb dX1_octet_9 rfl (fun z => absurd z (sm_orf hi h2)) (fun _ => ?_)
    refine lv_iconst (v := 1) hx hb dX1_octet_12 (by decide) ?_
    refine lv_goto (tgt := 17) hx hb dX1_octet_13 rfl ?_
    refine lv_iconst (v := 1) hx hb dX1_octet_17 (by decide) ?_
    refine sm_callV (C := RX1) (As := [.int (sm_bI true), .int 1]) (rest := []) (wr := []) (wn := (sm_wM cZ m0 m1 m2 m3 m4 m5 m6 1 (sm_fb V) (sm_fb S) (sm_fo M) (sm_fl M) (sm_fw O) (sm_fw G))) (st1 := [.int (sm_bI true)]) ⟨hx, hb, hml, hown, hts⟩ (c_fails_t l D cZ m0 m1 m2 m3 m4 m5 m6 err V S M O G 1) (cwV 2 hts (sm_gV (i1 := 266) (i2 := 267) (i3 := 348) (i4 := 2) (i5 := 268) rfl rfl rfl rfl rfl) rfl rfl rfl (by decide +kernel) ⟨Nat.le_of_ble_eq_true rfl, Nat.le_of_ble_eq_true rfl⟩) hK [0] rfl hP hD hS hA 0 rfl rfl [0, 1, 2, 3, 4, 5, 6] [] rfl rfl (by decide) (by decide) (by decide) rfl hl.1 rfl (Nat.le_of_ble_eq_true rfl) dX1_octet_18 ⟨Nat.le_of_ble_eq_true rfl, Nat.le_of_ble_eq_true rfl⟩ rfl rfl (fun H locs hP hD hS => ?_)
    refine lv_if_eq (tgt := 26) hx hb dX1_octet_21 rfl (fun z => absurd z (by decide)) (fun _ => ?_)
    refine lv_iconst (v := 0) hx hb dX1_octet_24 (by decide) ?_
    exact sm_iret hx hb hrt hlocks hS hP hD dX1_octet_25
set_option maxHeartbeats 4000000 in
set_option maxRecDepth 100000 in
theorem c_mcount (l : Launch) (D : va_G) (cZ : ClassId) (m0 m1 m2 m3 m4 m5 m6 : Nat) (err : Int32) (V S M : Nat → Int32) (O G : Int32) : sm_C l yX1_count wsX1_count ({ frames := 5, cells := 0, slots := 0, locals := 140 } : Room) D vwCl [(cZ, .boolean)] [.ref m0] (sm_wM cZ m0 m1 m2 m3 m4 m5 m6 err (sm_fb V) (sm_fb S) (sm_fo M) (sm_fl M) (sm_fw O) (sm_fw G)) (some (.int (nI (sm_pc (fun j => bt (S (j / 32)) (j % 32)) 512)))) (sm_wM cZ m0 m1 m2 m3 m4 m5 m6 0 (sm_fb V) (sm_fb S) (sm_fo M) (sm_fl M) (sm_fw O) (sm_fw G)) := by
  refine sm_start (cc := cX1_count) (maxL := 3) (ret := some .int) (lv := [(0, .ref m0)]) (by decide) rfl (Nat.le_of_ble_eq_true rfl) rfl ?_
  intro p e s m below meth c hx hb hrt hts hown hlocks hml hin hK hP hD hS hA ls hl
  have hw := sm_hw hts
  refine lv_aload_n hx hb dX1_count_0 rfl (lv_at hl 0 rfl) ?_
  refine lv_iconst (v := 0) hx hb dX1_count_1 (by decide) ?_
  refine sm_put (D := D) (ci := 1) (v := .int 0) (ty := .int) (C := RX1) (T := TX1) (N := 7) (ws' := (sm_wM cZ m0 m1 m2 m3 m4 m5 m6 0 (sm_fb V) (sm_fb S) (sm_fo M) (sm_fl M) (sm_fw O) (sm_fw G))) hx hb hts inX1 tyX1 tyX1_ok nX1 hown hK hP hD hS 0 rfl rfl 0 (by decide) (hw 232 rfl) (fun _ h9 => h9) rfl (by decide +kernel) rfl rfl (Nat.le_of_ble_eq_true rfl) dX1_count_2 rfl (fun H locs hP hD hS => ?_)
  refine lv_iconst (v := 0) hx hb dX1_count_5 (by decide) ?_
  refine lv_istore_n (lv' := [(1, .int 0), (0, .ref m0)]) hx hb dX1_count_6 rfl hl (by decide) rfl (fun ls hl => ?_)
  refine lv_iconst (v := 0) hx hb dX1_count_7 (by decide) ?_
  refine lv_istore_n (lv' := [(2, .int 0), (1, .int 0), (0, .ref m0)]) hx hb dX1_count_8 rfl hl (by decide) rfl (fun ls hl => ?_)
  refine sm_loopW (nL := 3) (lv := fun k => [(0, .ref m0), (1, .int (nI (sm_pc (fun j => bt (S (j / 32)) (j % 32)) k))), (2, .int (nI k))]) (w := fun k => (sm_wM cZ m0 m1 m2 m3 m4 m5 m6 0 (sm_fb V) (sm_fb S) (sm_fo M) (sm_fl M) (sm_fw O) (sm_fw G))) 512 (fun H locs ls hl hP hD hS => ?_) (fun k hk ih H locs ls hl hP hD hS => ?_) (lv_sub hl [2, 1, 0] rfl) (sm_cP (rfl) hP) (sm_cD (rfl) hD) hS
  · have hl : lv_has ls 3 [(0, .ref m0), (1, .int (nI (sm_pc (fun j => bt (S (j / 32)) (j % 32)) 512))), (2, .int (nI 512))] := hl
    have hP : va_P D vwCl (sm_wM cZ m0 m1 m2 m3 m4 m5 m6 0 (sm_fb V) (sm_fb S) (sm_fo M) (sm_fl M) (sm_fw O) (sm_fw G)) H := hP
    have hD : va_D _ (sm_wM cZ m0 m1 m2 m3 m4 m5 m6 0 (sm_fb V) (sm_fb S) (sm_fo M) (sm_fl M) (sm_fw O) (sm_fw G)) := hD
    refine lv_iload_n hx hb dX1_count_9 rfl (lv_at hl 2 rfl) ?_
    refine lv_sipush (v := 512) hx hb dX1_count_10 (by decide) ?_
    refine lv_icmp_ge (tgt := 34) hx hb dX1_count_13 rfl (fun _ => ?_) (fun z => absurd (by decide) z)
    refine lv_iload_n hx hb dX1_count_34 rfl (lv_at hl 1 rfl) ?_
    exact sm_iret hx hb hrt hlocks hS hP hD dX1_count_35
  · have hl : lv_has ls 3 [(0, .ref m0), (1, .int (nI (sm_pc (fun j => bt (S (j / 32)) (j % 32)) k))), (2, .int (nI k))] := hl
    have hP : va_P D vwCl (sm_wM cZ m0 m1 m2 m3 m4 m5 m6 0 (sm_fb V) (sm_fb S) (sm_fo M) (sm_fl M) (sm_fw O) (sm_fw G)) H := hP
    have hD : va_D _ (sm_wM cZ m0 m1 m2 m3 m4 m5 m6 0 (sm_fb V) (sm_fb S) (sm_fo M) (sm_fl M) (sm_fw O) (sm_fw G)) := hD
    refine lv_iload_n hx hb dX1_count_9 rfl (lv_at hl 2 rfl) ?_
    refine lv_sipush (v := 512) hx hb dX1_count_10 (by decide) ?_
    refine lv_icmp_ge (tgt := 34) hx hb dX1_count_13 rfl (fun z => absurd z (nI_ge (b := 512) hk (by decide))) (fun _ => ?_)
    refine lv_aload_n hx hb dX1_count_16 rfl (lv_at hl 0 rfl) ?_
    refine va_get (D := D) (ci := 1) (v := .ref m2) (C := RX1) (T := TX1) (N := 7) hx hb hts inX1 hown hK hP 0 rfl rfl 2 (by decide) (hw 234 rfl) (fun _ h9 => h9) rfl dX1_count_17 ?_
    refine lv_iload_n hx hb dX1_count_20 rfl (lv_at hl 2 rfl) ?_
    refine va_zald hx hb hK hP 2 0 rfl rfl (vp_in_nI (n := k) (by omega) (by decide)) dX1_count_21 ?_
    refine sm_eqi (y := sm_bI (bt (S (k / 32)) (k % 32))) ((sm_cl _ (n := k) (by omega)).trans rfl) ?_
    refine sm_ifb_eq (tgt := 28) hx hb dX1_count_22 rfl (fun h22 => ?_) (fun h22 => ?_)
    · have hl : lv_has ls 3 [(0, .ref m0), (1, .int (nI (sm_pc (fun j => bt (S (j / 32)) (j % 32)) (k + 1)))), (2, .int (nI k))] := by rw [sm_pc_n (g := fun j => bt (S (j / 32)) (j % 32)) h22]; exact hl
      refine lv_iinc (k := 2) (v := nI (k + 1)) (lv' := [(2, .int (nI (k + 1))), (0, .ref m0), (1, .int (nI (sm_pc (fun j => bt (S (j / 32)) (j % 32)) (k + 1))))]) hx hb dX1_count_28 hl rfl (sm_inc k) (by decide) rfl (fun ls hl => ?_)
      refine lv_goto (tgt := 9) hx hb dX1_count_31 rfl ?_
      exact ih _ _ _ (lv_sub hl [1, 2, 0] rfl) (sm_cP (rfl) hP) (sm_cD (rfl) hD) hS
    · refine lv_iinc (k := 1) (v := nI (sm_pc (fun j => bt (S (j / 32)) (j % 32)) (k + 1))) (lv' := [(1, .int (nI (sm_pc (fun j => bt (S (j / 32)) (j % 32)) (k + 1)))), (0, .ref m0), (2, .int (nI k))]) hx hb dX1_count_25 hl rfl (sm_pcI h22) (by decide) rfl (fun ls hl => ?_)
      refine lv_iinc (k := 2) (v := nI (k + 1)) (lv' := [(2, .int (nI (k + 1))), (1, .int (nI (sm_pc (fun j => bt (S (j / 32)) (j % 32)) (k + 1)))), (0, .ref m0)]) hx hb dX1_count_28 hl rfl (sm_inc k) (by decide) rfl (fun ls hl => ?_)
      refine lv_goto (tgt := 9) hx hb dX1_count_31 rfl ?_
      exact ih _ _ _ (lv_sub hl [2, 1, 0] rfl) (sm_cP (rfl) hP) (sm_cD (rfl) hD) hS
set_option maxHeartbeats 4000000 in
set_option maxRecDepth 100000 in
theorem c_wrong_1 (l : Launch) (D : va_G)  : sm_C l yX1_wrong wsX1_wrong ({ frames := 0, cells := 0, slots := 0, locals := 0 } : Room) D vwCl [] [.int 1] [] (some (.int (sm_bI false))) [] := by
  refine sm_start (cc := cX1_wrong) (maxL := 1) (ret := some .boolean) (lv := [(0, .int 1)]) (by decide) rfl (Nat.le_of_ble_eq_true rfl) rfl ?_
  intro p e s m below meth c hx hb hrt hts hown hlocks hml hin hK hP hD hS hA ls hl
  have hw := sm_hw hts
  refine lv_iload_n hx hb dX1_wrong_0 rfl (lv_at hl 0 rfl) ?_
  refine lv_iconst (v := 1) hx hb dX1_wrong_1 (by decide) ?_
  refine lv_icmp_eq (tgt := 19) hx hb dX1_wrong_2 rfl (fun _ => ?_) (fun z => absurd (by decide) z)
  refine lv_iconst (v := 0) hx hb dX1_wrong_19 (by decide) ?_
  refine sm_eqi (y := sm_bI false) (rfl) ?_
  exact sm_zret hx hb hrt hlocks hS hP hD dX1_wrong_20
set_option maxHeartbeats 4000000 in
set_option maxRecDepth 100000 in
theorem c_wrong_2 (l : Launch) (D : va_G)  : sm_C l yX1_wrong wsX1_wrong ({ frames := 0, cells := 0, slots := 0, locals := 0 } : Room) D vwCl [] [.int 2] [] (some (.int (sm_bI false))) [] := by
  refine sm_start (cc := cX1_wrong) (maxL := 1) (ret := some .boolean) (lv := [(0, .int 2)]) (by decide) rfl (Nat.le_of_ble_eq_true rfl) rfl ?_
  intro p e s m below meth c hx hb hrt hts hown hlocks hml hin hK hP hD hS hA ls hl
  have hw := sm_hw hts
  refine lv_iload_n hx hb dX1_wrong_0 rfl (lv_at hl 0 rfl) ?_
  refine lv_iconst (v := 1) hx hb dX1_wrong_1 (by decide) ?_
  refine lv_icmp_eq (tgt := 19) hx hb dX1_wrong_2 rfl (fun z => absurd z (by decide)) (fun _ => ?_)
  refine lv_iload_n hx hb dX1_wrong_5 rfl (lv_at hl 0 rfl) ?_
  refine lv_iconst (v := 2) hx hb dX1_wrong_6 (by decide) ?_
  refine lv_icmp_eq (tgt := 19) hx hb dX1_wrong_7 rfl (fun _ => ?_) (fun z => absurd (by decide) z)
  refine lv_iconst (v := 0) hx hb dX1_wrong_19 (by decide) ?_
  refine sm_eqi (y := sm_bI false) (rfl) ?_
  exact sm_zret hx hb hrt hlocks hS hP hD dX1_wrong_20
set_option maxHeartbeats 4000000 in
set_option maxRecDepth 100000 in
theorem c_wrong_4 (l : Launch) (D : va_G)  : sm_C l yX1_wrong wsX1_wrong ({ frames := 0, cells := 0, slots := 0, locals := 0 } : Room) D vwCl [] [.int 4] [] (some (.int (sm_bI false))) [] := by
  refine sm_start (cc := cX1_wrong) (maxL := 1) (ret := some .boolean) (lv := [(0, .int 4)]) (by decide) rfl (Nat.le_of_ble_eq_true rfl) rfl ?_
  intro p e s m below meth c hx hb hrt hts hown hlocks hml hin hK hP hD hS hA ls hl
  have hw := sm_hw hts
  refine lv_iload_n hx hb dX1_wrong_0 rfl (lv_at hl 0 rfl) ?_
  refine lv_iconst (v := 1) hx hb dX1_wrong_1 (by decide) ?_
  refine lv_icmp_eq (tgt := 19) hx hb dX1_wrong_2 rfl (fun z => absurd z (by decide)) (fun _ => ?_)
  refine lv_iload_n hx hb dX1_wrong_5 rfl (lv_at hl 0 rfl) ?_
  refine lv_iconst (v := 2) hx hb dX1_wrong_6 (by decide) ?_
  refine lv_icmp_eq (tgt := 19) hx hb dX1_wrong_7 rfl (fun z => absurd z (by decide)) (fun _ => ?_)
  refine lv_iload_n hx hb dX1_wrong_10 rfl (lv_at hl 0 rfl) ?_
  refine lv_iconst (v := 4) hx hb dX1_wrong_11 (by decide) ?_
  refine lv_icmp_eq (tgt := 19) hx hb dX1_wrong_12 rfl (fun _ => ?_) (fun z => absurd (by decide) z)
  refine lv_iconst (v := 0) hx hb dX1_wrong_19 (by decide) ?_
  refine sm_eqi (y := sm_bI false) (rfl) ?_
  exact sm_zret hx hb hrt hlocks hS hP hD dX1_wrong_20
set_option maxHeartbeats 4000000 in
set_option maxRecDepth 100000 in
theorem c_wrong_x (l : Launch) (D : va_G) (i : Int32) (h1 : ¬ i = 1) (h2 : ¬ i = 2) (h4 : ¬ i = 4) : sm_C l yX1_wrong wsX1_wrong ({ frames := 0, cells := 0, slots := 0, locals := 0 } : Room) D vwCl [] [.int i] [] (some (.int (sm_bI true))) [] := by
  refine sm_start (cc := cX1_wrong) (maxL := 1) (ret := some .boolean) (lv := [(0, .int i)]) (by decide) rfl (Nat.le_of_ble_eq_true rfl) rfl ?_
  intro p e s m below meth c hx hb hrt hts hown hlocks hml hin hK hP hD hS hA ls hl
  have hw := sm_hw hts
  refine lv_iload_n hx hb dX1_wrong_0 rfl (lv_at hl 0 rfl) ?_
  refine lv_iconst (v := 1) hx hb dX1_wrong_1 (by decide) ?_
  refine lv_icmp_eq (tgt := 19) hx hb dX1_wrong_2 rfl (fun z => absurd z (h1)) (fun _ => ?_)
  refine lv_iload_n hx hb dX1_wrong_5 rfl (lv_at hl 0 rfl) ?_
  refine lv_iconst (v := 2) hx hb dX1_wrong_6 (by decide) ?_
  refine lv_icmp_eq (tgt := 19) hx hb dX1_wrong_7 rfl (fun z => absurd z (h2)) (fun _ => ?_)
  refine lv_iload_n hx hb dX1_wrong_10 rfl (lv_at hl 0 rfl) ?_
  refine lv_iconst (v := 4) hx hb dX1_wrong_11 (by decide) ?_
  refine lv_icmp_eq (tgt := 19) hx hb dX1_wrong_12 rfl (fun z => absurd z (h4)) (fun _ => ?_)
  refine lv_iconst (v := 1) hx hb dX1_wrong_15 (by decide) ?_
  refine lv_goto (tgt := 20) hx hb dX1_wrong_16 rfl ?_
  refine sm_eqi (y := sm_bI true) (rfl) ?_
  exact sm_zret hx hb hrt hlocks hS hP hD dX1_wrong_20
