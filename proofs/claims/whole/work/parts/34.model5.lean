set_option maxHeartbeats 4000000 in
set_option maxRecDepth 100000 in
theorem c_mstore_1 (l : Launch) (D : va_G) (cZ : ClassId) (m0 m1 m2 m3 m4 m5 m6 : Nat) (err : Int32) (V S M : Nat → Int32) (O G : Int32) (r t : Nat) (hr : r < 16) (ht : t + 1 ≤ 256) : sm_C l yX1_store wsX1_store ({ frames := 5, cells := 0, slots := 0, locals := 140 } : Room) D vwCl [(cZ, .boolean)] [.ref m0, .int (nI r), .int (nI t), .int 1] (sm_wM cZ m0 m1 m2 m3 m4 m5 m6 err (sm_fb V) (sm_fb S) (sm_fo M) (sm_fl M) (sm_fw O) (sm_fw G)) none (sm_wM cZ m0 m1 m2 m3 m4 m5 m6 0 (sm_fb V) (sm_fb S) (sm_fo (sm_fil M (sm_by (V r) (S r)) t 1)) (sm_fl (sm_fil M (sm_by (V r) (S r)) t 1)) (sm_fw O) (sm_fw G)) := by
  refine sm_start (cc := cX1_store) (maxL := 5) (ret := none) (lv := [(0, .ref m0), (1, .int (nI r)), (2, .int (nI t)), (3, .int 1)]) (by decide) rfl (Nat.le_of_ble_eq_true rfl) rfl ?_
  intro p e s m below meth c hx hb hrt hts hown hlocks hml hin hK hP hD hS hA ls hl
  have hw := sm_hw hts
  refine lv_aload_n hx hb dX1_store_0 rfl (lv_at hl 0 rfl) ?_
  refine lv_iload_n hx hb dX1_store_1 rfl (lv_at hl 3 rfl) ?_
  refine sm_callS (As := [.int 1]) (rest := [.ref m0]) (wr := (sm_wM cZ m0 m1 m2 m3 m4 m5 m6 err (sm_fb V) (sm_fb S) (sm_fo M) (sm_fl M) (sm_fw O) (sm_fw G))) (wn := (sm_wM cZ m0 m1 m2 m3 m4 m5 m6 err (sm_fb V) (sm_fb S) (sm_fo M) (sm_fl M) (sm_fw O) (sm_fw G))) (st1 := [.int (sm_bI false), .ref m0]) ⟨hx, hb, hml, hown, hts⟩ (c_wrong_1 l D) (va_cwS 1 hts (sm_gS (i1 := 311) (i2 := 312) (i4 := 2) (i5 := 313) rfl rfl rfl rfl) rfl rfl rfl (by decide +kernel) ⟨Nat.le_of_ble_eq_true rfl, Nat.le_of_ble_eq_true rfl⟩) hK [] rfl hP hD hS hA [] [0, 1, 2, 3, 4, 5, 6] rfl rfl (by decide) (by decide) (by decide) rfl hl.1 rfl (Nat.le_of_ble_eq_true rfl) dX1_store_2 ⟨Nat.le_of_ble_eq_true rfl, Nat.le_of_ble_eq_true rfl⟩ rfl rfl (fun H locs hP hD hS => ?_)
  refine lv_iconst (v := 1) hx hb dX1_store_5 (by decide) ?_
  refine sm_callV (C := RX1) (As := [.int (sm_bI false), .int 1]) (rest := []) (wr := []) (wn := (sm_wM cZ m0 m1 m2 m3 m4 m5 m6 0 (sm_fb V) (sm_fb S) (sm_fo M) (sm_fl M) (sm_fw O) (sm_fw G))) (st1 := [.int (sm_bI false)]) ⟨hx, hb, hml, hown, hts⟩ (c_fails_f l D cZ m0 m1 m2 m3 m4 m5 m6 err V S M O G 1) (cwV 2 hts (sm_gV (i1 := 266) (i2 := 267) (i3 := 348) (i4 := 2) (i5 := 268) rfl rfl rfl rfl rfl) rfl rfl rfl (by decide +kernel) ⟨Nat.le_of_ble_eq_true rfl, Nat.le_of_ble_eq_true rfl⟩) hK [0] rfl hP hD hS hA 0 rfl rfl [0, 1, 2, 3, 4, 5, 6] [] rfl rfl (by decide) (by decide) (by decide) rfl hl.1 rfl (Nat.le_of_ble_eq_true rfl) dX1_store_6 ⟨Nat.le_of_ble_eq_true rfl, Nat.le_of_ble_eq_true rfl⟩ rfl rfl (fun H locs hP hD hS => ?_)
  refine lv_if_eq (tgt := 13) hx hb dX1_store_9 rfl (fun _ => ?_) (fun z => absurd (by decide) z)
  refine lv_aload_n hx hb dX1_store_13 rfl (lv_at hl 0 rfl) ?_
  refine lv_iload_n hx hb dX1_store_14 rfl (lv_at hl 1 rfl) ?_
  refine sm_callS (As := [.int (nI r)]) (rest := [.ref m0]) (wr := (sm_wM cZ m0 m1 m2 m3 m4 m5 m6 0 (sm_fb V) (sm_fb S) (sm_fo M) (sm_fl M) (sm_fw O) (sm_fw G))) (wn := (sm_wM cZ m0 m1 m2 m3 m4 m5 m6 0 (sm_fb V) (sm_fb S) (sm_fo M) (sm_fl M) (sm_fw O) (sm_fw G))) (st1 := [.int (sm_bI false), .ref m0]) ⟨hx, hb, hml, hown, hts⟩ (c_none_f l D r (by omega)) (va_cwS 1 hts (sm_gS (i1 := 263) (i2 := 264) (i4 := 2) (i5 := 265) rfl rfl rfl rfl) rfl rfl rfl (by decide +kernel) ⟨Nat.le_of_ble_eq_true rfl, Nat.le_of_ble_eq_true rfl⟩) hK [] rfl hP hD hS hA [] [0, 1, 2, 3, 4, 5, 6] rfl rfl (by decide) (by decide) (by decide) rfl hl.1 rfl (Nat.le_of_ble_eq_true rfl) dX1_store_15 ⟨Nat.le_of_ble_eq_true rfl, Nat.le_of_ble_eq_true rfl⟩ rfl rfl (fun H locs hP hD hS => ?_)
  refine lv_if_ne (tgt := 34) hx hb dX1_store_18 rfl (fun z => absurd (by decide) z) (fun _ => ?_)
  refine lv_iload_n hx hb dX1_store_21 rfl (lv_at hl 2 rfl) ?_
  refine lv_if_lt (tgt := 34) hx hb dX1_store_22 rfl (fun z => absurd z (nI_pos (by omega))) (fun _ => ?_)
  refine lv_iload_n hx hb dX1_store_25 rfl (lv_at hl 2 rfl) ?_
  refine lv_sipush (v := 256) hx hb dX1_store_26 (by decide) ?_
  refine lv_iload_n hx hb dX1_store_29 rfl (lv_at hl 3 rfl) ?_
  refine lv_isub hx hb dX1_store_30 ?_
  refine sm_eqi (y := 255) (by decide) ?_
  refine lv_icmp_le (tgt := 38) hx hb dX1_store_31 rfl (fun _ => ?_) (fun z => absurd (nI_le (b := 255) (by omega) (by decide)) z)
  refine lv_iconst (v := 0) hx hb dX1_store_38 (by decide) ?_
  refine lv_iconst (v := 2) hx hb dX1_store_39 (by decide) ?_
  refine sm_callV (C := RX1) (As := [.int (sm_bI false), .int 2]) (rest := []) (wr := []) (wn := (sm_wM cZ m0 m1 m2 m3 m4 m5 m6 0 (sm_fb V) (sm_fb S) (sm_fo M) (sm_fl M) (sm_fw O) (sm_fw G))) (st1 := [.int (sm_bI false)]) ⟨hx, hb, hml, hown, hts⟩ (c_fails_f l D cZ m0 m1 m2 m3 m4 m5 m6 0 V S M O G 2) (cwV 2 hts (sm_gV (i1 := 266) (i2 := 267) (i3 := 348) (i4 := 2) (i5 := 268) rfl rfl rfl rfl rfl) rfl rfl rfl (by decide +kernel) ⟨Nat.le_of_ble_eq_true rfl, Nat.le_of_ble_eq_true rfl⟩) hK [0] rfl hP hD hS hA 0 rfl rfl [0, 1, 2, 3, 4, 5, 6] [] rfl rfl (by decide) (by decide) (by decide) rfl hl.1 rfl (Nat.le_of_ble_eq_true rfl) dX1_store_40 ⟨Nat.le_of_ble_eq_true rfl, Nat.le_of_ble_eq_true rfl⟩ rfl rfl (fun H locs hP hD hS => ?_)
  refine lv_if_eq (tgt := 47) hx hb dX1_store_43 rfl (fun _ => ?_) (fun z => absurd (by decide) z)
  refine lv_iconst (v := 0) hx hb dX1_store_47 (by decide) ?_
  refine lv_istore (lv' := [(4, .int 0), (0, .ref m0), (1, .int (nI r)), (2, .int (nI t)), (3, .int 1)]) hx hb dX1_store_48 hl (by decide) rfl (fun ls hl => ?_)
  refine sm_loopW (nL := 5) (lv := fun k => [(0, .ref m0), (1, .int (nI r)), (2, .int (nI t)), (3, .int 1), (4, .int (nI k))]) (w := fun k => (sm_wM cZ m0 m1 m2 m3 m4 m5 m6 0 (sm_fb V) (sm_fb S) (sm_fill (sm_fo M) (bt (V r)) (8 * t) k) (sm_fill (sm_fl M) (bt (S r)) (8 * t) k) (sm_fw O) (sm_fw G))) 8 (fun H locs ls hl hP hD hS => ?_) (fun k hk ih H locs ls hl hP hD hS => ?_) (lv_sub hl [1, 2, 3, 4, 0] rfl) (sm_cP (by simp only [sm_fill0]) hP) (sm_cD (by simp only [sm_fill0]) hD) hS
  · have hl : lv_has ls 5 [(0, .ref m0), (1, .int (nI r)), (2, .int (nI t)), (3, .int 1), (4, .int (nI 8))] := hl
    have hP : va_P D vwCl (sm_wM cZ m0 m1 m2 m3 m4 m5 m6 0 (sm_fb V) (sm_fb S) (sm_fill (sm_fo M) (bt (V r)) (8 * t) 8) (sm_fill (sm_fl M) (bt (S r)) (8 * t) 8) (sm_fw O) (sm_fw G)) H := hP
    have hD : va_D _ (sm_wM cZ m0 m1 m2 m3 m4 m5 m6 0 (sm_fb V) (sm_fb S) (sm_fill (sm_fo M) (bt (V r)) (8 * t) 8) (sm_fill (sm_fl M) (bt (S r)) (8 * t) 8) (sm_fw O) (sm_fw G)) := hD
    refine lv_iload hx hb dX1_store_50 (lv_at hl 4 rfl) ?_
    refine lv_bipush (v := 8) hx hb dX1_store_52 (by decide) ?_
    refine lv_iload_n hx hb dX1_store_54 rfl (lv_at hl 3 rfl) ?_
    refine lv_imul hx hb dX1_store_55 ?_
    refine sm_eqi (y := 8) (by decide) ?_
    refine lv_icmp_ge (tgt := 103) hx hb dX1_store_56 rfl (fun _ => ?_) (fun z => absurd (by decide) z)
    exact sm_vret hx hb hrt hlocks hS (sm_cP (by rw [show (8 : Nat) = 8 * 1 from rfl, sm_fill_o M (V r) (S r) t (by decide), sm_fill_l M (V r) (S r) t (by decide)]) hP) (sm_cD (by rw [show (8 : Nat) = 8 * 1 from rfl, sm_fill_o M (V r) (S r) t (by decide), sm_fill_l M (V r) (S r) t (by decide)]) hD) dX1_store_103
  · have hl : lv_has ls 5 [(0, .ref m0), (1, .int (nI r)), (2, .int (nI t)), (3, .int 1), (4, .int (nI k))] := hl
    have hP : va_P D vwCl (sm_wM cZ m0 m1 m2 m3 m4 m5 m6 0 (sm_fb V) (sm_fb S) (sm_fill (sm_fo M) (bt (V r)) (8 * t) k) (sm_fill (sm_fl M) (bt (S r)) (8 * t) k) (sm_fw O) (sm_fw G)) H := hP
    have hD : va_D _ (sm_wM cZ m0 m1 m2 m3 m4 m5 m6 0 (sm_fb V) (sm_fb S) (sm_fill (sm_fo M) (bt (V r)) (8 * t) k) (sm_fill (sm_fl M) (bt (S r)) (8 * t) k) (sm_fw O) (sm_fw G)) := hD
    refine lv_iload hx hb dX1_store_50 (lv_at hl 4 rfl) ?_
    refine lv_bipush (v := 8) hx hb dX1_store_52 (by decide) ?_
    refine lv_iload_n hx hb dX1_store_54 rfl (lv_at hl 3 rfl) ?_
    refine lv_imul hx hb dX1_store_55 ?_
    refine sm_eqi (y := 8) (by decide) ?_
    refine lv_icmp_ge (tgt := 103) hx hb dX1_store_56 rfl (fun z => absurd z (nI_ge (b := 8) hk (by decide))) (fun _ => ?_)
    refine lv_aload_n hx hb dX1_store_59 rfl (lv_at hl 0 rfl) ?_
    refine va_get (D := D) (ci := 1) (v := .ref m3) (C := RX1) (T := TX1) (N := 7) hx hb hts inX1 hown hK hP 0 rfl rfl 3 (by decide) (hw 235 rfl) (fun _ h9 => h9) rfl dX1_store_60 ?_
    refine lv_bipush (v := 8) hx hb dX1_store_63 (by decide) ?_
    refine lv_iload_n hx hb dX1_store_65 rfl (lv_at hl 2 rfl) ?_
    refine lv_imul hx hb dX1_store_66 ?_
    refine sm_eqi (y := nI (8 * t)) (pk_mul 8 t) ?_
    refine lv_iload hx hb dX1_store_67 (lv_at hl 4 rfl) ?_
    refine lv_iadd hx hb dX1_store_69 ?_
    refine sm_eqi (y := nI ((8 * t) + k)) (nI_add (8 * t) k) ?_
    refine lv_aload_n hx hb dX1_store_70 rfl (lv_at hl 0 rfl) ?_
    refine lv_iload_n hx hb dX1_store_71 rfl (lv_at hl 1 rfl) ?_
    refine lv_iload hx hb dX1_store_72 (lv_at hl 4 rfl) ?_
    refine sm_callV (C := RX1) (As := [.int (nI r), .int (nI k)]) (rest := [.int (nI ((8 * t) + k)), .ref m3]) (wr := []) (wn := (sm_wM cZ m0 m1 m2 m3 m4 m5 m6 0 (sm_fb V) (sm_fb S) (sm_fill (sm_fo M) (bt (V r)) (8 * t) k) (sm_fill (sm_fl M) (bt (S r)) (8 * t) k) (sm_fw O) (sm_fw G))) (st1 := [.int (sm_bI (bt (V r) k)), .int (nI ((8 * t) + k)), .ref m3]) ⟨hx, hb, hml, hown, hts⟩ (c_is l D cZ m0 m1 m2 m3 m4 m5 m6 0 (sm_fb S) (sm_fill (sm_fo M) (bt (V r)) (8 * t) k) (sm_fill (sm_fl M) (bt (S r)) (8 * t) k) (sm_fw O) (sm_fw G) V r k (by omega) (by omega)) (cwV 2 hts (sm_gV (i1 := 291) (i2 := 292) (i3 := 355) (i4 := 2) (i5 := 293) rfl rfl rfl rfl rfl) rfl rfl rfl (by decide +kernel) ⟨Nat.le_of_ble_eq_true rfl, Nat.le_of_ble_eq_true rfl⟩) hK [0] rfl hP hD hS hA 0 rfl rfl [0, 1, 2, 3, 4, 5, 6] [] rfl rfl (by decide) (by decide) (by decide) rfl hl.1 rfl (Nat.le_of_ble_eq_true rfl) dX1_store_74 ⟨Nat.le_of_ble_eq_true rfl, Nat.le_of_ble_eq_true rfl⟩ rfl rfl (fun H locs hP hD hS => ?_)
    refine sm_zast (f' := sm_fill (sm_fo M) (bt (V r)) (8 * t) (k + 1)) (ws' := (sm_wM cZ m0 m1 m2 m3 m4 m5 m6 0 (sm_fb V) (sm_fb S) (sm_fill (sm_fo M) (bt (V r)) (8 * t) (k + 1)) (sm_fill (sm_fl M) (bt (S r)) (8 * t) k) (sm_fw O) (sm_fw G))) hx hb hK hP hD hS 3 0 rfl rfl (vp_in_nI (n := (8 * t) + k) (by omega) (by decide)) dX1_store_77 (by rw [nI_clamp (by omega)]; exact sm_fillS (sm_fo M) (bt (V r)) (8 * t) k) rfl (fun H locs hP hD hS => ?_)
    refine lv_aload_n hx hb dX1_store_78 rfl (lv_at hl 0 rfl) ?_
    refine va_get (D := D) (ci := 1) (v := .ref m4) (C := RX1) (T := TX1) (N := 7) hx hb hts inX1 hown hK hP 0 rfl rfl 4 (by decide) (hw 236 rfl) (fun _ h9 => h9) rfl dX1_store_79 ?_
    refine lv_bipush (v := 8) hx hb dX1_store_82 (by decide) ?_
    refine lv_iload_n hx hb dX1_store_84 rfl (lv_at hl 2 rfl) ?_
    refine lv_imul hx hb dX1_store_85 ?_
    refine sm_eqi (y := nI (8 * t)) (pk_mul 8 t) ?_
    refine lv_iload hx hb dX1_store_86 (lv_at hl 4 rfl) ?_
    refine lv_iadd hx hb dX1_store_88 ?_
    refine sm_eqi (y := nI ((8 * t) + k)) (nI_add (8 * t) k) ?_
    refine lv_aload_n hx hb dX1_store_89 rfl (lv_at hl 0 rfl) ?_
    refine lv_iload_n hx hb dX1_store_90 rfl (lv_at hl 1 rfl) ?_
    refine lv_iload hx hb dX1_store_91 (lv_at hl 4 rfl) ?_
    refine sm_callV (C := RX1) (As := [.int (nI r), .int (nI k)]) (rest := [.int (nI ((8 * t) + k)), .ref m4]) (wr := []) (wn := (sm_wM cZ m0 m1 m2 m3 m4 m5 m6 0 (sm_fb V) (sm_fb S) (sm_fill (sm_fo M) (bt (V r)) (8 * t) (k + 1)) (sm_fill (sm_fl M) (bt (S r)) (8 * t) k) (sm_fw O) (sm_fw G))) (st1 := [.int (sm_bI (bt (S r) k)), .int (nI ((8 * t) + k)), .ref m4]) ⟨hx, hb, hml, hown, hts⟩ (c_un l D cZ m0 m1 m2 m3 m4 m5 m6 0 (sm_fb V) (sm_fill (sm_fo M) (bt (V r)) (8 * t) (k + 1)) (sm_fill (sm_fl M) (bt (S r)) (8 * t) k) (sm_fw O) (sm_fw G) S r k (by omega) (by omega)) (cwV 2 hts (sm_gV (i1 := 285) (i2 := 286) (i3 := 353) (i4 := 2) (i5 := 287) rfl rfl rfl rfl rfl) rfl rfl rfl (by decide +kernel) ⟨Nat.le_of_ble_eq_true rfl, Nat.le_of_ble_eq_true rfl⟩) hK [0] rfl hP hD hS hA 0 rfl rfl [0, 1, 2, 3, 4, 5, 6] [] rfl rfl (by decide) (by decide) (by decide) rfl hl.1 rfl (Nat.le_of_ble_eq_true rfl) dX1_store_93 ⟨Nat.le_of_ble_eq_true rfl, Nat.le_of_ble_eq_true rfl⟩ rfl rfl (fun H locs hP hD hS => ?_)
    refine sm_zast (f' := sm_fill (sm_fl M) (bt (S r)) (8 * t) (k + 1)) (ws' := (sm_wM cZ m0 m1 m2 m3 m4 m5 m6 0 (sm_fb V) (sm_fb S) (sm_fill (sm_fo M) (bt (V r)) (8 * t) (k + 1)) (sm_fill (sm_fl M) (bt (S r)) (8 * t) (k + 1)) (sm_fw O) (sm_fw G))) hx hb hK hP hD hS 4 0 rfl rfl (vp_in_nI (n := (8 * t) + k) (by omega) (by decide)) dX1_store_96 (by rw [nI_clamp (by omega)]; exact sm_fillS (sm_fl M) (bt (S r)) (8 * t) k) rfl (fun H locs hP hD hS => ?_)
    refine lv_iinc (k := 4) (v := nI (k + 1)) (lv' := [(4, .int (nI (k + 1))), (0, .ref m0), (1, .int (nI r)), (2, .int (nI t)), (3, .int 1)]) hx hb dX1_store_97 hl rfl (sm_inc k) (by decide) rfl (fun ls hl => ?_)
    refine lv_goto (tgt := 50) hx hb dX1_store_100 rfl ?_
    exact ih _ _ _ (lv_sub hl [1, 2, 3, 4, 0] rfl) (sm_cP (rfl) hP) (sm_cD (rfl) hD) hS
set_option maxHeartbeats 4000000 in
set_option maxRecDepth 100000 in
theorem c_mstore_2 (l : Launch) (D : va_G) (cZ : ClassId) (m0 m1 m2 m3 m4 m5 m6 : Nat) (err : Int32) (V S M : Nat → Int32) (O G : Int32) (r t : Nat) (hr : r < 16) (ht : t + 2 ≤ 256) : sm_C l yX1_store wsX1_store ({ frames := 5, cells := 0, slots := 0, locals := 140 } : Room) D vwCl [(cZ, .boolean)] [.ref m0, .int (nI r), .int (nI t), .int 2] (sm_wM cZ m0 m1 m2 m3 m4 m5 m6 err (sm_fb V) (sm_fb S) (sm_fo M) (sm_fl M) (sm_fw O) (sm_fw G)) none (sm_wM cZ m0 m1 m2 m3 m4 m5 m6 0 (sm_fb V) (sm_fb S) (sm_fo (sm_fil M (sm_by (V r) (S r)) t 2)) (sm_fl (sm_fil M (sm_by (V r) (S r)) t 2)) (sm_fw O) (sm_fw G)) := by
  refine sm_start (cc := cX1_store) (maxL := 5) (ret := none) (lv := [(0, .ref m0), (1, .int (nI r)), (2, .int (nI t)), (3, .int 2)]) (by decide) rfl (Nat.le_of_ble_eq_true rfl) rfl ?_
  intro p e s m below meth c hx hb hrt hts hown hlocks hml hin hK hP hD hS hA ls hl
  have hw := sm_hw hts
  refine lv_aload_n hx hb dX1_store_0 rfl (lv_at hl 0 rfl) ?_
  refine lv_iload_n hx hb dX1_store_1 rfl (lv_at hl 3 rfl) ?_
  refine sm_callS (As := [.int 2]) (rest := [.ref m0]) (wr := (sm_wM cZ m0 m1 m2 m3 m4 m5 m6 err (sm_fb V) (sm_fb S) (sm_fo M) (sm_fl M) (sm_fw O) (sm_fw G))) (wn := (sm_wM cZ m0 m1 m2 m3 m4 m5 m6 err (sm_fb V) (sm_fb S) (sm_fo M) (sm_fl M) (sm_fw O) (sm_fw G))) (st1 := [.int (sm_bI false), .ref m0]) ⟨hx, hb, hml, hown, hts⟩ (c_wrong_2 l D) (va_cwS 1 hts (sm_gS (i1 := 311) (i2 := 312) (i4 := 2) (i5 := 313) rfl rfl rfl rfl) rfl rfl rfl (by decide +kernel) ⟨Nat.le_of_ble_eq_true rfl, Nat.le_of_ble_eq_true rfl⟩) hK [] rfl hP hD hS hA [] [0, 1, 2, 3, 4, 5, 6] rfl rfl (by decide) (by decide) (by decide) rfl hl.1 rfl (Nat.le_of_ble_eq_true rfl) dX1_store_2 ⟨Nat.le_of_ble_eq_true rfl, Nat.le_of_ble_eq_true rfl⟩ rfl rfl (fun H locs hP hD hS => ?_)
  refine lv_iconst (v := 1) hx hb dX1_store_5 (by decide) ?_
  refine sm_callV (C := RX1) (As := [.int (sm_bI false), .int 1]) (rest := []) (wr := []) (wn := (sm_wM cZ m0 m1 m2 m3 m4 m5 m6 0 (sm_fb V) (sm_fb S) (sm_fo M) (sm_fl M) (sm_fw O) (sm_fw G))) (st1 := [.int (sm_bI false)]) ⟨hx, hb, hml, hown, hts⟩ (c_fails_f l D cZ m0 m1 m2 m3 m4 m5 m6 err V S M O G 1) (cwV 2 hts (sm_gV (i1 := 266) (i2 := 267) (i3 := 348) (i4 := 2) (i5 := 268) rfl rfl rfl rfl rfl) rfl rfl rfl (by decide +kernel) ⟨Nat.le_of_ble_eq_true rfl, Nat.le_of_ble_eq_true rfl⟩) hK [0] rfl hP hD hS hA 0 rfl rfl [0, 1, 2, 3, 4, 5, 6] [] rfl rfl (by decide) (by decide) (by decide) rfl hl.1 rfl (Nat.le_of_ble_eq_true rfl) dX1_store_6 ⟨Nat.le_of_ble_eq_true rfl, Nat.le_of_ble_eq_true rfl⟩ rfl rfl (fun H locs hP hD hS => ?_)
  refine lv_if_eq (tgt := 13) hx hb dX1_store_9 rfl (fun _ => ?_) (fun z => absurd (by decide) z)
  refine lv_aload_n hx hb dX1_store_13 rfl (lv_at hl 0 rfl) ?_
  refine lv_iload_n hx hb dX1_store_14 rfl (lv_at hl 1 rfl) ?_
  refine sm_callS (As := [.int (nI r)]) (rest := [.ref m0]) (wr := (sm_wM cZ m0 m1 m2 m3 m4 m5 m6 0 (sm_fb V) (sm_fb S) (sm_fo M) (sm_fl M) (sm_fw O) (sm_fw G))) (wn := (sm_wM cZ m0 m1 m2 m3 m4 m5 m6 0 (sm_fb V) (sm_fb S) (sm_fo M) (sm_fl M) (sm_fw O) (sm_fw G))) (st1 := [.int (sm_bI false), .ref m0]) ⟨hx, hb, hml, hown, hts⟩ (c_none_f l D r (by omega)) (va_cwS 1 hts (sm_gS (i1 := 263) (i2 := 264) (i4 := 2) (i5 := 265) rfl rfl rfl rfl) rfl rfl rfl (by decide +kernel) ⟨Nat.le_of_ble_eq_true rfl, Nat.le_of_ble_eq_true rfl⟩) hK [] rfl hP hD hS hA [] [0, 1, 2, 3, 4, 5, 6] rfl rfl (by decide) (by decide) (by decide) rfl hl.1 rfl (Nat.le_of_ble_eq_true rfl) dX1_store_15 ⟨Nat.le_of_ble_eq_true rfl, Nat.le_of_ble_eq_true rfl⟩ rfl rfl (fun H locs hP hD hS => ?_)
  refine lv_if_ne (tgt := 34) hx hb dX1_store_18 rfl (fun z => absurd (by decide) z) (fun _ => ?_)
  refine lv_iload_n hx hb dX1_store_21 rfl (lv_at hl 2 rfl) ?_
  refine lv_if_lt (tgt := 34) hx hb dX1_store_22 rfl (fun z => absurd z (nI_pos (by omega))) (fun _ => ?_)
  refine lv_iload_n hx hb dX1_store_25 rfl (lv_at hl 2 rfl) ?_
  refine lv_sipush (v := 256) hx hb dX1_store_26 (by decide) ?_
  refine lv_iload_n hx hb dX1_store_29 rfl (lv_at hl 3 rfl) ?_
  refine lv_isub hx hb dX1_store_30 ?_
  refine sm_eqi (y := 254) (by decide) ?_
  refine lv_icmp_le (tgt := 38) hx hb dX1_store_31 rfl (fun _ => ?_) (fun z => absurd (nI_le (b := 254) (by omega) (by decide)) z)
  refine lv_iconst (v := 0) hx hb dX1_store_38 (by decide) ?_
  refine lv_iconst (v := 2) hx hb dX1_store_39 (by decide) ?_
  refine sm_callV (C := RX1) (As := [.int (sm_bI false), .int 2]) (rest := []) (wr := []) (wn := (sm_wM cZ m0 m1 m2 m3 m4 m5 m6 0 (sm_fb V) (sm_fb S) (sm_fo M) (sm_fl M) (sm_fw O) (sm_fw G))) (st1 := [.int (sm_bI false)]) ⟨hx, hb, hml, hown, hts⟩ (c_fails_f l D cZ m0 m1 m2 m3 m4 m5 m6 0 V S M O G 2) (cwV 2 hts (sm_gV (i1 := 266) (i2 := 267) (i3 := 348) (i4 := 2) (i5 := 268) rfl rfl rfl rfl rfl) rfl rfl rfl (by decide +kernel) ⟨Nat.le_of_ble_eq_true rfl, Nat.le_of_ble_eq_true rfl⟩) hK [0] rfl hP hD hS hA 0 rfl rfl [0, 1, 2, 3, 4, 5, 6] [] rfl rfl (by decide) (by decide) (by decide) rfl hl.1 rfl (Nat.le_of_ble_eq_true rfl) dX1_store_40 ⟨Nat.le_of_ble_eq_true rfl, Nat.le_of_ble_eq_true rfl⟩ rfl rfl (fun H locs hP hD hS => ?_)
  refine lv_if_eq (tgt := 47) hx hb dX1_store_43 rfl (fun _ => ?_) (fun z => absurd (by decide) z)
  refine lv_iconst (v := 0) hx hb dX1_store_47 (by decide) ?_
  refine lv_istore (lv' := [(4, .int 0), (0, .ref m0), (1, .int (nI r)), (2, .int (nI t)), (3, .int 2)]) hx hb dX1_store_48 hl (by decide) rfl (fun ls hl => ?_)
  refine sm_loopW (nL := 5) (lv := fun k => [(0, .ref m0), (1, .int (nI r)), (2, .int (nI t)), (3, .int 2), (4, .int (nI k))]) (w := fun k => (sm_wM cZ m0 m1 m2 m3 m4 m5 m6 0 (sm_fb V) (sm_fb S) (sm_fill (sm_fo M) (bt (V r)) (8 * t) k) (sm_fill (sm_fl M) (bt (S r)) (8 * t) k) (sm_fw O) (sm_fw G))) 16 (fun H locs ls hl hP hD hS => ?_) (fun k hk ih H locs ls hl hP hD hS => ?_) (lv_sub hl [1, 2, 3, 4, 0] rfl) (sm_cP (by simp only [sm_fill0]) hP) (sm_cD (by simp only [sm_fill0]) hD) hS
  · have hl : lv_has ls 5 [(0, .ref m0), (1, .int (nI r)), (2, .int (nI t)), (3, .int 2), (4, .int (nI 16))] := hl
    have hP : va_P D vwCl (sm_wM cZ m0 m1 m2 m3 m4 m5 m6 0 (sm_fb V) (sm_fb S) (sm_fill (sm_fo M) (bt (V r)) (8 * t) 16) (sm_fill (sm_fl M) (bt (S r)) (8 * t) 16) (sm_fw O) (sm_fw G)) H := hP
    have hD : va_D _ (sm_wM cZ m0 m1 m2 m3 m4 m5 m6 0 (sm_fb V) (sm_fb S) (sm_fill (sm_fo M) (bt (V r)) (8 * t) 16) (sm_fill (sm_fl M) (bt (S r)) (8 * t) 16) (sm_fw O) (sm_fw G)) := hD
    refine lv_iload hx hb dX1_store_50 (lv_at hl 4 rfl) ?_
    refine lv_bipush (v := 8) hx hb dX1_store_52 (by decide) ?_
    refine lv_iload_n hx hb dX1_store_54 rfl (lv_at hl 3 rfl) ?_
    refine lv_imul hx hb dX1_store_55 ?_
    refine sm_eqi (y := 16) (by decide) ?_
    refine lv_icmp_ge (tgt := 103) hx hb dX1_store_56 rfl (fun _ => ?_) (fun z => absurd (by decide) z)
    exact sm_vret hx hb hrt hlocks hS (sm_cP (by rw [show (16 : Nat) = 8 * 2 from rfl, sm_fill_o M (V r) (S r) t (by decide), sm_fill_l M (V r) (S r) t (by decide)]) hP) (sm_cD (by rw [show (16 : Nat) = 8 * 2 from rfl, sm_fill_o M (V r) (S r) t (by decide), sm_fill_l M (V r) (S r) t (by decide)]) hD) dX1_store_103
  · have hl : lv_has ls 5 [(0, .ref m0), (1, .int (nI r)), (2, .int (nI t)), (3, .int 2), (4, .int (nI k))] := hl
    have hP : va_P D vwCl (sm_wM cZ m0 m1 m2 m3 m4 m5 m6 0 (sm_fb V) (sm_fb S) (sm_fill (sm_fo M) (bt (V r)) (8 * t) k) (sm_fill (sm_fl M) (bt (S r)) (8 * t) k) (sm_fw O) (sm_fw G)) H := hP
    have hD : va_D _ (sm_wM cZ m0 m1 m2 m3 m4 m5 m6 0 (sm_fb V) (sm_fb S) (sm_fill (sm_fo M) (bt (V r)) (8 * t) k) (sm_fill (sm_fl M) (bt (S r)) (8 * t) k) (sm_fw O) (sm_fw G)) := hD
    refine lv_iload hx hb dX1_store_50 (lv_at hl 4 rfl) ?_
    refine lv_bipush (v := 8) hx hb dX1_store_52 (by decide) ?_
    refine lv_iload_n hx hb dX1_store_54 rfl (lv_at hl 3 rfl) ?_
    refine lv_imul hx hb dX1_store_55 ?_
    refine sm_eqi (y := 16) (by decide) ?_
    refine lv_icmp_ge (tgt := 103) hx hb dX1_store_56 rfl (fun z => absurd z (nI_ge (b := 16) hk (by decide))) (fun _ => ?_)
    refine lv_aload_n hx hb dX1_store_59 rfl (lv_at hl 0 rfl) ?_
    refine va_get (D := D) (ci := 1) (v := .ref m3) (C := RX1) (T := TX1) (N := 7) hx hb hts inX1 hown hK hP 0 rfl rfl 3 (by decide) (hw 235 rfl) (fun _ h9 => h9) rfl dX1_store_60 ?_
    refine lv_bipush (v := 8) hx hb dX1_store_63 (by decide) ?_
    refine lv_iload_n hx hb dX1_store_65 rfl (lv_at hl 2 rfl) ?_
    refine lv_imul hx hb dX1_store_66 ?_
    refine sm_eqi (y := nI (8 * t)) (pk_mul 8 t) ?_
    refine lv_iload hx hb dX1_store_67 (lv_at hl 4 rfl) ?_
    refine lv_iadd hx hb dX1_store_69 ?_
    refine sm_eqi (y := nI ((8 * t) + k)) (nI_add (8 * t) k) ?_
    refine lv_aload_n hx hb dX1_store_70 rfl (lv_at hl 0 rfl) ?_
    refine lv_iload_n hx hb dX1_store_71 rfl (lv_at hl 1 rfl) ?_
    refine lv_iload hx hb dX1_store_72 (lv_at hl 4 rfl) ?_
    refine sm_callV (C := RX1) (As := [.int (nI r), .int (nI k)]) (rest := [.int (nI ((8 * t) + k)), .ref m3]) (wr := []) (wn := (sm_wM cZ m0 m1 m2 m3 m4 m5 m6 0 (sm_fb V) (sm_fb S) (sm_fill (sm_fo M) (bt (V r)) (8 * t) k) (sm_fill (sm_fl M) (bt (S r)) (8 * t) k) (sm_fw O) (sm_fw G))) (st1 := [.int (sm_bI (bt (V r) k)), .int (nI ((8 * t) + k)), .ref m3]) ⟨hx, hb, hml, hown, hts⟩ (c_is l D cZ m0 m1 m2 m3 m4 m5 m6 0 (sm_fb S) (sm_fill (sm_fo M) (bt (V r)) (8 * t) k) (sm_fill (sm_fl M) (bt (S r)) (8 * t) k) (sm_fw O) (sm_fw G) V r k (by omega) (by omega)) (cwV 2 hts (sm_gV (i1 := 291) (i2 := 292) (i3 := 355) (i4 := 2) (i5 := 293) rfl rfl rfl rfl rfl) rfl rfl rfl (by decide +kernel) ⟨Nat.le_of_ble_eq_true rfl, Nat.le_of_ble_eq_true rfl⟩) hK [0] rfl hP hD hS hA 0 rfl rfl [0, 1, 2, 3, 4, 5, 6] [] rfl rfl (by decide) (by decide) (by decide) rfl hl.1 rfl (Nat.le_of_ble_eq_true rfl) dX1_store_74 ⟨Nat.le_of_ble_eq_true rfl, Nat.le_of_ble_eq_true rfl⟩ rfl rfl (fun H locs hP hD hS => ?_)
    refine sm_zast (f' := sm_fill (sm_fo M) (bt (V r)) (8 * t) (k + 1)) (ws' := (sm_wM cZ m0 m1 m2 m3 m4 m5 m6 0 (sm_fb V) (sm_fb S) (sm_fill (sm_fo M) (bt (V r)) (8 * t) (k + 1)) (sm_fill (sm_fl M) (bt (S r)) (8 * t) k) (sm_fw O) (sm_fw G))) hx hb hK hP hD hS 3 0 rfl rfl (vp_in_nI (n := (8 * t) + k) (by omega) (by decide)) dX1_store_77 (by rw [nI_clamp (by omega)]; exact sm_fillS (sm_fo M) (bt (V r)) (8 * t) k) rfl (fun H locs hP hD hS => ?_)
    refine lv_aload_n hx hb dX1_store_78 rfl (lv_at hl 0 rfl) ?_
    refine va_get (D := D) (ci := 1) (v := .ref m4) (C := RX1) (T := TX1) (N := 7) hx hb hts inX1 hown hK hP 0 rfl rfl 4 (by decide) (hw 236 rfl) (fun _ h9 => h9) rfl dX1_store_79 ?_
    refine lv_bipush (v := 8) hx hb dX1_store_82 (by decide) ?_
    refine lv_iload_n hx hb dX1_store_84 rfl (lv_at hl 2 rfl) ?_
    refine lv_imul hx hb dX1_store_85 ?_
    refine sm_eqi (y := nI (8 * t)) (pk_mul 8 t) ?_
    refine lv_iload hx hb dX1_store_86 (lv_at hl 4 rfl) ?_
    refine lv_iadd hx hb dX1_store_88 ?_
    refine sm_eqi (y := nI ((8 * t) + k)) (nI_add (8 * t) k) ?_
    refine lv_aload_n hx hb dX1_store_89 rfl (lv_at hl 0 rfl) ?_
    refine lv_iload_n hx hb dX1_store_90 rfl (lv_at hl 1 rfl) ?_
    refine lv_iload hx hb dX1_store_91 (lv_at hl 4 rfl) ?_
    refine sm_callV (C := RX1) (As := [.int (nI r), .int (nI k)]) (rest := [.int (nI ((8 * t) + k)), .ref m4]) (wr := []) (wn := (sm_wM cZ m0 m1 m2 m3 m4 m5 m6 0 (sm_fb V) (sm_fb S) (sm_fill (sm_fo M) (bt (V r)) (8 * t) (k + 1)) (sm_fill (sm_fl M) (bt (S r)) (8 * t) k) (sm_fw O) (sm_fw G))) (st1 := [.int (sm_bI (bt (S r) k)), .int (nI ((8 * t) + k)), .ref m4]) ⟨hx, hb, hml, hown, hts⟩ (c_un l D cZ m0 m1 m2 m3 m4 m5 m6 0 (sm_fb V) (sm_fill (sm_fo M) (bt (V r)) (8 * t) (k + 1)) (sm_fill (sm_fl M) (bt (S r)) (8 * t) k) (sm_fw O) (sm_fw G) S r k (by omega) (by omega)) (cwV 2 hts (sm_gV (i1 := 285) (i2 := 286) (i3 := 353) (i4 := 2) (i5 := 287) rfl rfl rfl rfl rfl) rfl rfl rfl (by decide +kernel) ⟨Nat.le_of_ble_eq_true rfl, Nat.le_of_ble_eq_true rfl⟩) hK [0] rfl hP hD hS hA 0 rfl rfl [0, 1, 2, 3, 4, 5, 6] [] rfl rfl (by decide) (by decide) (by decide) rfl hl.1 rfl (Nat.le_of_ble_eq_true rfl) dX1_store_93 ⟨Nat.le_of_ble_eq_true rfl, Nat.le_of_ble_eq_true rfl⟩ rfl rfl (fun H locs hP hD hS => ?_)
    refine sm_zast (f' := sm_fill (sm_fl M) (bt (S r)) (8 * t) (k + 1)) (ws' := (sm_wM cZ m0 m1 m2 m3 m4 m5 m6 0 (sm_fb V) (sm_fb S) (sm_fill (sm_fo M) (bt (V r)) (8 * t) (k + 1)) (sm_fill (sm_fl M) (bt (S r)) (8 * t) (k + 1)) (sm_fw O) (sm_fw G))) hx hb hK hP hD hS 4 0 rfl rfl (vp_in_nI (n := (8 * t) + k) (by omega) (by decide)) dX1_store_96 (by rw [nI_clamp (by omega)]; exact sm_fillS (sm_fl M) (bt (S r)) (8 * t) k) rfl (fun H locs hP hD hS => ?_)
    refine lv_iinc (k := 4) (v := nI (k + 1)) (lv' := [(4, .int (nI (k + 1))), (0, .ref m0), (1, .int (nI r)), (2, .int (nI t)), (3, .int 2)]) hx hb dX1_store_97 hl rfl (sm_inc k) (by decide) rfl (fun ls hl => ?_)
    refine lv_goto (tgt := 50) hx hb dX1_store_100 rfl ?_
    exact ih _ _ _ (lv_sub hl [1, 2, 3, 4, 0] rfl) (sm_cP (rfl) hP) (sm_cD (rfl) hD) hS
set_option maxHeartbeats 4000000 in
set_option maxRecDepth 100000 in
theorem c_mstore_4 (l : Launch) (D : va_G) (cZ : ClassId) (m0 m1 m2 m3 m4 m5 m6 : Nat) (err : Int32) (V S M : Nat → Int32) (O G : Int32) (r t : Nat) (hr : r < 16) (ht : t + 4 ≤ 256) : sm_C l yX1_store wsX1_store ({ frames := 5, cells := 0, slots := 0, locals := 140 } : Room) D vwCl [(cZ, .boolean)] [.ref m0, .int (nI r), .int (nI t), .int 4] (sm_wM cZ m0 m1 m2 m3 m4 m5 m6 err (sm_fb V) (sm_fb S) (sm_fo M) (sm_fl M) (sm_fw O) (sm_fw G)) none (sm_wM cZ m0 m1 m2 m3 m4 m5 m6 0 (sm_fb V) (sm_fb S) (sm_fo (sm_fil M (sm_by (V r) (S r)) t 4)) (sm_fl (sm_fil M (sm_by (V r) (S r)) t 4)) (sm_fw O) (sm_fw G)) := by
  refine sm_start (cc := cX1_store) (maxL := 5) (ret := none) (lv := [(0, .ref m0), (1, .int (nI r)), (2, .int (nI t)), (3, .int 4)]) (by decide) rfl (Nat.le_of_ble_eq_true rfl) rfl ?_
  intro p e s m below meth c hx hb hrt hts hown hlocks hml hin hK hP hD hS hA ls hl
  have hw := sm_hw hts
  refine lv_aload_n hx hb dX1_store_0 rfl (lv_at hl 0 rfl) ?_
  refine lv_iload_n hx hb dX1_store_1 rfl (lv_at hl 3 rfl) ?_
  refine sm_callS (As := [.int 4]) (rest := [.ref m0]) (wr := (sm_wM cZ m0 m1 m2 m3 m4 m5 m6 err (sm_fb V) (sm_fb S) (sm_fo M) (sm_fl M) (sm_fw O) (sm_fw G))) (wn := (sm_wM cZ m0 m1 m2 m3 m4 m5 m6 err (sm_fb V) (sm_fb S) (sm_fo M) (sm_fl M) (sm_fw O) (sm_fw G))) (st1 := [.int (sm_bI false), .ref m0]) ⟨hx, hb, hml, hown, hts⟩ (c_wrong_4 l D) (va_cwS 1 hts (sm_gS (i1 := 311) (i2 := 312) (i4 := 2) (i5 := 313) rfl rfl rfl rfl) rfl rfl rfl (by decide +kernel) ⟨Nat.le_of_ble_eq_true rfl, Nat.le_of_ble_eq_true rfl⟩) hK [] rfl hP hD hS hA [] [0, 1, 2, 3, 4, 5, 6] rfl rfl (by decide) (by decide) (by decide) rfl hl.1 rfl (Nat.le_of_ble_eq_true rfl) dX1_store_2 ⟨Nat.le_of_ble_eq_true rfl, Nat.le_of_ble_eq_true rfl⟩ rfl rfl (fun H locs hP hD hS => ?_)
  refine lv_iconst (v := 1) hx hb dX1_store_5 (by decide) ?_
  refine sm_callV (C := RX1) (As := [.int (sm_bI false), .int 1]) (rest := []) (wr := []) (wn := (sm_wM cZ m0 m1 m2 m3 m4 m5 m6 0 (sm_fb V) (sm_fb S) (sm_fo M) (sm_fl M) (sm_fw O) (sm_fw G))) (st1 := [.int (sm_bI false)]) ⟨hx, hb, hml, hown, hts⟩ (c_fails_f l D cZ m0 m1 m2 m3 m4 m5 m6 err V S M O G 1) (cwV 2 hts (sm_gV (i1 := 266) (i2 := 267) (i3 := 348) (i4 := 2) (i5 := 268) rfl rfl rfl rfl rfl) rfl rfl rfl (by decide +kernel) ⟨Nat.le_of_ble_eq_true rfl, Nat.le_of_ble_eq_true rfl⟩) hK [0] rfl hP hD hS hA 0 rfl rfl [0, 1, 2, 3, 4, 5, 6] [] rfl rfl (by decide) (by decide) (by decide) rfl hl.1 rfl (Nat.le_of_ble_eq_true rfl) dX1_store_6 ⟨Nat.le_of_ble_eq_true rfl, Nat.le_of_ble_eq_true rfl⟩ rfl rfl (fun H locs hP hD hS => ?_)
  refine lv_if_eq (tgt := 13) hx hb dX1_store_9 rfl (fun _ => ?_) (fun z => absurd (by decide) z)
  refine lv_aload_n hx hb dX1_store_13 rfl (lv_at hl 0 rfl) ?_
  refine lv_iload_n hx hb dX1_store_14 rfl (lv_at hl 1 rfl) ?_
  refine sm_callS (As := [.int (nI r)]) (rest := [.ref m0]) (wr := (sm_wM cZ m0 m1 m2 m3 m4 m5 m6 0 (sm_fb V) (sm_fb S) (sm_fo M) (sm_fl M) (sm_fw O) (sm_fw G))) (wn := (sm_wM cZ m0 m1 m2 m3 m4 m5 m6 0 (sm_fb V) (sm_fb S) (sm_fo M) (sm_fl M) (sm_fw O) (sm_fw G))) (st1 := [.int (sm_bI false), .ref m0]) ⟨hx, hb, hml, hown, hts⟩ (c_none_f l D r (by omega)) (va_cwS 1 hts (sm_gS (i1 := 263) (i2 := 264) (i4 := 2) (i5 := 265) rfl rfl rfl rfl) rfl rfl rfl (by decide +kernel) ⟨Nat.le_of_ble_eq_true rfl, Nat.le_of_ble_eq_true rfl⟩) hK [] rfl hP hD hS hA [] [0, 1, 2, 3, 4, 5, 6] rfl rfl (by decide) (by decide) (by decide) rfl hl.1 rfl (Nat.le_of_ble_eq_true rfl) dX1_store_15 ⟨Nat.le_of_ble_eq_true rfl, Nat.le_of_ble_eq_true rfl⟩ rfl rfl (fun H locs hP hD hS => ?_)
  refine lv_if_ne (tgt := 34) hx hb dX1_store_18 rfl (fun z => absurd (by decide) z) (fun _ => ?_)
  refine lv_iload_n hx hb dX1_store_21 rfl (lv_at hl 2 rfl) ?_
  refine lv_if_lt (tgt := 34) hx hb dX1_store_22 rfl (fun z => absurd z (nI_pos (by omega))) (fun _ => ?_)
  refine lv_iload_n hx hb dX1_store_25 rfl (lv_at hl 2 rfl) ?_
  refine lv_sipush (v := 256) hx hb dX1_store_26 (by decide) ?_
  refine lv_iload_n hx hb dX1_store_29 rfl (lv_at hl 3 rfl) ?_
  refine lv_isub hx hb dX1_store_30 ?_
  refine sm_eqi (y := 252) (by decide) ?_
  refine lv_icmp_le (tgt := 38) hx hb dX1_store_31 rfl (fun _ => ?_) (fun z => absurd (nI_le (b := 252) (by omega) (by decide)) z)
  refine lv_iconst (v := 0) hx hb dX1_store_38 (by decide) ?_
  refine lv_iconst (v := 2) hx hb dX1_store_39 (by decide) ?_
  refine sm_callV (C := RX1) (As := [.int (sm_bI false), .int 2]) (rest := []) (wr := []) (wn := (sm_wM cZ m0 m1 m2 m3 m4 m5 m6 0 (sm_fb V) (sm_fb S) (sm_fo M) (sm_fl M) (sm_fw O) (sm_fw G))) (st1 := [.int (sm_bI false)]) ⟨hx, hb, hml, hown, hts⟩ (c_fails_f l D cZ m0 m1 m2 m3 m4 m5 m6 0 V S M O G 2) (cwV 2 hts (sm_gV (i1 := 266) (i2 := 267) (i3 := 348) (i4 := 2) (i5 := 268) rfl rfl rfl rfl rfl) rfl rfl rfl (by decide +kernel) ⟨Nat.le_of_ble_eq_true rfl, Nat.le_of_ble_eq_true rfl⟩) hK [0] rfl hP hD hS hA 0 rfl rfl [0, 1, 2, 3, 4, 5, 6] [] rfl rfl (by decide) (by decide) (by decide) rfl hl.1 rfl (Nat.le_of_ble_eq_true rfl) dX1_store_40 ⟨Nat.le_of_ble_eq_true rfl, Nat.le_of_ble_eq_true rfl⟩ rfl rfl (fun H locs hP hD hS => ?_)
  refine lv_if_eq (tgt := 47) hx hb dX1_store_43 rfl (fun _ => ?_) (fun z => absurd (by decide) z)
  refine lv_iconst (v := 0) hx hb dX1_store_47 (by decide) ?_
  refine lv_istore (lv' := [(4, .int 0), (0, .ref m0), (1, .int (nI r)), (2, .int (nI t)), (3, .int 4)]) hx hb dX1_store_48 hl (by decide) rfl (fun ls hl => ?_)
  refine sm_loopW (nL := 5) (lv := fun k => [(0, .ref m0), (1, .int (nI r)), (2, .int (nI t)), (3, .int 4), (4, .int (nI k))]) (w := fun k => (sm_wM cZ m0 m1 m2 m3 m4 m5 m6 0 (sm_fb V) (sm_fb S) (sm_fill (sm_fo M) (bt (V r)) (8 * t) k) (sm_fill (sm_fl M) (bt (S r)) (8 * t) k) (sm_fw O) (sm_fw G))) 32 (fun H locs ls hl hP hD hS => ?_) (fun k hk ih H locs ls hl hP hD hS => ?_) (lv_sub hl [1, 2, 3, 4, 0] rfl) (sm_cP (by simp only [sm_fill0]) hP) (sm_cD (by simp only [sm_fill0]) hD) hS
  · have hl : lv_has ls 5 [(0, .ref m0), (1, .int (nI r)), (2, .int (nI t)), (3, .int 4), (4, .int (nI 32))] := hl
    have hP : va_P D vwCl (sm_wM cZ m0 m1 m2 m3 m4 m5 m6 0 (sm_fb V) (sm_fb S) (sm_fill (sm_fo M) (bt (V r)) (8 * t) 32) (sm_fill (sm_fl M) (bt (S r)) (8 * t) 32) (sm_fw O) (sm_fw G)) H := hP
    have hD : va_D _ (sm_wM cZ m0 m1 m2 m3 m4 m5 m6 0 (sm_fb V) (sm_fb S) (sm_fill (sm_fo M) (bt (V r)) (8 * t) 32) (sm_fill (sm_fl M) (bt (S r)) (8 * t) 32) (sm_fw O) (sm_fw G)) := hD
    refine lv_iload hx hb dX1_store_50 (lv_at hl 4 rfl) ?_
    refine lv_bipush (v := 8) hx hb dX1_store_52 (by decide) ?_
    refine lv_iload_n hx hb dX1_store_54 rfl (lv_at hl 3 rfl) ?_
    refine lv_imul hx hb dX1_store_55 ?_
    refine sm_eqi (y := 32) (by decide) ?_
    refine lv_icmp_ge (tgt := 103) hx hb dX1_store_56 rfl (fun _ => ?_) (fun z => absurd (by decide) z)
    exact sm_vret hx hb hrt hlocks hS (sm_cP (by rw [show (32 : Nat) = 8 * 4 from rfl, sm_fill_o M (V r) (S r) t (by decide), sm_fill_l M (V r) (S r) t (by decide)]) hP) (sm_cD (by rw [show (32 : Nat) = 8 * 4 from rfl, sm_fill_o M (V r) (S r) t (by decide), sm_fill_l M (V r) (S r) t (by decide)]) hD) dX1_store_103
  · have hl : lv_has ls 5 [(0, .ref m0), (1, .int (nI r)), (2, .int (nI t)), (3, .int 4), (4, .int (nI k))] := hl
    have hP : va_P D vwCl (sm_wM cZ m0 m1 m2 m3 m4 m5 m6 0 (sm_fb V) (sm_fb S) (sm_fill (sm_fo M) (bt (V r)) (8 * t) k) (sm_fill (sm_fl M) (bt (S r)) (8 * t) k) (sm_fw O) (sm_fw G)) H := hP
    have hD : va_D _ (sm_wM cZ m0 m1 m2 m3 m4 m5 m6 0 (sm_fb V) (sm_fb S) (sm_fill (sm_fo M) (bt (V r)) (8 * t) k) (sm_fill (sm_fl M) (bt (S r)) (8 * t) k) (sm_fw O) (sm_fw G)) := hD
    refine lv_iload hx hb dX1_store_50 (lv_at hl 4 rfl) ?_
    refine lv_bipush (v := 8) hx hb dX1_store_52 (by decide) ?_
    refine lv_iload_n hx hb dX1_store_54 rfl (lv_at hl 3 rfl) ?_
    refine lv_imul hx hb dX1_store_55 ?_
    refine sm_eqi (y := 32) (by decide) ?_
    refine lv_icmp_ge (tgt := 103) hx hb dX1_store_56 rfl (fun z => absurd z (nI_ge (b := 32) hk (by decide))) (fun _ => ?_)
    refine lv_aload_n hx hb dX1_store_59 rfl (lv_at hl 0 rfl) ?_
    refine va_get (D := D) (ci := 1) (v := .ref m3) (C := RX1) (T := TX1) (N := 7) hx hb hts inX1 hown hK hP 0 rfl rfl 3 (by decide) (hw 235 rfl) (fun _ h9 => h9) rfl dX1_store_60 ?_
    refine lv_bipush (v := 8) hx hb dX1_store_63 (by decide) ?_
    refine lv_iload_n hx hb dX1_store_65 rfl (lv_at hl 2 rfl) ?_
    refine lv_imul hx hb dX1_store_66 ?_
    refine sm_eqi (y := nI (8 * t)) (pk_mul 8 t) ?_
    refine lv_iload hx hb dX1_store_67 (lv_at hl 4 rfl) ?_
    refine lv_iadd hx hb dX1_store_69 ?_
    refine sm_eqi (y := nI ((8 * t) + k)) (nI_add (8 * t) k) ?_
    refine lv_aload_n hx hb dX1_store_70 rfl (lv_at hl 0 rfl) ?_
    refine lv_iload_n hx hb dX1_store_71 rfl (lv_at hl 1 rfl) ?_
    refine lv_iload hx hb dX1_store_72 (lv_at hl 4 rfl) ?_
    refine sm_callV (C := RX1) (As := [.int (nI r), .int (nI k)]) (rest := [.int (nI ((8 * t) + k)), .ref m3]) (wr := []) (wn := (sm_wM cZ m0 m1 m2 m3 m4 m5 m6 0 (sm_fb V) (sm_fb S) (sm_fill (sm_fo M) (bt (V r)) (8 * t) k) (sm_fill (sm_fl M) (bt (S r)) (8 * t) k) (sm_fw O) (sm_fw G))) (st1 := [.int (sm_bI (bt (V r) k)), .int (nI ((8 * t) + k)), .ref m3]) ⟨hx, hb, hml, hown, hts⟩ (c_is l D cZ m0 m1 m2 m3 m4 m5 m6 0 (sm_fb S) (sm_fill (sm_fo M) (bt (V r)) (8 * t) k) (sm_fill (sm_fl M) (bt (S r)) (8 * t) k) (sm_fw O) (sm_fw G) V r k (by omega) (by omega)) (cwV 2 hts (sm_gV (i1 := 291) (i2 := 292) (i3 := 355) (i4 := 2) (i5 := 293) rfl rfl rfl rfl rfl) rfl rfl rfl (by decide +kernel) ⟨Nat.le_of_ble_eq_true rfl, Nat.le_of_ble_eq_true rfl⟩) hK [0] rfl hP hD hS hA 0 rfl rfl [0, 1, 2, 3, 4, 5, 6] [] rfl rfl (by decide) (by decide) (by decide) rfl hl.1 rfl (Nat.le_of_ble_eq_true rfl) dX1_store_74 ⟨Nat.le_of_ble_eq_true rfl, Nat.le_of_ble_eq_true rfl⟩ rfl rfl (fun H locs hP hD hS => ?_)
    refine sm_zast (f' := sm_fill (sm_fo M) (bt (V r)) (8 * t) (k + 1)) (ws' := (sm_wM cZ m0 m1 m2 m3 m4 m5 m6 0 (sm_fb V) (sm_fb S) (sm_fill (sm_fo M) (bt (V r)) (8 * t) (k + 1)) (sm_fill (sm_fl M) (bt (S r)) (8 * t) k) (sm_fw O) (sm_fw G))) hx hb hK hP hD hS 3 0 rfl rfl (vp_in_nI (n := (8 * t) + k) (by omega) (by decide)) dX1_store_77 (by rw [nI_clamp (by omega)]; exact sm_fillS (sm_fo M) (bt (V r)) (8 * t) k) rfl (fun H locs hP hD hS => ?_)
    refine lv_aload_n hx hb dX1_store_78 rfl (lv_at hl 0 rfl) ?_
    refine va_get (D := D) (ci := 1) (v := .ref m4) (C := RX1) (T := TX1) (N := 7) hx hb hts inX1 hown hK hP 0 rfl rfl 4 (by decide) (hw 236 rfl) (fun _ h9 => h9) rfl dX1_store_79 ?_
    refine lv_bipush (v := 8) hx hb dX1_store_82 (by decide) ?_
    refine lv_iload_n hx hb dX1_store_84 rfl (lv_at hl 2 rfl) ?_
    refine lv_imul hx hb dX1_store_85 ?_
    refine sm_eqi (y := nI (8 * t)) (pk_mul 8 t) ?_
    refine lv_iload hx hb dX1_store_86 (lv_at hl 4 rfl) ?_
    refine lv_iadd hx hb dX1_store_88 ?_
    refine sm_eqi (y := nI ((8 * t) + k)) (nI_add (8 * t) k) ?_
    refine lv_aload_n hx hb dX1_store_89 rfl (lv_at hl 0 rfl) ?_
    refine lv_iload_n hx hb dX1_store_90 rfl (lv_at hl 1 rfl) ?_
    refine lv_iload hx hb dX1_store_91 (lv_at hl 4 rfl) ?_
    refine sm_callV (C := RX1) (As := [.int (nI r), .int (nI k)]) (rest := [.int (nI ((8 * t) + k)), .ref m4]) (wr := []) (wn := (sm_wM cZ m0 m1 m2 m3 m4 m5 m6 0 (sm_fb V) (sm_fb S) (sm_fill (sm_fo M) (bt (V r)) (8 * t) (k + 1)) (sm_fill (sm_fl M) (bt (S r)) (8 * t) k) (sm_fw O) (sm_fw G))) (st1 := [.int (sm_bI (bt (S r) k)), .int (nI ((8 * t) + k)), .ref m4]) ⟨hx, hb, hml, hown, hts⟩ (c_un l D cZ m0 m1 m2 m3 m4 m5 m6 0 (sm_fb V) (sm_fill (sm_fo M) (bt (V r)) (8 * t) (k + 1)) (sm_fill (sm_fl M) (bt (S r)) (8 * t) k) (sm_fw O) (sm_fw G) S r k (by omega) (by omega)) (cwV 2 hts (sm_gV (i1 := 285) (i2 := 286) (i3 := 353) (i4 := 2) (i5 := 287) rfl rfl rfl rfl rfl) rfl rfl rfl (by decide +kernel) ⟨Nat.le_of_ble_eq_true rfl, Nat.le_of_ble_eq_true rfl⟩) hK [0] rfl hP hD hS hA 0 rfl rfl [0, 1, 2, 3, 4, 5, 6] [] rfl rfl (by decide) (by decide) (by decide) rfl hl.1 rfl (Nat.le_of_ble_eq_true rfl) dX1_store_93 ⟨Nat.le_of_ble_eq_true rfl, Nat.le_of_ble_eq_true rfl⟩ rfl rfl (fun H locs hP hD hS => ?_)
    refine sm_zast (f' := sm_fill (sm_fl M) (bt (S r)) (8 * t) (k + 1)) (ws' := (sm_wM cZ m0 m1 m2 m3 m4 m5 m6 0 (sm_fb V) (sm_fb S) (sm_fill (sm_fo M) (bt (V r)) (8 * t) (k + 1)) (sm_fill (sm_fl M) (bt (S r)) (8 * t) (k + 1)) (sm_fw O) (sm_fw G))) hx hb hK hP hD hS 4 0 rfl rfl (vp_in_nI (n := (8 * t) + k) (by omega) (by decide)) dX1_store_96 (by rw [nI_clamp (by omega)]; exact sm_fillS (sm_fl M) (bt (S r)) (8 * t) k) rfl (fun H locs hP hD hS => ?_)
    refine lv_iinc (k := 4) (v := nI (k + 1)) (lv' := [(4, .int (nI (k + 1))), (0, .ref m0), (1, .int (nI r)), (2, .int (nI t)), (3, .int 4)]) hx hb dX1_store_97 hl rfl (sm_inc k) (by decide) rfl (fun ls hl => ?_)
    refine lv_goto (tgt := 50) hx hb dX1_store_100 rfl ?_
    exact ih _ _ _ (lv_sub hl [1, 2, 3, 4, 0] rfl) (sm_cP (rfl) hP) (sm_cD (rfl) hD) hS
set_option maxHeartbeats 4000000 in
set_option maxRecDepth 100000 in
theorem c_mload_1_t (l : Launch) (D : va_G) (cZ : ClassId) (m0 m1 m2 m3 m4 m5 m6 : Nat) (err : Int32) (V S M : Nat → Int32) (O G : Int32) (r t : Nat) (hr : r < 16) (ht : t + 1 ≤ 256) (hM : ∀ a, M a = M a &&& 65535) : sm_C l yX1_load wsX1_load ({ frames := 5, cells := 0, slots := 0, locals := 140 } : Room) D vwCl [(cZ, .boolean)] [.ref m0, .int (nI r), .int (nI t), .int 1, .int (sm_bI true)] (sm_wM cZ m0 m1 m2 m3 m4 m5 m6 err (sm_fb V) (sm_fb S) (sm_fo M) (sm_fl M) (sm_fw O) (sm_fw G)) none (sm_wM cZ m0 m1 m2 m3 m4 m5 m6 0 (sm_fb (upd V r (((sm_lv (fun j => M (t + j) &&& 255) 1) <<< (nI 24 &&& 31)) >>> (nI 24 &&& 31)))) (sm_fb (upd S r (((sm_lv (fun j => sm_ushr (M (t + j)) 8) 1) <<< (nI 24 &&& 31)) >>> (nI 24 &&& 31)))) (sm_fo M) (sm_fl M) (sm_fw (((sm_lv (fun j => M (t + j) &&& 255) 1) <<< (nI 24 &&& 31)) >>> (nI 24 &&& 31))) (sm_fw (((sm_lv (fun j => sm_ushr (M (t + j)) 8) 1) <<< (nI 24 &&& 31)) >>> (nI 24 &&& 31)))) := by
  refine sm_start (cc := cX1_load) (maxL := 8) (ret := none) (lv := [(0, .ref m0), (1, .int (nI r)), (2, .int (nI t)), (3, .int 1), (4, .int (sm_bI true))]) (by decide) rfl (Nat.le_of_ble_eq_true rfl) rfl ?_
  intro p e s m below meth c hx hb hrt hts hown hlocks hml hin hK hP hD hS hA ls hl
  have hw := sm_hw hts
  refine lv_aload_n hx hb dX1_load_0 rfl (lv_at hl 0 rfl) ?_
  refine lv_iload_n hx hb dX1_load_1 rfl (lv_at hl 3 rfl) ?_
  refine sm_callS (As := [.int 1]) (rest := [.ref m0]) (wr := (sm_wM cZ m0 m1 m2 m3 m4 m5 m6 err (sm_fb V) (sm_fb S) (sm_fo M) (sm_fl M) (sm_fw O) (sm_fw G))) (wn := (sm_wM cZ m0 m1 m2 m3 m4 m5 m6 err (sm_fb V) (sm_fb S) (sm_fo M) (sm_fl M) (sm_fw O) (sm_fw G))) (st1 := [.int (sm_bI false), .ref m0]) ⟨hx, hb, hml, hown, hts⟩ (c_wrong_1 l D) (va_cwS 1 hts (sm_gS (i1 := 311) (i2 := 312) (i4 := 2) (i5 := 313) rfl rfl rfl rfl) rfl rfl rfl (by decide +kernel) ⟨Nat.le_of_ble_eq_true rfl, Nat.le_of_ble_eq_true rfl⟩) hK [] rfl hP hD hS hA [] [0, 1, 2, 3, 4, 5, 6] rfl rfl (by decide) (by decide) (by decide) rfl hl.1 rfl (Nat.le_of_ble_eq_true rfl) dX1_load_2 ⟨Nat.le_of_ble_eq_true rfl, Nat.le_of_ble_eq_true rfl⟩ rfl rfl (fun H locs hP hD hS => ?_)
  refine lv_iconst (v := 1) hx hb dX1_load_5 (by decide) ?_
  refine sm_callV (C := RX1) (As := [.int (sm_bI false), .int 1]) (rest := []) (wr := []) (wn := (sm_wM cZ m0 m1 m2 m3 m4 m5 m6 0 (sm_fb V) (sm_fb S) (sm_fo M) (sm_fl M) (sm_fw O) (sm_fw G))) (st1 := [.int (sm_bI false)]) ⟨hx, hb, hml, hown, hts⟩ (c_fails_f l D cZ m0 m1 m2 m3 m4 m5 m6 err V S M O G 1) (cwV 2 hts (sm_gV (i1 := 266) (i2 := 267) (i3 := 348) (i4 := 2) (i5 := 268) rfl rfl rfl rfl rfl) rfl rfl rfl (by decide +kernel) ⟨Nat.le_of_ble_eq_true rfl, Nat.le_of_ble_eq_true rfl⟩) hK [0] rfl hP hD hS hA 0 rfl rfl [0, 1, 2, 3, 4, 5, 6] [] rfl rfl (by decide) (by decide) (by decide) rfl hl.1 rfl (Nat.le_of_ble_eq_true rfl) dX1_load_6 ⟨Nat.le_of_ble_eq_true rfl, Nat.le_of_ble_eq_true rfl⟩ rfl rfl (fun H locs hP hD hS => ?_)
  refine lv_if_eq (tgt := 13) hx hb dX1_load_9 rfl (fun _ => ?_) (fun z => absurd (by decide) z)
  refine lv_aload_n hx hb dX1_load_13 rfl (lv_at hl 0 rfl) ?_
  refine lv_iload_n hx hb dX1_load_14 rfl (lv_at hl 1 rfl) ?_
  refine sm_callS (As := [.int (nI r)]) (rest := [.ref m0]) (wr := (sm_wM cZ m0 m1 m2 m3 m4 m5 m6 0 (sm_fb V) (sm_fb S) (sm_fo M) (sm_fl M) (sm_fw O) (sm_fw G))) (wn := (sm_wM cZ m0 m1 m2 m3 m4 m5 m6 0 (sm_fb V) (sm_fb S) (sm_fo M) (sm_fl M) (sm_fw O) (sm_fw G))) (st1 := [.int (sm_bI false), .ref m0]) ⟨hx, hb, hml, hown, hts⟩ (c_none_f l D r (by omega)) (va_cwS 1 hts (sm_gS (i1 := 263) (i2 := 264) (i4 := 2) (i5 := 265) rfl rfl rfl rfl) rfl rfl rfl (by decide +kernel) ⟨Nat.le_of_ble_eq_true rfl, Nat.le_of_ble_eq_true rfl⟩) hK [] rfl hP hD hS hA [] [0, 1, 2, 3, 4, 5, 6] rfl rfl (by decide) (by decide) (by decide) rfl hl.1 rfl (Nat.le_of_ble_eq_true rfl) dX1_load_15 ⟨Nat.le_of_ble_eq_true rfl, Nat.le_of_ble_eq_true rfl⟩ rfl rfl (fun H locs hP hD hS => ?_)
  refine lv_if_ne (tgt := 34) hx hb dX1_load_18 rfl (fun z => absurd (by decide) z) (fun _ => ?_)
  refine lv_iload_n hx hb dX1_load_21 rfl (lv_at hl 2 rfl) ?_
  refine lv_if_lt (tgt := 34) hx hb dX1_load_22 rfl (fun z => absurd z (nI_pos (by omega))) (fun _ => ?_)
  refine lv_iload_n hx hb dX1_load_25 rfl (lv_at hl 2 rfl) ?_
  refine lv_sipush (v := 256) hx hb dX1_load_26 (by decide) ?_
  refine lv_iload_n hx hb dX1_load_29 rfl (lv_at hl 3 rfl) ?_
  refine lv_isub hx hb dX1_load_30 ?_
  refine sm_eqi (y := 255) (by decide) ?_
  refine lv_icmp_le (tgt := 38) hx hb dX1_load_31 rfl (fun _ => ?_) (fun z => absurd (nI_le (b := 255) (by omega) (by decide)) z)
  refine lv_iconst (v := 0) hx hb dX1_load_38 (by decide) ?_
  refine lv_iconst (v := 2) hx hb dX1_load_39 (by decide) ?_
  refine sm_callV (C := RX1) (As := [.int (sm_bI false), .int 2]) (rest := []) (wr := []) (wn := (sm_wM cZ m0 m1 m2 m3 m4 m5 m6 0 (sm_fb V) (sm_fb S) (sm_fo M) (sm_fl M) (sm_fw O) (sm_fw G))) (st1 := [.int (sm_bI false)]) ⟨hx, hb, hml, hown, hts⟩ (c_fails_f l D cZ m0 m1 m2 m3 m4 m5 m6 0 V S M O G 2) (cwV 2 hts (sm_gV (i1 := 266) (i2 := 267) (i3 := 348) (i4 := 2) (i5 := 268) rfl rfl rfl rfl rfl) rfl rfl rfl (by decide +kernel) ⟨Nat.le_of_ble_eq_true rfl, Nat.le_of_ble_eq_true rfl⟩) hK [0] rfl hP hD hS hA 0 rfl rfl [0, 1, 2, 3, 4, 5, 6] [] rfl rfl (by decide) (by decide) (by decide) rfl hl.1 rfl (Nat.le_of_ble_eq_true rfl) dX1_load_40 ⟨Nat.le_of_ble_eq_true rfl, Nat.le_of_ble_eq_true rfl⟩ rfl rfl (fun H locs hP hD hS => ?_)
  refine lv_if_eq (tgt := 47) hx hb dX1_load_43 rfl (fun _ => ?_) (fun z => absurd (by decide) z)
  refine lv_iconst (v := 0) hx hb dX1_load_47 (by decide) ?_
  refine lv_istore (lv' := [(5, .int 0), (0, .ref m0), (1, .int (nI r)), (2, .int (nI t)), (3, .int 1), (4, .int (sm_bI true))]) hx hb dX1_load_48 hl (by decide) rfl (fun ls hl => ?_)
  refine sm_loopW (nL := 8) (lv := fun k => [(0, .ref m0), (1, .int (nI r)), (2, .int (nI t)), (3, .int 1), (4, .int (sm_bI true)), (5, .int (nI k))]) (w := fun k => (sm_wM cZ m0 m1 m2 m3 m4 m5 m6 0 (sm_fb V) (sm_fb S) (sm_fo M) (sm_fl M) (sm_fill (sm_fw O) (fun i => if i < 8 then sm_ob M (8 * t + i) else sm_ob M (8 * t + 7)) 0 k) (sm_fill (sm_fw G) (fun i => if i < 8 then sm_ol M (8 * t + i) else sm_ol M (8 * t + 7)) 0 k))) 32 (fun H locs ls hl hP hD hS => ?_) (fun k hk ih H locs ls hl hP hD hS => ?_) (lv_sub hl [1, 2, 3, 4, 5, 0] rfl) (sm_cP (by simp only [sm_fill0]) hP) (sm_cD (by simp only [sm_fill0]) hD) hS
  · have hl : lv_has ls 8 [(0, .ref m0), (1, .int (nI r)), (2, .int (nI t)), (3, .int 1), (4, .int (sm_bI true)), (5, .int (nI 32))] := hl
    have hP : va_P D vwCl (sm_wM cZ m0 m1 m2 m3 m4 m5 m6 0 (sm_fb V) (sm_fb S) (sm_fo M) (sm_fl M) (sm_fill (sm_fw O) (fun i => if i < 8 then sm_ob M (8 * t + i) else sm_ob M (8 * t + 7)) 0 32) (sm_fill (sm_fw G) (fun i => if i < 8 then sm_ol M (8 * t + i) else sm_ol M (8 * t + 7)) 0 32)) H := hP
    have hD : va_D _ (sm_wM cZ m0 m1 m2 m3 m4 m5 m6 0 (sm_fb V) (sm_fb S) (sm_fo M) (sm_fl M) (sm_fill (sm_fw O) (fun i => if i < 8 then sm_ob M (8 * t + i) else sm_ob M (8 * t + 7)) 0 32) (sm_fill (sm_fw G) (fun i => if i < 8 then sm_ol M (8 * t + i) else sm_ol M (8 * t + 7)) 0 32)) := hD
    refine lv_iload hx hb dX1_load_50 (lv_at hl 5 rfl) ?_
    refine lv_bipush (v := 32) hx hb dX1_load_52 (by decide) ?_
    refine lv_icmp_ge (tgt := 170) hx hb dX1_load_54 rfl (fun _ => ?_) (fun z => absurd (by decide) z)
    have hP : va_P D vwCl (sm_wM cZ m0 m1 m2 m3 m4 m5 m6 0 (sm_fb V) (sm_fb S) (sm_fo M) (sm_fl M) (sm_fw (((sm_lv (fun j => M (t + j) &&& 255) 1) <<< (nI 24 &&& 31)) >>> (nI 24 &&& 31))) (sm_fw (((sm_lv (fun j => sm_ushr (M (t + j)) 8) 1) <<< (nI 24 &&& 31)) >>> (nI 24 &&& 31)))) H := sm_cP (by rw [sm_fill_w, sm_fill_w, sm_mkx (x := ((sm_lv (fun j => M (t + j) &&& 255) 1) <<< (nI 24 &&& 31)) >>> (nI 24 &&& 31)) (sm_ldOs M t 1 (by decide) (by decide)), sm_mkx (x := ((sm_lv (fun j => sm_ushr (M (t + j)) 8) 1) <<< (nI 24 &&& 31)) >>> (nI 24 &&& 31)) (sm_ldGs M hM t 1 (by decide) (by decide))]) hP
    have hD : va_D _ (sm_wM cZ m0 m1 m2 m3 m4 m5 m6 0 (sm_fb V) (sm_fb S) (sm_fo M) (sm_fl M) (sm_fw (((sm_lv (fun j => M (t + j) &&& 255) 1) <<< (nI 24 &&& 31)) >>> (nI 24 &&& 31))) (sm_fw (((sm_lv (fun j => sm_ushr (M (t + j)) 8) 1) <<< (nI 24 &&& 31)) >>> (nI 24 &&& 31)))) := sm_cD (by rw [sm_fill_w, sm_fill_w, sm_mkx (x := ((sm_lv (fun j => M (t + j) &&& 255) 1) <<< (nI 24 &&& 31)) >>> (nI 24 &&& 31)) (sm_ldOs M t 1 (by decide) (by decide)), sm_mkx (x := ((sm_lv (fun j => sm_ushr (M (t + j)) 8) 1) <<< (nI 24 &&& 31)) >>> (nI 24 &&& 31)) (sm_ldGs M hM t 1 (by decide) (by decide))]) hD
    refine lv_aload_n hx hb dX1_load_170 rfl (lv_at hl 0 rfl) ?_
    refine lv_iload_n hx hb dX1_load_171 rfl (lv_at hl 1 rfl) ?_
    refine sm_callV (C := RX1) (As := [.int (nI r)]) (rest := []) (wr := []) (wn := (sm_wM cZ m0 m1 m2 m3 m4 m5 m6 0 (sm_fb (upd V r (((sm_lv (fun j => M (t + j) &&& 255) 1) <<< (nI 24 &&& 31)) >>> (nI 24 &&& 31)))) (sm_fb (upd S r (((sm_lv (fun j => sm_ushr (M (t + j)) 8) 1) <<< (nI 24 &&& 31)) >>> (nI 24 &&& 31)))) (sm_fo M) (sm_fl M) (sm_fw (((sm_lv (fun j => M (t + j) &&& 255) 1) <<< (nI 24 &&& 31)) >>> (nI 24 &&& 31))) (sm_fw (((sm_lv (fun j => sm_ushr (M (t + j)) 8) 1) <<< (nI 24 &&& 31)) >>> (nI 24 &&& 31))))) (st1 := []) ⟨hx, hb, hml, hown, hts⟩ (c_give l D cZ m0 m1 m2 m3 m4 m5 m6 0 V S M (((sm_lv (fun j => M (t + j) &&& 255) 1) <<< (nI 24 &&& 31)) >>> (nI 24 &&& 31)) (((sm_lv (fun j => sm_ushr (M (t + j)) 8) 1) <<< (nI 24 &&& 31)) >>> (nI 24 &&& 31)) r (by omega)) (cwV 1 hts (sm_gV (i1 := 272) (i2 := 273) (i3 := 350) (i4 := 2) (i5 := 274) rfl rfl rfl rfl rfl) rfl rfl rfl (by decide +kernel) ⟨Nat.le_of_ble_eq_true rfl, Nat.le_of_ble_eq_true rfl⟩) hK [0] rfl hP hD hS hA 0 rfl rfl [0, 1, 2, 3, 4, 5, 6] [] rfl rfl (by decide) (by decide) (by decide) rfl hl.1 rfl (Nat.le_of_ble_eq_true rfl) dX1_load_172 ⟨Nat.le_of_ble_eq_true rfl, Nat.le_of_ble_eq_true rfl⟩ rfl rfl (fun H locs hP hD hS => ?_)
    exact sm_vret hx hb hrt hlocks hS hP hD dX1_load_175
  · have hl : lv_has ls 8 [(0, .ref m0), (1, .int (nI r)), (2, .int (nI t)), (3, .int 1), (4, .int (sm_bI true)), (5, .int (nI k))] := hl
    have hP : va_P D vwCl (sm_wM cZ m0 m1 m2 m3 m4 m5 m6 0 (sm_fb V) (sm_fb S) (sm_fo M) (sm_fl M) (sm_fill (sm_fw O) (fun i => if i < 8 then sm_ob M (8 * t + i) else sm_ob M (8 * t + 7)) 0 k) (sm_fill (sm_fw G) (fun i => if i < 8 then sm_ol M (8 * t + i) else sm_ol M (8 * t + 7)) 0 k)) H := hP
    have hD : va_D _ (sm_wM cZ m0 m1 m2 m3 m4 m5 m6 0 (sm_fb V) (sm_fb S) (sm_fo M) (sm_fl M) (sm_fill (sm_fw O) (fun i => if i < 8 then sm_ob M (8 * t + i) else sm_ob M (8 * t + 7)) 0 k) (sm_fill (sm_fw G) (fun i => if i < 8 then sm_ol M (8 * t + i) else sm_ol M (8 * t + 7)) 0 k)) := hD
    refine lv_iload hx hb dX1_load_50 (lv_at hl 5 rfl) ?_
    refine lv_bipush (v := 32) hx hb dX1_load_52 (by decide) ?_
    refine lv_icmp_ge (tgt := 170) hx hb dX1_load_54 rfl (fun z => absurd z (nI_ge (b := 32) hk (by decide))) (fun _ => ?_)
    rcases Nat.lt_or_ge k 8 with hkn | hkn
    · refine lv_iload hx hb dX1_load_57 (lv_at hl 5 rfl) ?_
      refine lv_bipush (v := 8) hx hb dX1_load_59 (by decide) ?_
      refine lv_iload_n hx hb dX1_load_61 rfl (lv_at hl 3 rfl) ?_
      refine lv_imul hx hb dX1_load_62 ?_
      refine sm_eqi (y := 8) (by decide) ?_
      refine lv_icmp_ge (tgt := 71) hx hb dX1_load_63 rfl (fun z => absurd z (nI_ge (b := 8) hkn (by decide))) (fun _ => ?_)
      refine lv_iload hx hb dX1_load_66 (lv_at hl 5 rfl) ?_
      refine lv_goto (tgt := 77) hx hb dX1_load_68 rfl ?_
      refine lv_istore (lv' := [(6, .int (nI k)), (0, .ref m0), (1, .int (nI r)), (2, .int (nI t)), (3, .int 1), (4, .int (sm_bI true)), (5, .int (nI k))]) hx hb dX1_load_77 hl (by decide) rfl (fun ls hl => ?_)
      refine lv_iload hx hb dX1_load_79 (lv_at hl 6 rfl) ?_
      refine lv_bipush (v := 8) hx hb dX1_load_81 (by decide) ?_
      refine lv_iload_n hx hb dX1_load_83 rfl (lv_at hl 4 rfl) ?_
      refine lv_imul hx hb dX1_load_84 ?_
      refine sm_eqi (y := 8) (by decide) ?_
      refine lv_icmp_lt (tgt := 93) hx hb dX1_load_85 rfl (fun _ => ?_) (fun z => absurd (nI_lt (b := 8) hkn (by decide)) z)
      refine lv_iconst (v := 1) hx hb dX1_load_93 (by decide) ?_
      refine lv_goto (tgt := 98) hx hb dX1_load_94 rfl ?_
      refine lv_istore (lv' := [(7, .int 1), (6, .int (nI k)), (0, .ref m0), (1, .int (nI r)), (2, .int (nI t)), (3, .int 1), (4, .int (sm_bI true)), (5, .int (nI k))]) hx hb dX1_load_98 hl (by decide) rfl (fun ls hl => ?_)
      refine lv_aload_n hx hb dX1_load_100 rfl (lv_at hl 2 rfl) ?_
      refine va_get (D := D) (ci := 1) (v := .ref m5) (C := RX1) (T := TX1) (N := 7) hx hb hts inX1 hown hK hP 0 rfl rfl 5 (by decide) (hw 237 rfl) (fun _ h9 => h9) rfl dX1_load_101 ?_
      refine lv_iload hx hb dX1_load_104 (lv_at hl 7 rfl) ?_
      refine lv_iload hx hb dX1_load_106 (lv_at hl 0 rfl) ?_
      refine lv_if_eq (tgt := 130) hx hb dX1_load_108 rfl (fun z => absurd z (by decide)) (fun _ => ?_)
      refine lv_aload_n hx hb dX1_load_111 rfl (lv_at hl 2 rfl) ?_
      refine va_get (D := D) (ci := 1) (v := .ref m3) (C := RX1) (T := TX1) (N := 7) hx hb hts inX1 hown hK hP 0 rfl rfl 3 (by decide) (hw 235 rfl) (fun _ h9 => h9) rfl dX1_load_112 ?_
      refine lv_bipush (v := 8) hx hb dX1_load_115 (by decide) ?_
      refine lv_iload_n hx hb dX1_load_117 rfl (lv_at hl 4 rfl) ?_
      refine lv_imul hx hb dX1_load_118 ?_
      refine sm_eqi (y := nI (8 * t)) (pk_mul 8 t) ?_
      refine lv_iload hx hb dX1_load_119 (lv_at hl 1 rfl) ?_
      refine lv_iadd hx hb dX1_load_121 ?_
      refine sm_eqi (y := nI ((8 * t) + k)) (nI_add (8 * t) k) ?_
      refine va_zald hx hb hK hP 3 0 rfl rfl (vp_in_nI (n := (8 * t) + k) (by omega) (by decide)) dX1_load_122 ?_
      refine sm_eqi (y := sm_bI (sm_ob M (8 * t + k))) ((sm_cl _ (n := 8 * t + k) (by omega)).trans rfl) ?_
      refine sm_ifb_eq (tgt := 130) hx hb dX1_load_123 rfl (fun h123 => ?_) (fun h123 => ?_)
      · refine lv_iconst (v := 0) hx hb dX1_load_130 (by decide) ?_
        refine sm_eqi (y := sm_bI (if k < 8 then sm_ob M (8 * t + k) else sm_ob M (8 * t + 7))) (by rw [if_pos hkn]; simp [sm_bI, h123]) ?_
        refine sm_zast (f' := sm_fill (sm_fw O) (fun i => if i < 8 then sm_ob M (8 * t + i) else sm_ob M (8 * t + 7)) 0 (k + 1)) (ws' := (sm_wM cZ m0 m1 m2 m3 m4 m5 m6 0 (sm_fb V) (sm_fb S) (sm_fo M) (sm_fl M) (sm_fill (sm_fw O) (fun i => if i < 8 then sm_ob M (8 * t + i) else sm_ob M (8 * t + 7)) 0 (k + 1)) (sm_fill (sm_fw G) (fun i => if i < 8 then sm_ol M (8 * t + i) else sm_ol M (8 * t + 7)) 0 k))) hx hb hK hP hD hS 5 0 rfl rfl (vp_in_nI (n := k) (by omega) (by decide)) dX1_load_131 (by rw [nI_clamp (by omega)]; exact sm_fillS0 (sm_fw O) (fun i => if i < 8 then sm_ob M (8 * t + i) else sm_ob M (8 * t + 7)) k) rfl (fun H locs hP hD hS => ?_)
        refine lv_aload_n hx hb dX1_load_132 rfl (lv_at hl 2 rfl) ?_
        refine va_get (D := D) (ci := 1) (v := .ref m6) (C := RX1) (T := TX1) (N := 7) hx hb hts inX1 hown hK hP 0 rfl rfl 6 (by decide) (hw 238 rfl) (fun _ h9 => h9) rfl dX1_load_133 ?_
        refine lv_iload hx hb dX1_load_136 (lv_at hl 7 rfl) ?_
        refine lv_iload hx hb dX1_load_138 (lv_at hl 0 rfl) ?_
        refine lv_if_eq (tgt := 162) hx hb dX1_load_140 rfl (fun z => absurd z (by decide)) (fun _ => ?_)
        refine lv_aload_n hx hb dX1_load_143 rfl (lv_at hl 2 rfl) ?_
        refine va_get (D := D) (ci := 1) (v := .ref m4) (C := RX1) (T := TX1) (N := 7) hx hb hts inX1 hown hK hP 0 rfl rfl 4 (by decide) (hw 236 rfl) (fun _ h9 => h9) rfl dX1_load_144 ?_
        refine lv_bipush (v := 8) hx hb dX1_load_147 (by decide) ?_
        refine lv_iload_n hx hb dX1_load_149 rfl (lv_at hl 4 rfl) ?_
        refine lv_imul hx hb dX1_load_150 ?_
        refine sm_eqi (y := nI (8 * t)) (pk_mul 8 t) ?_
        refine lv_iload hx hb dX1_load_151 (lv_at hl 1 rfl) ?_
        refine lv_iadd hx hb dX1_load_153 ?_
        refine sm_eqi (y := nI ((8 * t) + k)) (nI_add (8 * t) k) ?_
        refine va_zald hx hb hK hP 4 0 rfl rfl (vp_in_nI (n := (8 * t) + k) (by omega) (by decide)) dX1_load_154 ?_
        refine sm_eqi (y := sm_bI (sm_ol M (8 * t + k))) ((sm_cl _ (n := 8 * t + k) (by omega)).trans rfl) ?_
        refine sm_ifb_eq (tgt := 162) hx hb dX1_load_155 rfl (fun h155 => ?_) (fun h155 => ?_)
        · refine lv_iconst (v := 0) hx hb dX1_load_162 (by decide) ?_
          refine sm_eqi (y := sm_bI (if k < 8 then sm_ol M (8 * t + k) else sm_ol M (8 * t + 7))) (by rw [if_pos hkn]; simp [sm_bI, h123, h155]) ?_
          refine sm_zast (f' := sm_fill (sm_fw G) (fun i => if i < 8 then sm_ol M (8 * t + i) else sm_ol M (8 * t + 7)) 0 (k + 1)) (ws' := (sm_wM cZ m0 m1 m2 m3 m4 m5 m6 0 (sm_fb V) (sm_fb S) (sm_fo M) (sm_fl M) (sm_fill (sm_fw O) (fun i => if i < 8 then sm_ob M (8 * t + i) else sm_ob M (8 * t + 7)) 0 (k + 1)) (sm_fill (sm_fw G) (fun i => if i < 8 then sm_ol M (8 * t + i) else sm_ol M (8 * t + 7)) 0 (k + 1)))) hx hb hK hP hD hS 6 0 rfl rfl (vp_in_nI (n := k) (by omega) (by decide)) dX1_load_163 (by rw [nI_clamp (by omega)]; exact sm_fillS0 (sm_fw G) (fun i => if i < 8 then sm_ol M (8 * t + i) else sm_ol M (8 * t + 7)) k) rfl (fun H locs hP hD hS => ?_)
          refine lv_iinc (k := 7) (v := nI (k + 1)) (lv' := [(5, .int (nI (k + 1))), (7, .int 1), (6, .int (nI k)), (0, .ref m0), (1, .int (nI r)), (2, .int (nI t)), (3, .int 1), (4, .int (sm_bI true))]) hx hb dX1_load_164 hl rfl (sm_inc k) (by decide) rfl (fun ls hl => ?_)
          refine lv_goto (tgt := 50) hx hb dX1_load_167 rfl ?_
          exact ih _ _ _ (lv_sub hl [3, 4, 5, 6, 7, 0] rfl) (sm_cP (rfl) hP) (sm_cD (rfl) hD) hS
        · refine lv_iconst (v := 1) hx hb dX1_load_158 (by decide) ?_
          refine lv_goto (tgt := 163) hx hb dX1_load_159 rfl ?_
          refine sm_eqi (y := sm_bI (if k < 8 then sm_ol M (8 * t + k) else sm_ol M (8 * t + 7))) (by rw [if_pos hkn]; simp [sm_bI, h123, h155]) ?_
          refine sm_zast (f' := sm_fill (sm_fw G) (fun i => if i < 8 then sm_ol M (8 * t + i) else sm_ol M (8 * t + 7)) 0 (k + 1)) (ws' := (sm_wM cZ m0 m1 m2 m3 m4 m5 m6 0 (sm_fb V) (sm_fb S) (sm_fo M) (sm_fl M) (sm_fill (sm_fw O) (fun i => if i < 8 then sm_ob M (8 * t + i) else sm_ob M (8 * t + 7)) 0 (k + 1)) (sm_fill (sm_fw G) (fun i => if i < 8 then sm_ol M (8 * t + i) else sm_ol M (8 * t + 7)) 0 (k + 1)))) hx hb hK hP hD hS 6 0 rfl rfl (vp_in_nI (n := k) (by omega) (by decide)) dX1_load_163 (by rw [nI_clamp (by omega)]; exact sm_fillS0 (sm_fw G) (fun i => if i < 8 then sm_ol M (8 * t + i) else sm_ol M (8 * t + 7)) k) rfl (fun H locs hP hD hS => ?_)
          refine lv_iinc (k := 7) (v := nI (k + 1)) (lv' := [(5, .int (nI (k + 1))), (7, .int 1), (6, .int (nI k)), (0, .ref m0), (1, .int (nI r)), (2, .int (nI t)), (3, .int 1), (4, .int (sm_bI true))]) hx hb dX1_load_164 hl rfl (sm_inc k) (by decide) rfl (fun ls hl => ?_)
          refine lv_goto (tgt := 50) hx hb dX1_load_167 rfl ?_
          exact ih _ _ _ (lv_sub hl [3, 4, 5, 6, 7, 0] rfl) (sm_cP (rfl) hP) (sm_cD (rfl) hD) hS
      · refine lv_iconst (v := 1) hx hb dX1_load_126 (by decide) ?_
        refine lv_goto (tgt := 131) hx hb dX1_load_127 rfl ?_
        refine sm_eqi (y := sm_bI (if k < 8 then sm_ob M (8 * t + k) else sm_ob M (8 * t + 7))) (by rw [if_pos hkn]; simp [sm_bI, h123]) ?_
        refine sm_zast (f' := sm_fill (sm_fw O) (fun i => if i < 8 then sm_ob M (8 * t + i) else sm_ob M (8 * t + 7)) 0 (k + 1)) (ws' := (sm_wM cZ m0 m1 m2 m3 m4 m5 m6 0 (sm_fb V) (sm_fb S) (sm_fo M) (sm_fl M) (sm_fill (sm_fw O) (fun i => if i < 8 then sm_ob M (8 * t + i) else sm_ob M (8 * t + 7)) 0 (k + 1)) (sm_fill (sm_fw G) (fun i => if i < 8 then sm_ol M (8 * t + i) else sm_ol M (8 * t + 7)) 0 k))) hx hb hK hP hD hS 5 0 rfl rfl (vp_in_nI (n := k) (by omega) (by decide)) dX1_load_131 (by rw [nI_clamp (by omega)]; exact sm_fillS0 (sm_fw O) (fun i => if i < 8 then sm_ob M (8 * t + i) else sm_ob M (8 * t + 7)) k) rfl (fun H locs hP hD hS => ?_)
        refine lv_aload_n hx hb dX1_load_132 rfl (lv_at hl 2 rfl) ?_
        refine va_get (D := D) (ci := 1) (v := .ref m6) (C := RX1) (T := TX1) (N := 7) hx hb hts inX1 hown hK hP 0 rfl rfl 6 (by decide) (hw 238 rfl) (fun _ h9 => h9) rfl dX1_load_133 ?_
        refine lv_iload hx hb dX1_load_136 (lv_at hl 7 rfl) ?_
        refine lv_iload hx hb dX1_load_138 (lv_at hl 0 rfl) ?_
        refine lv_if_eq (tgt := 162) hx hb dX1_load_140 rfl (fun z => absurd z (by decide)) (fun _ => ?_)
        refine lv_aload_n hx hb dX1_load_143 rfl (lv_at hl 2 rfl) ?_
        refine va_get (D := D) (ci := 1) (v := .ref m4) (C := RX1) (T := TX1) (N := 7) hx hb hts inX1 hown hK hP 0 rfl rfl 4 (by decide) (hw 236 rfl) (fun _ h9 => h9) rfl dX1_load_144 ?_
        refine lv_bipush (v := 8) hx hb dX1_load_147 (by decide) ?_
        refine lv_iload_n hx hb dX1_load_149 rfl (lv_at hl 4 rfl) ?_
        refine lv_imul hx hb dX1_load_150 ?_
        refine sm_eqi (y := nI (8 * t)) (pk_mul 8 t) ?_
        refine lv_iload hx hb dX1_load_151 (lv_at hl 1 rfl) ?_
        refine lv_iadd hx hb dX1_load_153 ?_
        refine sm_eqi (y := nI ((8 * t) + k)) (nI_add (8 * t) k) ?_
        refine va_zald hx hb hK hP 4 0 rfl rfl (vp_in_nI (n := (8 * t) + k) (by omega) (by decide)) dX1_load_154 ?_
        refine sm_eqi (y := sm_bI (sm_ol M (8 * t + k))) ((sm_cl _ (n := 8 * t + k) (by omega)).trans rfl) ?_
        refine sm_ifb_eq (tgt := 162) hx hb dX1_load_155 rfl (fun h155 => ?_) (fun h155 => ?_)
        · refine lv_iconst (v := 0) hx hb dX1_load_162 (by decide) ?_
          refine sm_eqi (y := sm_bI (if k < 8 then sm_ol M (8 * t + k) else sm_ol M (8 * t + 7))) (by rw [if_pos hkn]; simp [sm_bI, h123, h155]) ?_
          refine sm_zast (f' := sm_fill (sm_fw G) (fun i => if i < 8 then sm_ol M (8 * t + i) else sm_ol M (8 * t + 7)) 0 (k + 1)) (ws' := (sm_wM cZ m0 m1 m2 m3 m4 m5 m6 0 (sm_fb V) (sm_fb S) (sm_fo M) (sm_fl M) (sm_fill (sm_fw O) (fun i => if i < 8 then sm_ob M (8 * t + i) else sm_ob M (8 * t + 7)) 0 (k + 1)) (sm_fill (sm_fw G) (fun i => if i < 8 then sm_ol M (8 * t + i) else sm_ol M (8 * t + 7)) 0 (k + 1)))) hx hb hK hP hD hS 6 0 rfl rfl (vp_in_nI (n := k) (by omega) (by decide)) dX1_load_163 (by rw [nI_clamp (by omega)]; exact sm_fillS0 (sm_fw G) (fun i => if i < 8 then sm_ol M (8 * t + i) else sm_ol M (8 * t + 7)) k) rfl (fun H locs hP hD hS => ?_)
          refine lv_iinc (k := 7) (v := nI (k + 1)) (lv' := [(5, .int (nI (k + 1))), (7, .int 1), (6, .int (nI k)), (0, .ref m0), (1, .int (nI r)), (2, .int (nI t)), (3, .int 1), (4, .int (sm_bI true))]) hx hb dX1_load_164 hl rfl (sm_inc k) (by decide) rfl (fun ls hl => ?_)
          refine lv_goto (tgt := 50) hx hb dX1_load_167 rfl ?_
          exact ih _ _ _ (lv_sub hl [3, 4, 5, 6, 7, 0] rfl) (sm_cP (rfl) hP) (sm_cD (rfl) hD) hS
        · refine lv_iconst (v := 1) hx hb dX1_load_158 (by decide) ?_
          refine lv_goto (tgt := 163) hx hb dX1_load_159 rfl ?_
          refine sm_eqi (y := sm_bI (if k < 8 then sm_ol M (8 * t + k) else sm_ol M (8 * t + 7))) (by rw [if_pos hkn]; simp [sm_bI, h123, h155]) ?_
          refine sm_zast (f' := sm_fill (sm_fw G) (fun i => if i < 8 then sm_ol M (8 * t + i) else sm_ol M (8 * t + 7)) 0 (k + 1)) (ws' := (sm_wM cZ m0 m1 m2 m3 m4 m5 m6 0 (sm_fb V) (sm_fb S) (sm_fo M) (sm_fl M) (sm_fill (sm_fw O) (fun i => if i < 8 then sm_ob M (8 * t + i) else sm_ob M (8 * t + 7)) 0 (k + 1)) (sm_fill (sm_fw G) (fun i => if i < 8 then sm_ol M (8 * t + i) else sm_ol M (8 * t + 7)) 0 (k + 1)))) hx hb hK hP hD hS 6 0 rfl rfl (vp_in_nI (n := k) (by omega) (by decide)) dX1_load_163 (by rw [nI_clamp (by omega)]; exact sm_fillS0 (sm_fw G) (fun i => if i < 8 then sm_ol M (8 * t + i) else sm_ol M (8 * t + 7)) k) rfl (fun H locs hP hD hS => ?_)
          refine lv_iinc (k := 7) (v := nI (k + 1)) (lv' := [(5, .int (nI (k + 1))), (7, .int 1), (6, .int (nI k)), (0, .ref m0), (1, .int (nI r)), (2, .int (nI t)), (3, .int 1), (4, .int (sm_bI true))]) hx hb dX1_load_164 hl rfl (sm_inc k) (by decide) rfl (fun ls hl => ?_)
          refine lv_goto (tgt := 50) hx hb dX1_load_167 rfl ?_
          exact ih _ _ _ (lv_sub hl [3, 4, 5, 6, 7, 0] rfl) (sm_cP (rfl) hP) (sm_cD (rfl) hD) hS
    · refine lv_iload hx hb dX1_load_57 (lv_at hl 5 rfl) ?_
      refine lv_bipush (v := 8) hx hb dX1_load_59 (by decide) ?_
      refine lv_iload_n hx hb dX1_load_61 rfl (lv_at hl 3 rfl) ?_
      refine lv_imul hx hb dX1_load_62 ?_
      refine sm_eqi (y := 8) (by decide) ?_
      refine lv_icmp_ge (tgt := 71) hx hb dX1_load_63 rfl (fun _ => ?_) (fun z => absurd (nI_le (a := 8) hkn (by omega)) z)
      refine lv_bipush (v := 8) hx hb dX1_load_71 (by decide) ?_
      refine lv_iload_n hx hb dX1_load_73 rfl (lv_at hl 3 rfl) ?_
      refine lv_imul hx hb dX1_load_74 ?_
      refine sm_eqi (y := 8) (by decide) ?_
      refine lv_iconst (v := 1) hx hb dX1_load_75 (by decide) ?_
      refine lv_isub hx hb dX1_load_76 ?_
      refine sm_eqi (y := 7) (by decide) ?_
      refine lv_istore (lv' := [(6, .int 7), (0, .ref m0), (1, .int (nI r)), (2, .int (nI t)), (3, .int 1), (4, .int (sm_bI true)), (5, .int (nI k))]) hx hb dX1_load_77 hl (by decide) rfl (fun ls hl => ?_)
      refine lv_iload hx hb dX1_load_79 (lv_at hl 6 rfl) ?_
      refine lv_bipush (v := 8) hx hb dX1_load_81 (by decide) ?_
      refine lv_iload_n hx hb dX1_load_83 rfl (lv_at hl 4 rfl) ?_
      refine lv_imul hx hb dX1_load_84 ?_
      refine sm_eqi (y := 8) (by decide) ?_
      refine lv_icmp_lt (tgt := 93) hx hb dX1_load_85 rfl (fun z => absurd z (nI_nlt (b := 8) hkn (by omega))) (fun _ => ?_)
      refine lv_iload hx hb dX1_load_88 (lv_at hl 5 rfl) ?_
      refine lv_if_eq (tgt := 97) hx hb dX1_load_90 rfl (fun z => absurd z (by decide)) (fun _ => ?_)
      refine lv_iconst (v := 1) hx hb dX1_load_93 (by decide) ?_
      refine lv_goto (tgt := 98) hx hb dX1_load_94 rfl ?_
      refine lv_istore (lv' := [(7, .int 1), (6, .int 7), (0, .ref m0), (1, .int (nI r)), (2, .int (nI t)), (3, .int 1), (4, .int (sm_bI true)), (5, .int (nI k))]) hx hb dX1_load_98 hl (by decide) rfl (fun ls hl => ?_)
      refine lv_aload_n hx hb dX1_load_100 rfl (lv_at hl 2 rfl) ?_
      refine va_get (D := D) (ci := 1) (v := .ref m5) (C := RX1) (T := TX1) (N := 7) hx hb hts inX1 hown hK hP 0 rfl rfl 5 (by decide) (hw 237 rfl) (fun _ h9 => h9) rfl dX1_load_101 ?_
      refine lv_iload hx hb dX1_load_104 (lv_at hl 7 rfl) ?_
      refine lv_iload hx hb dX1_load_106 (lv_at hl 0 rfl) ?_
      refine lv_if_eq (tgt := 130) hx hb dX1_load_108 rfl (fun z => absurd z (by decide)) (fun _ => ?_)
      refine lv_aload_n hx hb dX1_load_111 rfl (lv_at hl 2 rfl) ?_
      refine va_get (D := D) (ci := 1) (v := .ref m3) (C := RX1) (T := TX1) (N := 7) hx hb hts inX1 hown hK hP 0 rfl rfl 3 (by decide) (hw 235 rfl) (fun _ h9 => h9) rfl dX1_load_112 ?_
      refine lv_bipush (v := 8) hx hb dX1_load_115 (by decide) ?_
      refine lv_iload_n hx hb dX1_load_117 rfl (lv_at hl 4 rfl) ?_
      refine lv_imul hx hb dX1_load_118 ?_
      refine sm_eqi (y := nI (8 * t)) (pk_mul 8 t) ?_
      refine lv_iload hx hb dX1_load_119 (lv_at hl 1 rfl) ?_
      refine lv_iadd hx hb dX1_load_121 ?_
      refine sm_eqi (y := nI ((8 * t) + 7)) (nI_add (8 * t) 7) ?_
      refine va_zald hx hb hK hP 3 0 rfl rfl (vp_in_nI (n := (8 * t) + 7) (by omega) (by decide)) dX1_load_122 ?_
      refine sm_eqi (y := sm_bI (sm_ob M (8 * t + 7))) ((sm_cl _ (n := 8 * t + 7) (by omega)).trans rfl) ?_
      refine sm_ifb_eq (tgt := 130) hx hb dX1_load_123 rfl (fun h123 => ?_) (fun h123 => ?_)
      · refine lv_iconst (v := 0) hx hb dX1_load_130 (by decide) ?_
        refine sm_eqi (y := sm_bI (if k < 8 then sm_ob M (8 * t + k) else sm_ob M (8 * t + 7))) (by rw [if_neg (Nat.not_lt.mpr hkn)]; simp [sm_bI, h123]) ?_
        refine sm_zast (f' := sm_fill (sm_fw O) (fun i => if i < 8 then sm_ob M (8 * t + i) else sm_ob M (8 * t + 7)) 0 (k + 1)) (ws' := (sm_wM cZ m0 m1 m2 m3 m4 m5 m6 0 (sm_fb V) (sm_fb S) (sm_fo M) (sm_fl M) (sm_fill (sm_fw O) (fun i => if i < 8 then sm_ob M (8 * t + i) else sm_ob M (8 * t + 7)) 0 (k + 1)) (sm_fill (sm_fw G) (fun i => if i < 8 then sm_ol M (8 * t + i) else sm_ol M (8 * t + 7)) 0 k))) hx hb hK hP hD hS 5 0 rfl rfl (vp_in_nI (n := k) (by omega) (by decide)) dX1_load_131 (by rw [nI_clamp (by omega)]; exact sm_fillS0 (sm_fw O) (fun i => if i < 8 then sm_ob M (8 * t + i) else sm_ob M (8 * t + 7)) k) rfl (fun H locs hP hD hS => ?_)
        refine lv_aload_n hx hb dX1_load_132 rfl (lv_at hl 2 rfl) ?_
        refine va_get (D := D) (ci := 1) (v := .ref m6) (C := RX1) (T := TX1) (N := 7) hx hb hts inX1 hown hK hP 0 rfl rfl 6 (by decide) (hw 238 rfl) (fun _ h9 => h9) rfl dX1_load_133 ?_
        refine lv_iload hx hb dX1_load_136 (lv_at hl 7 rfl) ?_
        refine lv_iload hx hb dX1_load_138 (lv_at hl 0 rfl) ?_
        refine lv_if_eq (tgt := 162) hx hb dX1_load_140 rfl (fun z => absurd z (by decide)) (fun _ => ?_)
        refine lv_aload_n hx hb dX1_load_143 rfl (lv_at hl 2 rfl) ?_
        refine va_get (D := D) (ci := 1) (v := .ref m4) (C := RX1) (T := TX1) (N := 7) hx hb hts inX1 hown hK hP 0 rfl rfl 4 (by decide) (hw 236 rfl) (fun _ h9 => h9) rfl dX1_load_144 ?_
        refine lv_bipush (v := 8) hx hb dX1_load_147 (by decide) ?_
        refine lv_iload_n hx hb dX1_load_149 rfl (lv_at hl 4 rfl) ?_
        refine lv_imul hx hb dX1_load_150 ?_
        refine sm_eqi (y := nI (8 * t)) (pk_mul 8 t) ?_
        refine lv_iload hx hb dX1_load_151 (lv_at hl 1 rfl) ?_
        refine lv_iadd hx hb dX1_load_153 ?_
        refine sm_eqi (y := nI ((8 * t) + 7)) (nI_add (8 * t) 7) ?_
        refine va_zald hx hb hK hP 4 0 rfl rfl (vp_in_nI (n := (8 * t) + 7) (by omega) (by decide)) dX1_load_154 ?_
        refine sm_eqi (y := sm_bI (sm_ol M (8 * t + 7))) ((sm_cl _ (n := 8 * t + 7) (by omega)).trans rfl) ?_
        refine sm_ifb_eq (tgt := 162) hx hb dX1_load_155 rfl (fun h155 => ?_) (fun h155 => ?_)
        · refine lv_iconst (v := 0) hx hb dX1_load_162 (by decide) ?_
          refine sm_eqi (y := sm_bI (if k < 8 then sm_ol M (8 * t + k) else sm_ol M (8 * t + 7))) (by rw [if_neg (Nat.not_lt.mpr hkn)]; simp [sm_bI, h123, h155]) ?_
          refine sm_zast (f' := sm_fill (sm_fw G) (fun i => if i < 8 then sm_ol M (8 * t + i) else sm_ol M (8 * t + 7)) 0 (k + 1)) (ws' := (sm_wM cZ m0 m1 m2 m3 m4 m5 m6 0 (sm_fb V) (sm_fb S) (sm_fo M) (sm_fl M) (sm_fill (sm_fw O) (fun i => if i < 8 then sm_ob M (8 * t + i) else sm_ob M (8 * t + 7)) 0 (k + 1)) (sm_fill (sm_fw G) (fun i => if i < 8 then sm_ol M (8 * t + i) else sm_ol M (8 * t + 7)) 0 (k + 1)))) hx hb hK hP hD hS 6 0 rfl rfl (vp_in_nI (n := k) (by omega) (by decide)) dX1_load_163 (by rw [nI_clamp (by omega)]; exact sm_fillS0 (sm_fw G) (fun i => if i < 8 then sm_ol M (8 * t + i) else sm_ol M (8 * t + 7)) k) rfl (fun H locs hP hD hS => ?_)
          refine lv_iinc (k := 7) (v := nI (k + 1)) (lv' := [(5, .int (nI (k + 1))), (7, .int 1), (6, .int 7), (0, .ref m0), (1, .int (nI r)), (2, .int (nI t)), (3, .int 1), (4, .int (sm_bI true))]) hx hb dX1_load_164 hl rfl (sm_inc k) (by decide) rfl (fun ls hl => ?_)
          refine lv_goto (tgt := 50) hx hb dX1_load_167 rfl ?_
          exact ih _ _ _ (lv_sub hl [3, 4, 5, 6, 7, 0] rfl) (sm_cP (rfl) hP) (sm_cD (rfl) hD) hS
        · refine lv_iconst (v := 1) hx hb dX1_load_158 (by decide) ?_
          refine lv_goto (tgt := 163) hx hb dX1_load_159 rfl ?_
          refine sm_eqi (y := sm_bI (if k < 8 then sm_ol M (8 * t + k) else sm_ol M (8 * t + 7))) (by rw [if_neg (Nat.not_lt.mpr hkn)]; simp [sm_bI, h123, h155]) ?_
          refine sm_zast (f' := sm_fill (sm_fw G) (fun i => if i < 8 then sm_ol M (8 * t + i) else sm_ol M (8 * t + 7)) 0 (k + 1)) (ws' := (sm_wM cZ m0 m1 m2 m3 m4 m5 m6 0 (sm_fb V) (sm_fb S) (sm_fo M) (sm_fl M) (sm_fill (sm_fw O) (fun i => if i < 8 then sm_ob M (8 * t + i) else sm_ob M (8 * t + 7)) 0 (k + 1)) (sm_fill (sm_fw G) (fun i => if i < 8 then sm_ol M (8 * t + i) else sm_ol M (8 * t + 7)) 0 (k + 1)))) hx hb hK hP hD hS 6 0 rfl rfl (vp_in_nI (n := k) (by omega) (by decide)) dX1_load_163 (by rw [nI_clamp (by omega)]; exact sm_fillS0 (sm_fw G) (fun i => if i < 8 then sm_ol M (8 * t + i) else sm_ol M (8 * t + 7)) k) rfl (fun H locs hP hD hS => ?_)
          refine lv_iinc (k := 7) (v := nI (k + 1)) (lv' := [(5, .int (nI (k + 1))), (7, .int 1), (6, .int 7), (0, .ref m0), (1, .int (nI r)), (2, .int (nI t)), (3, .int 1), (4, .int (sm_bI true))]) hx hb dX1_load_164 hl rfl (sm_inc k) (by decide) rfl (fun ls hl => ?_)
          refine lv_goto (tgt := 50) hx hb dX1_load_167 rfl ?_
          exact ih _ _ _ (lv_sub hl [3, 4, 5, 6, 7, 0] rfl) (sm_cP (rfl) hP) (sm_cD (rfl) hD) hS
      · refine lv_iconst (v := 1) hx hb dX1_load_126 (by decide) ?_
        refine lv_goto (tgt := 131) hx hb dX1_load_127 rfl ?_
        refine sm_eqi (y := sm_bI (if k < 8 then sm_ob M (8 * t + k) else sm_ob M (8 * t + 7))) (by rw [if_neg (Nat.not_lt.mpr hkn)]; simp [sm_bI, h123]) ?_
        refine sm_zast (f' := sm_fill (sm_fw O) (fun i => if i < 8 then sm_ob M (8 * t + i) else sm_ob M (8 * t + 7)) 0 (k + 1)) (ws' := (sm_wM cZ m0 m1 m2 m3 m4 m5 m6 0 (sm_fb V) (sm_fb S) (sm_fo M) (sm_fl M) (sm_fill (sm_fw O) (fun i => if i < 8 then sm_ob M (8 * t + i) else sm_ob M (8 * t + 7)) 0 (k + 1)) (sm_fill (sm_fw G) (fun i => if i < 8 then sm_ol M (8 * t + i) else sm_ol M (8 * t + 7)) 0 k))) hx hb hK hP hD hS 5 0 rfl rfl (vp_in_nI (n := k) (by omega) (by decide)) dX1_load_131 (by rw [nI_clamp (by omega)]; exact sm_fillS0 (sm_fw O) (fun i => if i < 8 then sm_ob M (8 * t + i) else sm_ob M (8 * t + 7)) k) rfl (fun H locs hP hD hS => ?_)
        refine lv_aload_n hx hb dX1_load_132 rfl (lv_at hl 2 rfl) ?_
        refine va_get (D := D) (ci := 1) (v := .ref m6) (C := RX1) (T := TX1) (N := 7) hx hb hts inX1 hown hK hP 0 rfl rfl 6 (by decide) (hw 238 rfl) (fun _ h9 => h9) rfl dX1_load_133 ?_
        refine lv_iload hx hb dX1_load_136 (lv_at hl 7 rfl) ?_
        refine lv_iload hx hb dX1_load_138 (lv_at hl 0 rfl) ?_
        refine lv_if_eq (tgt := 162) hx hb dX1_load_140 rfl (fun z => absurd z (by decide)) (fun _ => ?_)
        refine lv_aload_n hx hb dX1_load_143 rfl (lv_at hl 2 rfl) ?_
        refine va_get (D := D) (ci := 1) (v := .ref m4) (C := RX1) (T := TX1) (N := 7) hx hb hts inX1 hown hK hP 0 rfl rfl 4 (by decide) (hw 236 rfl) (fun _ h9 => h9) rfl dX1_load_144 ?_
        refine lv_bipush (v := 8) hx hb dX1_load_147 (by decide) ?_
        refine lv_iload_n hx hb dX1_load_149 rfl (lv_at hl 4 rfl) ?_
        refine lv_imul hx hb dX1_load_150 ?_
        refine sm_eqi (y := nI (8 * t)) (pk_mul 8 t) ?_
        refine lv_iload hx hb dX1_load_151 (lv_at hl 1 rfl) ?_
        refine lv_iadd hx hb dX1_load_153 ?_
        refine sm_eqi (y := nI ((8 * t) + 7)) (nI_add (8 * t) 7) ?_
        refine va_zald hx hb hK hP 4 0 rfl rfl (vp_in_nI (n := (8 * t) + 7) (by omega) (by decide)) dX1_load_154 ?_
        refine sm_eqi (y := sm_bI (sm_ol M (8 * t + 7))) ((sm_cl _ (n := 8 * t + 7) (by omega)).trans rfl) ?_
        refine sm_ifb_eq (tgt := 162) hx hb dX1_load_155 rfl (fun h155 => ?_) (fun h155 => ?_)
        · refine lv_iconst (v := 0) hx hb dX1_load_162 (by decide) ?_
          refine sm_eqi (y := sm_bI (if k < 8 then sm_ol M (8 * t + k) else sm_ol M (8 * t + 7))) (by rw [if_neg (Nat.not_lt.mpr hkn)]; simp [sm_bI, h123, h155]) ?_
          refine sm_zast (f' := sm_fill (sm_fw G) (fun i => if i < 8 then sm_ol M (8 * t + i) else sm_ol M (8 * t + 7)) 0 (k + 1)) (ws' := (sm_wM cZ m0 m1 m2 m3 m4 m5 m6 0 (sm_fb V) (sm_fb S) (sm_fo M) (sm_fl M) (sm_fill (sm_fw O) (fun i => if i < 8 then sm_ob M (8 * t + i) else sm_ob M (8 * t + 7)) 0 (k + 1)) (sm_fill (sm_fw G) (fun i => if i < 8 then sm_ol M (8 * t + i) else sm_ol M (8 * t + 7)) 0 (k + 1)))) hx hb hK hP hD hS 6 0 rfl rfl (vp_in_nI (n := k) (by omega) (by decide)) dX1_load_163 (by rw [nI_clamp (by omega)]; exact sm_fillS0 (sm_fw G) (fun i => if i < 8 then sm_ol M (8 * t + i) else sm_ol M (8 * t + 7)) k) rfl (fun H locs hP hD hS => ?_)
          refine lv_iinc (k := 7) (v := nI (k + 1)) (lv' := [(5, .int (nI (k + 1))), (7, .int 1), (6, .int 7), (0, .ref m0), (1, .int (nI r)), (2, .int (nI t)), (3, .int 1), (4, .int (sm_bI true))]) hx hb dX1_load_164 hl rfl (sm_inc k) (by decide) rfl (fun ls hl => ?_)
          refine lv_goto (tgt := 50) hx hb dX1_load_167 rfl ?_
          exact ih _ _ _ (lv_sub hl [3, 4, 5, 6, 7, 0] rfl) (sm_cP (rfl) hP) (sm_cD (rfl) hD) hS
        · refine lv_iconst (v := 1) hx hb dX1_load_158 (by decide) ?_
          refine lv_goto (tgt := 163) hx hb dX1_load_159 rfl ?_
          refine sm_eqi (y := sm_bI (if k < 8 then sm_ol M (8 * t + k) else sm_ol M (8 * t + 7))) (by rw [if_neg (Nat.not_lt.mpr hkn)]; simp [sm_bI, h123, h155]) ?_
          refine sm_zast (f' := sm_fill (sm_fw G) (fun i => if i < 8 then sm_ol M (8 * t + i) else sm_ol M (8 * t + 7)) 0 (k + 1)) (ws' := (sm_wM cZ m0 m1 m2 m3 m4 m5 m6 0 (sm_fb V) (sm_fb S) (sm_fo M) (sm_fl M) (sm_fill (sm_fw O) (fun i => if i < 8 then sm_ob M (8 * t + i) else sm_ob M (8 * t + 7)) 0 (k + 1)) (sm_fill (sm_fw G) (fun i => if i < 8 then sm_ol M (8 * t + i) else sm_ol M (8 * t + 7)) 0 (k + 1)))) hx hb hK hP hD hS 6 0 rfl rfl (vp_in_nI (n := k) (by omega) (by decide)) dX1_load_163 (by rw [nI_clamp (by omega)]; exact sm_fillS0 (sm_fw G) (fun i => if i < 8 then sm_ol M (8 * t + i) else sm_ol M (8 * t + 7)) k) rfl (fun H locs hP hD hS => ?_)
          refine lv_iinc (k := 7) (v := nI (k + 1)) (lv' := [(5, .int (nI (k + 1))), (7, .int 1), (6, .int 7), (0, .ref m0), (1, .int (nI r)), (2, .int (nI t)), (3, .int 1), (4, .int (sm_bI true))]) hx hb dX1_load_164 hl rfl (sm_inc k) (by decide) rfl (fun ls hl => ?_)
          refine lv_goto (tgt := 50) hx hb dX1_load_167 rfl ?_
          exact ih _ _ _ (lv_sub hl [3, 4, 5, 6, 7, 0] rfl) (sm_cP (rfl) hP) (sm_cD (rfl) hD) hS
set_option maxHeartbeats 4000000 in
set_option maxRecDepth 100000 in
theorem c_mload_1_f (l : Launch) (D : va_G) (cZ : ClassId) (m0 m1 m2 m3 m4 m5 m6 : Nat) (err : Int32) (V S M : Nat → Int32) (O G : Int32) (r t : Nat) (hr : r < 16) (ht : t + 1 ≤ 256) (hM : ∀ a, M a = M a &&& 65535) : sm_C l yX1_load wsX1_load ({ frames := 5, cells := 0, slots := 0, locals := 140 } : Room) D vwCl [(cZ, .boolean)] [.ref m0, .int (nI r), .int (nI t), .int 1, .int (sm_bI false)] (sm_wM cZ m0 m1 m2 m3 m4 m5 m6 err (sm_fb V) (sm_fb S) (sm_fo M) (sm_fl M) (sm_fw O) (sm_fw G)) none (sm_wM cZ m0 m1 m2 m3 m4 m5 m6 0 (sm_fb (upd V r (sm_ushr ((sm_lv (fun j => M (t + j) &&& 255) 1) <<< (nI 24 &&& 31)) (nI 24)))) (sm_fb (upd S r (sm_ushr ((sm_lv (fun j => sm_ushr (M (t + j)) 8) 1) <<< (nI 24 &&& 31)) (nI 24)))) (sm_fo M) (sm_fl M) (sm_fw (sm_ushr ((sm_lv (fun j => M (t + j) &&& 255) 1) <<< (nI 24 &&& 31)) (nI 24))) (sm_fw (sm_ushr ((sm_lv (fun j => sm_ushr (M (t + j)) 8) 1) <<< (nI 24 &&& 31)) (nI 24)))) := by
  refine sm_start (cc := cX1_load) (maxL := 8) (ret := none) (lv := [(0, .ref m0), (1, .int (nI r)), (2, .int (nI t)), (3, .int 1), (4, .int (sm_bI false))]) (by decide) rfl (Nat.le_of_ble_eq_true rfl) rfl ?_
  intro p e s m below meth c hx hb hrt hts hown hlocks hml hin hK hP hD hS hA ls hl
  have hw := sm_hw hts
  refine lv_aload_n hx hb dX1_load_0 rfl (lv_at hl 0 rfl) ?_
  refine lv_iload_n hx hb dX1_load_1 rfl (lv_at hl 3 rfl) ?_
  refine sm_callS (As := [.int 1]) (rest := [.ref m0]) (wr := (sm_wM cZ m0 m1 m2 m3 m4 m5 m6 err (sm_fb V) (sm_fb S) (sm_fo M) (sm_fl M) (sm_fw O) (sm_fw G))) (wn := (sm_wM cZ m0 m1 m2 m3 m4 m5 m6 err (sm_fb V) (sm_fb S) (sm_fo M) (sm_fl M) (sm_fw O) (sm_fw G))) (st1 := [.int (sm_bI false), .ref m0]) ⟨hx, hb, hml, hown, hts⟩ (c_wrong_1 l D) (va_cwS 1 hts (sm_gS (i1 := 311) (i2 := 312) (i4 := 2) (i5 := 313) rfl rfl rfl rfl) rfl rfl rfl (by decide +kernel) ⟨Nat.le_of_ble_eq_true rfl, Nat.le_of_ble_eq_true rfl⟩) hK [] rfl hP hD hS hA [] [0, 1, 2, 3, 4, 5, 6] rfl rfl (by decide) (by decide) (by decide) rfl hl.1 rfl (Nat.le_of_ble_eq_true rfl) dX1_load_2 ⟨Nat.le_of_ble_eq_true rfl, Nat.le_of_ble_eq_true rfl⟩ rfl rfl (fun H locs hP hD hS => ?_)
  refine lv_iconst (v := 1) hx hb dX1_load_5 (by decide) ?_
  refine sm_callV (C := RX1) (As := [.int (sm_bI false), .int 1]) (rest := []) (wr := []) (wn := (sm_wM cZ m0 m1 m2 m3 m4 m5 m6 0 (sm_fb V) (sm_fb S) (sm_fo M) (sm_fl M) (sm_fw O) (sm_fw G))) (st1 := [.int (sm_bI false)]) ⟨hx, hb, hml, hown, hts⟩ (c_fails_f l D cZ m0 m1 m2 m3 m4 m5 m6 err V S M O G 1) (cwV 2 hts (sm_gV (i1 := 266) (i2 := 267) (i3 := 348) (i4 := 2) (i5 := 268) rfl rfl rfl rfl rfl) rfl rfl rfl (by decide +kernel) ⟨Nat.le_of_ble_eq_true rfl, Nat.le_of_ble_eq_true rfl⟩) hK [0] rfl hP hD hS hA 0 rfl rfl [0, 1, 2, 3, 4, 5, 6] [] rfl rfl (by decide) (by decide) (by decide) rfl hl.1 rfl (Nat.le_of_ble_eq_true rfl) dX1_load_6 ⟨Nat.le_of_ble_eq_true rfl, Nat.le_of_ble_eq_true rfl⟩ rfl rfl (fun H locs hP hD hS => ?_)
  refine lv_if_eq (tgt := 13) hx hb dX1_load_9 rfl (fun _ => ?_) (fun z => absurd (by decide) z)
  refine lv_aload_n hx hb dX1_load_13 rfl (lv_at hl 0 rfl) ?_
  refine lv_iload_n hx hb dX1_load_14 rfl (lv_at hl 1 rfl) ?_
  refine sm_callS (As := [.int (nI r)]) (rest := [.ref m0]) (wr := (sm_wM cZ m0 m1 m2 m3 m4 m5 m6 0 (sm_fb V) (sm_fb S) (sm_fo M) (sm_fl M) (sm_fw O) (sm_fw G))) (wn := (sm_wM cZ m0 m1 m2 m3 m4 m5 m6 0 (sm_fb V) (sm_fb S) (sm_fo M) (sm_fl M) (sm_fw O) (sm_fw G))) (st1 := [.int (sm_bI false), .ref m0]) ⟨hx, hb, hml, hown, hts⟩ (c_none_f l D r (by omega)) (va_cwS 1 hts (sm_gS (i1 := 263) (i2 := 264) (i4 := 2) (i5 := 265) rfl rfl rfl rfl) rfl rfl rfl (by decide +kernel) ⟨Nat.le_of_ble_eq_true rfl, Nat.le_of_ble_eq_true rfl⟩) hK [] rfl hP hD hS hA [] [0, 1, 2, 3, 4, 5, 6] rfl rfl (by decide) (by decide) (by decide) rfl hl.1 rfl (Nat.le_of_ble_eq_true rfl) dX1_load_15 ⟨Nat.le_of_ble_eq_true rfl, Nat.le_of_ble_eq_true rfl⟩ rfl rfl (fun H locs hP hD hS => ?_)
  refine lv_if_ne (tgt := 34) hx hb dX1_load_18 rfl (fun z => absurd (by decide) z) (fun _ => ?_)
  refine lv_iload_n hx hb dX1_load_21 rfl (lv_at hl 2 rfl) ?_
  refine lv_if_lt (tgt := 34) hx hb dX1_load_22 rfl (fun z => absurd z (nI_pos (by omega))) (fun _ => ?_)
  refine lv_iload_n hx hb dX1_load_25 rfl (lv_at hl 2 rfl) ?_
  refine lv_sipush (v := 256) hx hb dX1_load_26 (by decide) ?_
  refine lv_iload_n hx hb dX1_load_29 rfl (lv_at hl 3 rfl) ?_
  refine lv_isub hx hb dX1_load_30 ?_
  refine sm_eqi (y := 255) (by decide) ?_
  refine lv_icmp_le (tgt := 38) hx hb dX1_load_31 rfl (fun _ => ?_) (fun z => absurd (nI_le (b := 255) (by omega) (by decide)) z)
  refine lv_iconst (v := 0) hx hb dX1_load_38 (by decide) ?_
  refine lv_iconst (v := 2) hx hb dX1_load_39 (by decide) ?_
  refine sm_callV (C := RX1) (As := [.int (sm_bI false), .int 2]) (rest := []) (wr := []) (wn := (sm_wM cZ m0 m1 m2 m3 m4 m5 m6 0 (sm_fb V) (sm_fb S) (sm_fo M) (sm_fl M) (sm_fw O) (sm_fw G))) (st1 := [.int (sm_bI false)]) ⟨hx, hb, hml, hown, hts⟩ (c_fails_f l D cZ m0 m1 m2 m3 m4 m5 m6 0 V S M O G 2) (cwV 2 hts (sm_gV (i1 := 266) (i2 := 267) (i3 := 348) (i4 := 2) (i5 := 268) rfl rfl rfl rfl rfl) rfl rfl rfl (by decide +kernel) ⟨Nat.le_of_ble_eq_true rfl, Nat.le_of_ble_eq_true rfl⟩) hK [0] rfl hP hD hS hA 0 rfl rfl [0, 1, 2, 3, 4, 5, 6] [] rfl rfl (by decide) (by decide) (by decide) rfl hl.1 rfl (Nat.le_of_ble_eq_true rfl) dX1_load_40 ⟨Nat.le_of_ble_eq_true rfl, Nat.le_of_ble_eq_true rfl⟩ rfl rfl (fun H locs hP hD hS => ?_)
  refine lv_if_eq (tgt := 47) hx hb dX1_load_43 rfl (fun _ => ?_) (fun z => absurd (by decide) z)
  refine lv_iconst (v := 0) hx hb dX1_load_47 (by decide) ?_
  refine lv_istore (lv' := [(5, .int 0), (0, .ref m0), (1, .int (nI r)), (2, .int (nI t)), (3, .int 1), (4, .int (sm_bI false))]) hx hb dX1_load_48 hl (by decide) rfl (fun ls hl => ?_)
  refine sm_loopW (nL := 8) (lv := fun k => [(0, .ref m0), (1, .int (nI r)), (2, .int (nI t)), (3, .int 1), (4, .int (sm_bI false)), (5, .int (nI k))]) (w := fun k => (sm_wM cZ m0 m1 m2 m3 m4 m5 m6 0 (sm_fb V) (sm_fb S) (sm_fo M) (sm_fl M) (sm_fill (sm_fw O) (fun i => if i < 8 then sm_ob M (8 * t + i) else false) 0 k) (sm_fill (sm_fw G) (fun i => if i < 8 then sm_ol M (8 * t + i) else false) 0 k))) 32 (fun H locs ls hl hP hD hS => ?_) (fun k hk ih H locs ls hl hP hD hS => ?_) (lv_sub hl [1, 2, 3, 4, 5, 0] rfl) (sm_cP (by simp only [sm_fill0]) hP) (sm_cD (by simp only [sm_fill0]) hD) hS
  · have hl : lv_has ls 8 [(0, .ref m0), (1, .int (nI r)), (2, .int (nI t)), (3, .int 1), (4, .int (sm_bI false)), (5, .int (nI 32))] := hl
    have hP : va_P D vwCl (sm_wM cZ m0 m1 m2 m3 m4 m5 m6 0 (sm_fb V) (sm_fb S) (sm_fo M) (sm_fl M) (sm_fill (sm_fw O) (fun i => if i < 8 then sm_ob M (8 * t + i) else false) 0 32) (sm_fill (sm_fw G) (fun i => if i < 8 then sm_ol M (8 * t + i) else false) 0 32)) H := hP
    have hD : va_D _ (sm_wM cZ m0 m1 m2 m3 m4 m5 m6 0 (sm_fb V) (sm_fb S) (sm_fo M) (sm_fl M) (sm_fill (sm_fw O) (fun i => if i < 8 then sm_ob M (8 * t + i) else false) 0 32) (sm_fill (sm_fw G) (fun i => if i < 8 then sm_ol M (8 * t + i) else false) 0 32)) := hD
    refine lv_iload hx hb dX1_load_50 (lv_at hl 5 rfl) ?_
    refine lv_bipush (v := 32) hx hb dX1_load_52 (by decide) ?_
    refine lv_icmp_ge (tgt := 170) hx hb dX1_load_54 rfl (fun _ => ?_) (fun z => absurd (by decide) z)
    have hP : va_P D vwCl (sm_wM cZ m0 m1 m2 m3 m4 m5 m6 0 (sm_fb V) (sm_fb S) (sm_fo M) (sm_fl M) (sm_fw (sm_ushr ((sm_lv (fun j => M (t + j) &&& 255) 1) <<< (nI 24 &&& 31)) (nI 24))) (sm_fw (sm_ushr ((sm_lv (fun j => sm_ushr (M (t + j)) 8) 1) <<< (nI 24 &&& 31)) (nI 24)))) H := sm_cP (by rw [sm_fill_w, sm_fill_w, sm_mkx (x := sm_ushr ((sm_lv (fun j => M (t + j) &&& 255) 1) <<< (nI 24 &&& 31)) (nI 24)) (sm_ldOu M t 1 (by decide) (by decide)), sm_mkx (x := sm_ushr ((sm_lv (fun j => sm_ushr (M (t + j)) 8) 1) <<< (nI 24 &&& 31)) (nI 24)) (sm_ldGu M hM t 1 (by decide) (by decide))]) hP
    have hD : va_D _ (sm_wM cZ m0 m1 m2 m3 m4 m5 m6 0 (sm_fb V) (sm_fb S) (sm_fo M) (sm_fl M) (sm_fw (sm_ushr ((sm_lv (fun j => M (t + j) &&& 255) 1) <<< (nI 24 &&& 31)) (nI 24))) (sm_fw (sm_ushr ((sm_lv (fun j => sm_ushr (M (t + j)) 8) 1) <<< (nI 24 &&& 31)) (nI 24)))) := sm_cD (by rw [sm_fill_w, sm_fill_w, sm_mkx (x := sm_ushr ((sm_lv (fun j => M (t + j) &&& 255) 1) <<< (nI 24 &&& 31)) (nI 24)) (sm_ldOu M t 1 (by decide) (by decide)), sm_mkx (x := sm_ushr ((sm_lv (fun j => sm_ushr (M (t + j)) 8) 1) <<< (nI 24 &&& 31)) (nI 24)) (sm_ldGu M hM t 1 (by decide) (by decide))]) hD
    refine lv_aload_n hx hb dX1_load_170 rfl (lv_at hl 0 rfl) ?_
    refine lv_iload_n hx hb dX1_load_171 rfl (lv_at hl 1 rfl) ?_
    refine sm_callV (C := RX1) (As := [.int (nI r)]) (rest := []) (wr := []) (wn := (sm_wM cZ m0 m1 m2 m3 m4 m5 m6 0 (sm_fb (upd V r (sm_ushr ((sm_lv (fun j => M (t + j) &&& 255) 1) <<< (nI 24 &&& 31)) (nI 24)))) (sm_fb (upd S r (sm_ushr ((sm_lv (fun j => sm_ushr (M (t + j)) 8) 1) <<< (nI 24 &&& 31)) (nI 24)))) (sm_fo M) (sm_fl M) (sm_fw (sm_ushr ((sm_lv (fun j => M (t + j) &&& 255) 1) <<< (nI 24 &&& 31)) (nI 24))) (sm_fw (sm_ushr ((sm_lv (fun j => sm_ushr (M (t + j)) 8) 1) <<< (nI 24 &&& 31)) (nI 24))))) (st1 := []) ⟨hx, hb, hml, hown, hts⟩ (c_give l D cZ m0 m1 m2 m3 m4 m5 m6 0 V S M (sm_ushr ((sm_lv (fun j => M (t + j) &&& 255) 1) <<< (nI 24 &&& 31)) (nI 24)) (sm_ushr ((sm_lv (fun j => sm_ushr (M (t + j)) 8) 1) <<< (nI 24 &&& 31)) (nI 24)) r (by omega)) (cwV 1 hts (sm_gV (i1 := 272) (i2 := 273) (i3 := 350) (i4 := 2) (i5 := 274) rfl rfl rfl rfl rfl) rfl rfl rfl (by decide +kernel) ⟨Nat.le_of_ble_eq_true rfl, Nat.le_of_ble_eq_true rfl⟩) hK [0] rfl hP hD hS hA 0 rfl rfl [0, 1, 2, 3, 4, 5, 6] [] rfl rfl (by decide) (by decide) (by decide) rfl hl.1 rfl (Nat.le_of_ble_eq_true rfl) dX1_load_172 ⟨Nat.le_of_ble_eq_true rfl, Nat.le_of_ble_eq_true rfl⟩ rfl rfl (fun H locs hP hD hS => ?_)
    exact sm_vret hx hb hrt hlocks hS hP hD dX1_load_175
  · have hl : lv_has ls 8 [(0, .ref m0), (1, .int (nI r)), (2, .int (nI t)), (3, .int 1), (4, .int (sm_bI false)), (5, .int (nI k))] := hl
    have hP : va_P D vwCl (sm_wM cZ m0 m1 m2 m3 m4 m5 m6 0 (sm_fb V) (sm_fb S) (sm_fo M) (sm_fl M) (sm_fill (sm_fw O) (fun i => if i < 8 then sm_ob M (8 * t + i) else false) 0 k) (sm_fill (sm_fw G) (fun i => if i < 8 then sm_ol M (8 * t + i) else false) 0 k)) H := hP
    have hD : va_D _ (sm_wM cZ m0 m1 m2 m3 m4 m5 m6 0 (sm_fb V) (sm_fb S) (sm_fo M) (sm_fl M) (sm_fill (sm_fw O) (fun i => if i < 8 then sm_ob M (8 * t + i) else false) 0 k) (sm_fill (sm_fw G) (fun i => if i < 8 then sm_ol M (8 * t + i) else false) 0 k)) := hD
    refine lv_iload hx hb dX1_load_50 (lv_at hl 5 rfl) ?_
    refine lv_bipush (v := 32) hx hb dX1_load_52 (by decide) ?_
    refine lv_icmp_ge (tgt := 170) hx hb dX1_load_54 rfl (fun z => absurd z (nI_ge (b := 32) hk (by decide))) (fun _ => ?_)
    rcases Nat.lt_or_ge k 8 with hkn | hkn
    · refine lv_iload hx hb dX1_load_57 (lv_at hl 5 rfl) ?_
      refine lv_bipush (v := 8) hx hb dX1_load_59 (by decide) ?_
      refine lv_iload_n hx hb dX1_load_61 rfl (lv_at hl 3 rfl) ?_
      refine lv_imul hx hb dX1_load_62 ?_
      refine sm_eqi (y := 8) (by decide) ?_
      refine lv_icmp_ge (tgt := 71) hx hb dX1_load_63 rfl (fun z => absurd z (nI_ge (b := 8) hkn (by decide))) (fun _ => ?_)
      refine lv_iload hx hb dX1_load_66 (lv_at hl 5 rfl) ?_
      refine lv_goto (tgt := 77) hx hb dX1_load_68 rfl ?_
      refine lv_istore (lv' := [(6, .int (nI k)), (0, .ref m0), (1, .int (nI r)), (2, .int (nI t)), (3, .int 1), (4, .int (sm_bI false)), (5, .int (nI k))]) hx hb dX1_load_77 hl (by decide) rfl (fun ls hl => ?_)
      refine lv_iload hx hb dX1_load_79 (lv_at hl 6 rfl) ?_
      refine lv_bipush (v := 8) hx hb dX1_load_81 (by decide) ?_
      refine lv_iload_n hx hb dX1_load_83 rfl (lv_at hl 4 rfl) ?_
      refine lv_imul hx hb dX1_load_84 ?_
      refine sm_eqi (y := 8) (by decide) ?_
      refine lv_icmp_lt (tgt := 93) hx hb dX1_load_85 rfl (fun _ => ?_) (fun z => absurd (nI_lt (b := 8) hkn (by decide)) z)
      refine lv_iconst (v := 1) hx hb dX1_load_93 (by decide) ?_
      refine lv_goto (tgt := 98) hx hb dX1_load_94 rfl ?_
      refine lv_istore (lv' := [(7, .int 1), (6, .int (nI k)), (0, .ref m0), (1, .int (nI r)), (2, .int (nI t)), (3, .int 1), (4, .int (sm_bI false)), (5, .int (nI k))]) hx hb dX1_load_98 hl (by decide) rfl (fun ls hl => ?_)
      refine lv_aload_n hx hb dX1_load_100 rfl (lv_at hl 2 rfl) ?_
      refine va_get (D := D) (ci := 1) (v := .ref m5) (C := RX1) (T := TX1) (N := 7) hx hb hts inX1 hown hK hP 0 rfl rfl 5 (by decide) (hw 237 rfl) (fun _ h9 => h9) rfl dX1_load_101 ?_
      refine lv_iload hx hb dX1_load_104 (lv_at hl 7 rfl) ?_
      refine lv_iload hx hb dX1_load_106 (lv_at hl 0 rfl) ?_
      refine lv_if_eq (tgt := 130) hx hb dX1_load_108 rfl (fun z => absurd z (by decide)) (fun _ => ?_)
      refine lv_aload_n hx hb dX1_load_111 rfl (lv_at hl 2 rfl) ?_
      refine va_get (D := D) (ci := 1) (v := .ref m3) (C := RX1) (T := TX1) (N := 7) hx hb hts inX1 hown hK hP 0 rfl rfl 3 (by decide) (hw 235 rfl) (fun _ h9 => h9) rfl dX1_load_112 ?_
      refine lv_bipush (v := 8) hx hb dX1_load_115 (by decide) ?_
      refine lv_iload_n hx hb dX1_load_117 rfl (lv_at hl 4 rfl) ?_
      refine lv_imul hx hb dX1_load_118 ?_
      refine sm_eqi (y := nI (8 * t)) (pk_mul 8 t) ?_
      refine lv_iload hx hb dX1_load_119 (lv_at hl 1 rfl) ?_
      refine lv_iadd hx hb dX1_load_121 ?_
      refine sm_eqi (y := nI ((8 * t) + k)) (nI_add (8 * t) k) ?_
      refine va_zald hx hb hK hP 3 0 rfl rfl (vp_in_nI (n := (8 * t) + k) (by omega) (by decide)) dX1_load_122 ?_
      refine sm_eqi (y := sm_bI (sm_ob M (8 * t + k))) ((sm_cl _ (n := 8 * t + k) (by omega)).trans rfl) ?_
      refine sm_ifb_eq (tgt := 130) hx hb dX1_load_123 rfl (fun h123 => ?_) (fun h123 => ?_)
      · refine lv_iconst (v := 0) hx hb dX1_load_130 (by decide) ?_
        refine sm_eqi (y := sm_bI (if k < 8 then sm_ob M (8 * t + k) else false)) (by rw [if_pos hkn]; simp [sm_bI, h123]) ?_
        refine sm_zast (f' := sm_fill (sm_fw O) (fun i => if i < 8 then sm_ob M (8 * t + i) else false) 0 (k + 1)) (ws' := (sm_wM cZ m0 m1 m2 m3 m4 m5 m6 0 (sm_fb V) (sm_fb S) (sm_fo M) (sm_fl M) (sm_fill (sm_fw O) (fun i => if i < 8 then sm_ob M (8 * t + i) else false) 0 (k + 1)) (sm_fill (sm_fw G) (fun i => if i < 8 then sm_ol M (8 * t + i) else false) 0 k))) hx hb hK hP hD hS 5 0 rfl rfl (vp_in_nI (n := k) (by omega) (by decide)) dX1_load_131 (by rw [nI_clamp (by omega)]; exact sm_fillS0 (sm_fw O) (fun i => if i < 8 then sm_ob M (8 * t + i) else false) k) rfl (fun H locs hP hD hS => ?_)
        refine lv_aload_n hx hb dX1_load_132 rfl (lv_at hl 2 rfl) ?_
        refine va_get (D := D) (ci := 1) (v := .ref m6) (C := RX1) (T := TX1) (N := 7) hx hb hts inX1 hown hK hP 0 rfl rfl 6 (by decide) (hw 238 rfl) (fun _ h9 => h9) rfl dX1_load_133 ?_
        refine lv_iload hx hb dX1_load_136 (lv_at hl 7 rfl) ?_
        refine lv_iload hx hb dX1_load_138 (lv_at hl 0 rfl) ?_
        refine lv_if_eq (tgt := 162) hx hb dX1_load_140 rfl (fun z => absurd z (by decide)) (fun _ => ?_)
        refine lv_aload_n hx hb dX1_load_143 rfl (lv_at hl 2 rfl) ?_
        refine va_get (D := D) (ci := 1) (v := .ref m4) (C := RX1) (T := TX1) (N := 7) hx hb hts inX1 hown hK hP 0 rfl rfl 4 (by decide) (hw 236 rfl) (fun _ h9 => h9) rfl dX1_load_144 ?_
        refine lv_bipush (v := 8) hx hb dX1_load_147 (by decide) ?_
        refine lv_iload_n hx hb dX1_load_149 rfl (lv_at hl 4 rfl) ?_
        refine lv_imul hx hb dX1_load_150 ?_
        refine sm_eqi (y := nI (8 * t)) (pk_mul 8 t) ?_
        refine lv_iload hx hb dX1_load_151 (lv_at hl 1 rfl) ?_
        refine lv_iadd hx hb dX1_load_153 ?_
        refine sm_eqi (y := nI ((8 * t) + k)) (nI_add (8 * t) k) ?_
        refine va_zald hx hb hK hP 4 0 rfl rfl (vp_in_nI (n := (8 * t) + k) (by omega) (by decide)) dX1_load_154 ?_
        refine sm_eqi (y := sm_bI (sm_ol M (8 * t + k))) ((sm_cl _ (n := 8 * t + k) (by omega)).trans rfl) ?_
        refine sm_ifb_eq (tgt := 162) hx hb dX1_load_155 rfl (fun h155 => ?_) (fun h155 => ?_)
        · refine lv_iconst (v := 0) hx hb dX1_load_162 (by decide) ?_
          refine sm_eqi (y := sm_bI (if k < 8 then sm_ol M (8 * t + k) else false)) (by rw [if_pos hkn]; simp [sm_bI, h123, h155]) ?_
          refine sm_zast (f' := sm_fill (sm_fw G) (fun i => if i < 8 then sm_ol M (8 * t + i) else false) 0 (k + 1)) (ws' := (sm_wM cZ m0 m1 m2 m3 m4 m5 m6 0 (sm_fb V) (sm_fb S) (sm_fo M) (sm_fl M) (sm_fill (sm_fw O) (fun i => if i < 8 then sm_ob M (8 * t + i) else false) 0 (k + 1)) (sm_fill (sm_fw G) (fun i => if i < 8 then sm_ol M (8 * t + i) else false) 0 (k + 1)))) hx hb hK hP hD hS 6 0 rfl rfl (vp_in_nI (n := k) (by omega) (by decide)) dX1_load_163 (by rw [nI_clamp (by omega)]; exact sm_fillS0 (sm_fw G) (fun i => if i < 8 then sm_ol M (8 * t + i) else false) k) rfl (fun H locs hP hD hS => ?_)
          refine lv_iinc (k := 7) (v := nI (k + 1)) (lv' := [(5, .int (nI (k + 1))), (7, .int 1), (6, .int (nI k)), (0, .ref m0), (1, .int (nI r)), (2, .int (nI t)), (3, .int 1), (4, .int (sm_bI false))]) hx hb dX1_load_164 hl rfl (sm_inc k) (by decide) rfl (fun ls hl => ?_)
          refine lv_goto (tgt := 50) hx hb dX1_load_167 rfl ?_
          exact ih _ _ _ (lv_sub hl [3, 4, 5, 6, 7, 0] rfl) (sm_cP (rfl) hP) (sm_cD (rfl) hD) hS
        · refine lv_iconst (v := 1) hx hb dX1_load_158 (by decide) ?_
          refine lv_goto (tgt := 163) hx hb dX1_load_159 rfl ?_
          refine sm_eqi (y := sm_bI (if k < 8 then sm_ol M (8 * t + k) else false)) (by rw [if_pos hkn]; simp [sm_bI, h123, h155]) ?_
          refine sm_zast (f' := sm_fill (sm_fw G) (fun i => if i < 8 then sm_ol M (8 * t + i) else false) 0 (k + 1)) (ws' := (sm_wM cZ m0 m1 m2 m3 m4 m5 m6 0 (sm_fb V) (sm_fb S) (sm_fo M) (sm_fl M) (sm_fill (sm_fw O) (fun i => if i < 8 then sm_ob M (8 * t + i) else false) 0 (k + 1)) (sm_fill (sm_fw G) (fun i => if i < 8 then sm_ol M (8 * t + i) else false) 0 (k + 1)))) hx hb hK hP hD hS 6 0 rfl rfl (vp_in_nI (n := k) (by omega) (by decide)) dX1_load_163 (by rw [nI_clamp (by omega)]; exact sm_fillS0 (sm_fw G) (fun i => if i < 8 then sm_ol M (8 * t + i) else false) k) rfl (fun H locs hP hD hS => ?_)
          refine lv_iinc (k := 7) (v := nI (k + 1)) (lv' := [(5, .int (nI (k + 1))), (7, .int 1), (6, .int (nI k)), (0, .ref m0), (1, .int (nI r)), (2, .int (nI t)), (3, .int 1), (4, .int (sm_bI false))]) hx hb dX1_load_164 hl rfl (sm_inc k) (by decide) rfl (fun ls hl => ?_)
          refine lv_goto (tgt := 50) hx hb dX1_load_167 rfl ?_
          exact ih _ _ _ (lv_sub hl [3, 4, 5, 6, 7, 0] rfl) (sm_cP (rfl) hP) (sm_cD (rfl) hD) hS
      · refine lv_iconst (v := 1) hx hb dX1_load_126 (by decide) ?_
        refine lv_goto (tgt := 131) hx hb dX1_load_127 rfl ?_
        refine sm_eqi (y := sm_bI (if k < 8 then sm_ob M (8 * t + k) else false)) (by rw [if_pos hkn]; simp [sm_bI, h123]) ?_
        refine sm_zast (f' := sm_fill (sm_fw O) (fun i => if i < 8 then sm_ob M (8 * t + i) else false) 0 (k + 1)) (ws' := (sm_wM cZ m0 m1 m2 m3 m4 m5 m6 0 (sm_fb V) (sm_fb S) (sm_fo M) (sm_fl M) (sm_fill (sm_fw O) (fun i => if i < 8 then sm_ob M (8 * t + i) else false) 0 (k + 1)) (sm_fill (sm_fw G) (fun i => if i < 8 then sm_ol M (8 * t + i) else false) 0 k))) hx hb hK hP hD hS 5 0 rfl rfl (vp_in_nI (n := k) (by omega) (by decide)) dX1_load_131 (by rw [nI_clamp (by omega)]; exact sm_fillS0 (sm_fw O) (fun i => if i < 8 then sm_ob M (8 * t + i) else false) k) rfl (fun H locs hP hD hS => ?_)
        refine lv_aload_n hx hb dX1_load_132 rfl (lv_at hl 2 rfl) ?_
        refine va_get (D := D) (ci := 1) (v := .ref m6) (C := RX1) (T := TX1) (N := 7) hx hb hts inX1 hown hK hP 0 rfl rfl 6 (by decide) (hw 238 rfl) (fun _ h9 => h9) rfl dX1_load_133 ?_
        refine lv_iload hx hb dX1_load_136 (lv_at hl 7 rfl) ?_
        refine lv_iload hx hb dX1_load_138 (lv_at hl 0 rfl) ?_
        refine lv_if_eq (tgt := 162) hx hb dX1_load_140 rfl (fun z => absurd z (by decide)) (fun _ => ?_)
        refine lv_aload_n hx hb dX1_load_143 rfl (lv_at hl 2 rfl) ?_
        refine va_get (D := D) (ci := 1) (v := .ref m4) (C := RX1) (T := TX1) (N := 7) hx hb hts inX1 hown hK hP 0 rfl rfl 4 (by decide) (hw 236 rfl) (fun _ h9 => h9) rfl dX1_load_144 ?_
        refine lv_bipush (v := 8) hx hb dX1_load_147 (by decide) ?_
        refine lv_iload_n hx hb dX1_load_149 rfl (lv_at hl 4 rfl) ?_
        refine lv_imul hx hb dX1_load_150 ?_
        refine sm_eqi (y := nI (8 * t)) (pk_mul 8 t) ?_
        refine lv_iload hx hb dX1_load_151 (lv_at hl 1 rfl) ?_
        refine lv_iadd hx hb dX1_load_153 ?_
        refine sm_eqi (y := nI ((8 * t) + k)) (nI_add (8 * t) k) ?_
        refine va_zald hx hb hK hP 4 0 rfl rfl (vp_in_nI (n := (8 * t) + k) (by omega) (by decide)) dX1_load_154 ?_
        refine sm_eqi (y := sm_bI (sm_ol M (8 * t + k))) ((sm_cl _ (n := 8 * t + k) (by omega)).trans rfl) ?_
        refine sm_ifb_eq (tgt := 162) hx hb dX1_load_155 rfl (fun h155 => ?_) (fun h155 => ?_)
        · refine lv_iconst (v := 0) hx hb dX1_load_162 (by decide) ?_
          refine sm_eqi (y := sm_bI (if k < 8 then sm_ol M (8 * t + k) else false)) (by rw [if_pos hkn]; simp [sm_bI, h123, h155]) ?_
          refine sm_zast (f' := sm_fill (sm_fw G) (fun i => if i < 8 then sm_ol M (8 * t + i) else false) 0 (k + 1)) (ws' := (sm_wM cZ m0 m1 m2 m3 m4 m5 m6 0 (sm_fb V) (sm_fb S) (sm_fo M) (sm_fl M) (sm_fill (sm_fw O) (fun i => if i < 8 then sm_ob M (8 * t + i) else false) 0 (k + 1)) (sm_fill (sm_fw G) (fun i => if i < 8 then sm_ol M (8 * t + i) else false) 0 (k + 1)))) hx hb hK hP hD hS 6 0 rfl rfl (vp_in_nI (n := k) (by omega) (by decide)) dX1_load_163 (by rw [nI_clamp (by omega)]; exact sm_fillS0 (sm_fw G) (fun i => if i < 8 then sm_ol M (8 * t + i) else false) k) rfl (fun H locs hP hD hS => ?_)
          refine lv_iinc (k := 7) (v := nI (k + 1)) (lv' := [(5, .int (nI (k + 1))), (7, .int 1), (6, .int (nI k)), (0, .ref m0), (1, .int (nI r)), (2, .int (nI t)), (3, .int 1), (4, .int (sm_bI false))]) hx hb dX1_load_164 hl rfl (sm_inc k) (by decide) rfl (fun ls hl => ?_)
          refine lv_goto (tgt := 50) hx hb dX1_load_167 rfl ?_
          exact ih _ _ _ (lv_sub hl [3, 4, 5, 6, 7, 0] rfl) (sm_cP (rfl) hP) (sm_cD (rfl) hD) hS
        · refine lv_iconst (v := 1) hx hb dX1_load_158 (by decide) ?_
          refine lv_goto (tgt := 163) hx hb dX1_load_159 rfl ?_
          refine sm_eqi (y := sm_bI (if k < 8 then sm_ol M (8 * t + k) else false)) (by rw [if_pos hkn]; simp [sm_bI, h123, h155]) ?_
          refine sm_zast (f' := sm_fill (sm_fw G) (fun i => if i < 8 then sm_ol M (8 * t + i) else false) 0 (k + 1)) (ws' := (sm_wM cZ m0 m1 m2 m3 m4 m5 m6 0 (sm_fb V) (sm_fb S) (sm_fo M) (sm_fl M) (sm_fill (sm_fw O) (fun i => if i < 8 then sm_ob M (8 * t + i) else false) 0 (k + 1)) (sm_fill (sm_fw G) (fun i => if i < 8 then sm_ol M (8 * t + i) else false) 0 (k + 1)))) hx hb hK hP hD hS 6 0 rfl rfl (vp_in_nI (n := k) (by omega) (by decide)) dX1_load_163 (by rw [nI_clamp (by omega)]; exact sm_fillS0 (sm_fw G) (fun i => if i < 8 then sm_ol M (8 * t + i) else false) k) rfl (fun H locs hP hD hS => ?_)
          refine lv_iinc (k := 7) (v := nI (k + 1)) (lv' := [(5, .int (nI (k + 1))), (7, .int 1), (6, .int (nI k)), (0, .ref m0), (1, .int (nI r)), (2, .int (nI t)), (3, .int 1), (4, .int (sm_bI false))]) hx hb dX1_load_164 hl rfl (sm_inc k) (by decide) rfl (fun ls hl => ?_)
          refine lv_goto (tgt := 50) hx hb dX1_load_167 rfl ?_
          exact ih _ _ _ (lv_sub hl [3, 4, 5, 6, 7, 0] rfl) (sm_cP (rfl) hP) (sm_cD (rfl) hD) hS
    · refine lv_iload hx hb dX1_load_57 (lv_at hl 5 rfl) ?_
      refine lv_bipush (v := 8) hx hb dX1_load_59 (by decide) ?_
      refine lv_iload_n hx hb dX1_load_61 rfl (lv_at hl 3 rfl) ?_
      refine lv_imul hx hb dX1_load_62 ?_
      refine sm_eqi (y := 8) (by decide) ?_
      refine lv_icmp_ge (tgt := 71) hx hb dX1_load_63 rfl (fun _ => ?_) (fun z => absurd (nI_le (a := 8) hkn (by omega)) z)
      refine lv_bipush (v := 8) hx hb dX1_load_71 (by decide) ?_
      refine lv_iload_n hx hb dX1_load_73 rfl (lv_at hl 3 rfl) ?_
      refine lv_imul hx hb dX1_load_74 ?_
      refine sm_eqi (y := 8) (by decide) ?_
      refine lv_iconst (v := 1) hx hb dX1_load_75 (by decide) ?_
      refine lv_isub hx hb dX1_load_76 ?_
      refine sm_eqi (y := 7) (by decide) ?_
      refine lv_istore (lv' := [(6, .int 7), (0, .ref m0), (1, .int (nI r)), (2, .int (nI t)), (3, .int 1), (4, .int (sm_bI false)), (5, .int (nI k))]) hx hb dX1_load_77 hl (by decide) rfl (fun ls hl => ?_)
      refine lv_iload hx hb dX1_load_79 (lv_at hl 6 rfl) ?_
      refine lv_bipush (v := 8) hx hb dX1_load_81 (by decide) ?_
      refine lv_iload_n hx hb dX1_load_83 rfl (lv_at hl 4 rfl) ?_
      refine lv_imul hx hb dX1_load_84 ?_
      refine sm_eqi (y := 8) (by decide) ?_
      refine lv_icmp_lt (tgt := 93) hx hb dX1_load_85 rfl (fun z => absurd z (nI_nlt (b := 8) hkn (by omega))) (fun _ => ?_)
      refine lv_iload hx hb dX1_load_88 (lv_at hl 5 rfl) ?_
      refine lv_if_eq (tgt := 97) hx hb dX1_load_90 rfl (fun _ => ?_) (fun z => absurd (by decide) z)
      refine lv_iconst (v := 0) hx hb dX1_load_97 (by decide) ?_
      refine lv_istore (lv' := [(7, .int 0), (6, .int 7), (0, .ref m0), (1, .int (nI r)), (2, .int (nI t)), (3, .int 1), (4, .int (sm_bI false)), (5, .int (nI k))]) hx hb dX1_load_98 hl (by decide) rfl (fun ls hl => ?_)
      refine lv_aload_n hx hb dX1_load_100 rfl (lv_at hl 2 rfl) ?_
      refine va_get (D := D) (ci := 1) (v := .ref m5) (C := RX1) (T := TX1) (N := 7) hx hb hts inX1 hown hK hP 0 rfl rfl 5 (by decide) (hw 237 rfl) (fun _ h9 => h9) rfl dX1_load_101 ?_
      refine lv_iload hx hb dX1_load_104 (lv_at hl 7 rfl) ?_
      refine lv_iload hx hb dX1_load_106 (lv_at hl 0 rfl) ?_
      refine lv_if_eq (tgt := 130) hx hb dX1_load_108 rfl (fun _ => ?_) (fun z => absurd (by decide) z)
      refine lv_iconst (v := 0) hx hb dX1_load_130 (by decide) ?_
      refine sm_eqi (y := sm_bI (if k < 8 then sm_ob M (8 * t + k) else false)) (by rw [if_neg (Nat.not_lt.mpr hkn)]; simp [sm_bI]) ?_
      refine sm_zast (f' := sm_fill (sm_fw O) (fun i => if i < 8 then sm_ob M (8 * t + i) else false) 0 (k + 1)) (ws' := (sm_wM cZ m0 m1 m2 m3 m4 m5 m6 0 (sm_fb V) (sm_fb S) (sm_fo M) (sm_fl M) (sm_fill (sm_fw O) (fun i => if i < 8 then sm_ob M (8 * t + i) else false) 0 (k + 1)) (sm_fill (sm_fw G) (fun i => if i < 8 then sm_ol M (8 * t + i) else false) 0 k))) hx hb hK hP hD hS 5 0 rfl rfl (vp_in_nI (n := k) (by omega) (by decide)) dX1_load_131 (by rw [nI_clamp (by omega)]; exact sm_fillS0 (sm_fw O) (fun i => if i < 8 then sm_ob M (8 * t + i) else false) k) rfl (fun H locs hP hD hS => ?_)
      refine lv_aload_n hx hb dX1_load_132 rfl (lv_at hl 2 rfl) ?_
      refine va_get (D := D) (ci := 1) (v := .ref m6) (C := RX1) (T := TX1) (N := 7) hx hb hts inX1 hown hK hP 0 rfl rfl 6 (by decide) (hw 238 rfl) (fun _ h9 => h9) rfl dX1_load_133 ?_
      refine lv_iload hx hb dX1_load_136 (lv_at hl 7 rfl) ?_
      refine lv_iload hx hb dX1_load_138 (lv_at hl 0 rfl) ?_
      refine lv_if_eq (tgt := 162) hx hb dX1_load_140 rfl (fun _ => ?_) (fun z => absurd (by decide) z)
      refine lv_iconst (v := 0) hx hb dX1_load_162 (by decide) ?_
      refine sm_eqi (y := sm_bI (if k < 8 then sm_ol M (8 * t + k) else false)) (by rw [if_neg (Nat.not_lt.mpr hkn)]; simp [sm_bI]) ?_
      refine sm_zast (f' := sm_fill (sm_fw G) (fun i => if i < 8 then sm_ol M (8 * t + i) else false) 0 (k + 1)) (ws' := (sm_wM cZ m0 m1 m2 m3 m4 m5 m6 0 (sm_fb V) (sm_fb S) (sm_fo M) (sm_fl M) (sm_fill (sm_fw O) (fun i => if i < 8 then sm_ob M (8 * t + i) else false) 0 (k + 1)) (sm_fill (sm_fw G) (fun i => if i < 8 then sm_ol M (8 * t + i) else false) 0 (k + 1)))) hx hb hK hP hD hS 6 0 rfl rfl (vp_in_nI (n := k) (by omega) (by decide)) dX1_load_163 (by rw [nI_clamp (by omega)]; exact sm_fillS0 (sm_fw G) (fun i => if i < 8 then sm_ol M (8 * t + i) else false) k) rfl (fun H locs hP hD hS => ?_)
      refine lv_iinc (k := 7) (v := nI (k + 1)) (lv' := [(5, .int (nI (k + 1))), (7, .int 0), (6, .int 7), (0, .ref m0), (1, .int (nI r)), (2, .int (nI t)), (3, .int 1), (4, .int (sm_bI false))]) hx hb dX1_load_164 hl rfl (sm_inc k) (by decide) rfl (fun ls hl => ?_)
      refine lv_goto (tgt := 50) hx hb dX1_load_167 rfl ?_
      exact ih _ _ _ (lv_sub hl [3, 4, 5, 6, 7, 0] rfl) (sm_cP (rfl) hP) (sm_cD (rfl) hD) hS
set_option maxHeartbeats 4000000 in
set_option maxRecDepth 100000 in
theorem c_mload_2_t (l : Launch) (D : va_G) (cZ : ClassId) (m0 m1 m2 m3 m4 m5 m6 : Nat) (err : Int32) (V S M : Nat → Int32) (O G : Int32) (r t : Nat) (hr : r < 16) (ht : t + 2 ≤ 256) (hM : ∀ a, M a = M a &&& 65535) : sm_C l yX1_load wsX1_load ({ frames := 5, cells := 0, slots := 0, locals := 140 } : Room) D vwCl [(cZ, .boolean)] [.ref m0, .int (nI r), .int (nI t), .int 2, .int (sm_bI true)] (sm_wM cZ m0 m1 m2 m3 m4 m5 m6 err (sm_fb V) (sm_fb S) (sm_fo M) (sm_fl M) (sm_fw O) (sm_fw G)) none (sm_wM cZ m0 m1 m2 m3 m4 m5 m6 0 (sm_fb (upd V r (((sm_lv (fun j => M (t + j) &&& 255) 2) <<< (nI 16 &&& 31)) >>> (nI 16 &&& 31)))) (sm_fb (upd S r (((sm_lv (fun j => sm_ushr (M (t + j)) 8) 2) <<< (nI 16 &&& 31)) >>> (nI 16 &&& 31)))) (sm_fo M) (sm_fl M) (sm_fw (((sm_lv (fun j => M (t + j) &&& 255) 2) <<< (nI 16 &&& 31)) >>> (nI 16 &&& 31))) (sm_fw (((sm_lv (fun j => sm_ushr (M (t + j)) 8) 2) <<< (nI 16 &&& 31)) >>> (nI 16 &&& 31)))) := by
  refine sm_start (cc := cX1_load) (maxL := 8) (ret := none) (lv := [(0, .ref m0), (1, .int (nI r)), (2, .int (nI t)), (3, .int 2), (4, .int (sm_bI true))]) (by decide) rfl (Nat.le_of_ble_eq_true rfl) rfl ?_
  intro p e s m below meth c hx hb hrt hts hown hlocks hml hin hK hP hD hS hA ls hl
  have hw := sm_hw hts
  refine lv_aload_n hx hb dX1_load_0 rfl (lv_at hl 0 rfl) ?_
  refine lv_iload_n hx hb dX1_load_1 rfl (lv_at hl 3 rfl) ?_
  refine sm_callS (As := [.int 2]) (rest := [.ref m0]) (wr := (sm_wM cZ m0 m1 m2 m3 m4 m5 m6 err (sm_fb V) (sm_fb S) (sm_fo M) (sm_fl M) (sm_fw O) (sm_fw G))) (wn := (sm_wM cZ m0 m1 m2 m3 m4 m5 m6 err (sm_fb V) (sm_fb S) (sm_fo M) (sm_fl M) (sm_fw O) (sm_fw G))) (st1 := [.int (sm_bI false), .ref m0]) ⟨hx, hb, hml, hown, hts⟩ (c_wrong_2 l D) (va_cwS 1 hts (sm_gS (i1 := 311) (i2 := 312) (i4 := 2) (i5 := 313) rfl rfl rfl rfl) rfl rfl rfl (by decide +kernel) ⟨Nat.le_of_ble_eq_true rfl, Nat.le_of_ble_eq_true rfl⟩) hK [] rfl hP hD hS hA [] [0, 1, 2, 3, 4, 5, 6] rfl rfl (by decide) (by decide) (by decide) rfl hl.1 rfl (Nat.le_of_ble_eq_true rfl) dX1_load_2 ⟨Nat.le_of_ble_eq_true rfl, Nat.le_of_ble_eq_true rfl⟩ rfl rfl (fun H locs hP hD hS => ?_)
  refine lv_iconst (v := 1) hx hb dX1_load_5 (by decide) ?_
  refine sm_callV (C := RX1) (As := [.int (sm_bI false), .int 1]) (rest := []) (wr := []) (wn := (sm_wM cZ m0 m1 m2 m3 m4 m5 m6 0 (sm_fb V) (sm_fb S) (sm_fo M) (sm_fl M) (sm_fw O) (sm_fw G))) (st1 := [.int (sm_bI false)]) ⟨hx, hb, hml, hown, hts⟩ (c_fails_f l D cZ m0 m1 m2 m3 m4 m5 m6 err V S M O G 1) (cwV 2 hts (sm_gV (i1 := 266) (i2 := 267) (i3 := 348) (i4 := 2) (i5 := 268) rfl rfl rfl rfl rfl) rfl rfl rfl (by decide +kernel) ⟨Nat.le_of_ble_eq_true rfl, Nat.le_of_ble_eq_true rfl⟩) hK [0] rfl hP hD hS hA 0 rfl rfl [0, 1, 2, 3, 4, 5, 6] [] rfl rfl (by decide) (by decide) (by decide) rfl hl.1 rfl (Nat.le_of_ble_eq_true rfl) dX1_load_6 ⟨Nat.le_of_ble_eq_true rfl, Nat.le_of_ble_eq_true rfl⟩ rfl rfl (fun H locs hP hD hS => ?_)
  refine lv_if_eq (tgt := 13) hx hb dX1_load_9 rfl (fun _ => ?_) (fun z => absurd (by decide) z)
  refine lv_aload_n hx hb dX1_load_13 rfl (lv_at hl 0 rfl) ?_
  refine lv_iload_n hx hb dX1_load_14 rfl (lv_at hl 1 rfl) ?_
  refine sm_callS (As := [.int (nI r)]) (rest := [.ref m0]) (wr := (sm_wM cZ m0 m1 m2 m3 m4 m5 m6 0 (sm_fb V) (sm_fb S) (sm_fo M) (sm_fl M) (sm_fw O) (sm_fw G))) (wn := (sm_wM cZ m0 m1 m2 m3 m4 m5 m6 0 (sm_fb V) (sm_fb S) (sm_fo M) (sm_fl M) (sm_fw O) (sm_fw G))) (st1 := [.int (sm_bI false), .ref m0]) ⟨hx, hb, hml, hown, hts⟩ (c_none_f l D r (by omega)) (va_cwS 1 hts (sm_gS (i1 := 263) (i2 := 264) (i4 := 2) (i5 := 265) rfl rfl rfl rfl) rfl rfl rfl (by decide +kernel) ⟨Nat.le_of_ble_eq_true rfl, Nat.le_of_ble_eq_true rfl⟩) hK [] rfl hP hD hS hA [] [0, 1, 2, 3, 4, 5, 6] rfl rfl (by decide) (by decide) (by decide) rfl hl.1 rfl (Nat.le_of_ble_eq_true rfl) dX1_load_15 ⟨Nat.le_of_ble_eq_true rfl, Nat.le_of_ble_eq_true rfl⟩ rfl rfl (fun H locs hP hD hS => ?_)
  refine lv_if_ne (tgt := 34) hx hb dX1_load_18 rfl (fun z => absurd (by decide) z) (fun _ => ?_)
  refine lv_iload_n hx hb dX1_load_21 rfl (lv_at hl 2 rfl) ?_
  refine lv_if_lt (tgt := 34) hx hb dX1_load_22 rfl (fun z => absurd z (nI_pos (by omega))) (fun _ => ?_)
  refine lv_iload_n hx hb dX1_load_25 rfl (lv_at hl 2 rfl) ?_
  refine lv_sipush (v := 256) hx hb dX1_load_26 (by decide) ?_
  refine lv_iload_n hx hb dX1_load_29 rfl (lv_at hl 3 rfl) ?_
  refine lv_isub hx hb dX1_load_30 ?_
  refine sm_eqi (y := 254) (by decide) ?_
  refine lv_icmp_le (tgt := 38) hx hb dX1_load_31 rfl (fun _ => ?_) (fun z => absurd (nI_le (b := 254) (by omega) (by decide)) z)
  refine lv_iconst (v := 0) hx hb dX1_load_38 (by decide) ?_
  refine lv_iconst (v := 2) hx hb dX1_load_39 (by decide) ?_
  refine sm_callV (C := RX1) (As := [.int (sm_bI false), .int 2]) (rest := []) (wr := []) (wn := (sm_wM cZ m0 m1 m2 m3 m4 m5 m6 0 (sm_fb V) (sm_fb S) (sm_fo M) (sm_fl M) (sm_fw O) (sm_fw G))) (st1 := [.int (sm_bI false)]) ⟨hx, hb, hml, hown, hts⟩ (c_fails_f l D cZ m0 m1 m2 m3 m4 m5 m6 0 V S M O G 2) (cwV 2 hts (sm_gV (i1 := 266) (i2 := 267) (i3 := 348) (i4 := 2) (i5 := 268) rfl rfl rfl rfl rfl) rfl rfl rfl (by decide +kernel) ⟨Nat.le_of_ble_eq_true rfl, Nat.le_of_ble_eq_true rfl⟩) hK [0] rfl hP hD hS hA 0 rfl rfl [0, 1, 2, 3, 4, 5, 6] [] rfl rfl (by decide) (by decide) (by decide) rfl hl.1 rfl (Nat.le_of_ble_eq_true rfl) dX1_load_40 ⟨Nat.le_of_ble_eq_true rfl, Nat.le_of_ble_eq_true rfl⟩ rfl rfl (fun H locs hP hD hS => ?_)
  refine lv_if_eq (tgt := 47) hx hb dX1_load_43 rfl (fun _ => ?_) (fun z => absurd (by decide) z)
  refine lv_iconst (v := 0) hx hb dX1_load_47 (by decide) ?_
  refine lv_istore (lv' := [(5, .int 0), (0, .ref m0), (1, .int (nI r)), (2, .int (nI t)), (3, .int 2), (4, .int (sm_bI true))]) hx hb dX1_load_48 hl (by decide) rfl (fun ls hl => ?_)
  refine sm_loopW (nL := 8) (lv := fun k => [(0, .ref m0), (1, .int (nI r)), (2, .int (nI t)), (3, .int 2), (4, .int (sm_bI true)), (5, .int (nI k))]) (w := fun k => (sm_wM cZ m0 m1 m2 m3 m4 m5 m6 0 (sm_fb V) (sm_fb S) (sm_fo M) (sm_fl M) (sm_fill (sm_fw O) (fun i => if i < 16 then sm_ob M (8 * t + i) else sm_ob M (8 * t + 15)) 0 k) (sm_fill (sm_fw G) (fun i => if i < 16 then sm_ol M (8 * t + i) else sm_ol M (8 * t + 15)) 0 k))) 32 (fun H locs ls hl hP hD hS => ?_) (fun k hk ih H locs ls hl hP hD hS => ?_) (lv_sub hl [1, 2, 3, 4, 5, 0] rfl) (sm_cP (by simp only [sm_fill0]) hP) (sm_cD (by simp only [sm_fill0]) hD) hS
  · have hl : lv_has ls 8 [(0, .ref m0), (1, .int (nI r)), (2, .int (nI t)), (3, .int 2), (4, .int (sm_bI true)), (5, .int (nI 32))] := hl
    have hP : va_P D vwCl (sm_wM cZ m0 m1 m2 m3 m4 m5 m6 0 (sm_fb V) (sm_fb S) (sm_fo M) (sm_fl M) (sm_fill (sm_fw O) (fun i => if i < 16 then sm_ob M (8 * t + i) else sm_ob M (8 * t + 15)) 0 32) (sm_fill (sm_fw G) (fun i => if i < 16 then sm_ol M (8 * t + i) else sm_ol M (8 * t + 15)) 0 32)) H := hP
    have hD : va_D _ (sm_wM cZ m0 m1 m2 m3 m4 m5 m6 0 (sm_fb V) (sm_fb S) (sm_fo M) (sm_fl M) (sm_fill (sm_fw O) (fun i => if i < 16 then sm_ob M (8 * t + i) else sm_ob M (8 * t + 15)) 0 32) (sm_fill (sm_fw G) (fun i => if i < 16 then sm_ol M (8 * t + i) else sm_ol M (8 * t + 15)) 0 32)) := hD
    refine lv_iload hx hb dX1_load_50 (lv_at hl 5 rfl) ?_
    refine lv_bipush (v := 32) hx hb dX1_load_52 (by decide) ?_
    refine lv_icmp_ge (tgt := 170) hx hb dX1_load_54 rfl (fun _ => ?_) (fun z => absurd (by decide) z)
    have hP : va_P D vwCl (sm_wM cZ m0 m1 m2 m3 m4 m5 m6 0 (sm_fb V) (sm_fb S) (sm_fo M) (sm_fl M) (sm_fw (((sm_lv (fun j => M (t + j) &&& 255) 2) <<< (nI 16 &&& 31)) >>> (nI 16 &&& 31))) (sm_fw (((sm_lv (fun j => sm_ushr (M (t + j)) 8) 2) <<< (nI 16 &&& 31)) >>> (nI 16 &&& 31)))) H := sm_cP (by rw [sm_fill_w, sm_fill_w, sm_mkx (x := ((sm_lv (fun j => M (t + j) &&& 255) 2) <<< (nI 16 &&& 31)) >>> (nI 16 &&& 31)) (sm_ldOs M t 2 (by decide) (by decide)), sm_mkx (x := ((sm_lv (fun j => sm_ushr (M (t + j)) 8) 2) <<< (nI 16 &&& 31)) >>> (nI 16 &&& 31)) (sm_ldGs M hM t 2 (by decide) (by decide))]) hP
    have hD : va_D _ (sm_wM cZ m0 m1 m2 m3 m4 m5 m6 0 (sm_fb V) (sm_fb S) (sm_fo M) (sm_fl M) (sm_fw (((sm_lv (fun j => M (t + j) &&& 255) 2) <<< (nI 16 &&& 31)) >>> (nI 16 &&& 31))) (sm_fw (((sm_lv (fun j => sm_ushr (M (t + j)) 8) 2) <<< (nI 16 &&& 31)) >>> (nI 16 &&& 31)))) := sm_cD (by rw [sm_fill_w, sm_fill_w, sm_mkx (x := ((sm_lv (fun j => M (t + j) &&& 255) 2) <<< (nI 16 &&& 31)) >>> (nI 16 &&& 31)) (sm_ldOs M t 2 (by decide) (by decide)), sm_mkx (x := ((sm_lv (fun j => sm_ushr (M (t + j)) 8) 2) <<< (nI 16 &&& 31)) >>> (nI 16 &&& 31)) (sm_ldGs M hM t 2 (by decide) (by decide))]) hD
    refine lv_aload_n hx hb dX1_load_170 rfl (lv_at hl 0 rfl) ?_
    refine lv_iload_n hx hb dX1_load_171 rfl (lv_at hl 1 rfl) ?_
    refine sm_callV (C := RX1) (As := [.int (nI r)]) (rest := []) (wr := []) (wn := (sm_wM cZ m0 m1 m2 m3 m4 m5 m6 0 (sm_fb (upd V r (((sm_lv (fun j => M (t + j) &&& 255) 2) <<< (nI 16 &&& 31)) >>> (nI 16 &&& 31)))) (sm_fb (upd S r (((sm_lv (fun j => sm_ushr (M (t + j)) 8) 2) <<< (nI 16 &&& 31)) >>> (nI 16 &&& 31)))) (sm_fo M) (sm_fl M) (sm_fw (((sm_lv (fun j => M (t + j) &&& 255) 2) <<< (nI 16 &&& 31)) >>> (nI 16 &&& 31))) (sm_fw (((sm_lv (fun j => sm_ushr (M (t + j)) 8) 2) <<< (nI 16 &&& 31)) >>> (nI 16 &&& 31))))) (st1 := []) ⟨hx, hb, hml, hown, hts⟩ (c_give l D cZ m0 m1 m2 m3 m4 m5 m6 0 V S M (((sm_lv (fun j => M (t + j) &&& 255) 2) <<< (nI 16 &&& 31)) >>> (nI 16 &&& 31)) (((sm_lv (fun j => sm_ushr (M (t + j)) 8) 2) <<< (nI 16 &&& 31)) >>> (nI 16 &&& 31)) r (by omega)) (cwV 1 hts (sm_gV (i1 := 272) (i2 := 273) (i3 := 350) (i4 := 2) (i5 := 274) rfl rfl rfl rfl rfl) rfl rfl rfl (by decide +kernel) ⟨Nat.le_of_ble_eq_true rfl, Nat.le_of_ble_eq_true rfl⟩) hK [0] rfl hP hD hS hA 0 rfl rfl [0, 1, 2, 3, 4, 5, 6] [] rfl rfl (by decide) (by decide) (by decide) rfl hl.1 rfl (Nat.le_of_ble_eq_true rfl) dX1_load_172 ⟨Nat.le_of_ble_eq_true rfl, Nat.le_of_ble_eq_true rfl⟩ rfl rfl (fun H locs hP hD hS => ?_)
    exact sm_vret hx hb hrt hlocks hS hP hD dX1_load_175
  · have hl : lv_has ls 8 [(0, .ref m0), (1, .int (nI r)), (2, .int (nI t)), (3, .int 2), (4, .int (sm_bI true)), (5, .int (nI k))] := hl
    have hP : va_P D vwCl (sm_wM cZ m0 m1 m2 m3 m4 m5 m6 0 (sm_fb V) (sm_fb S) (sm_fo M) (sm_fl M) (sm_fill (sm_fw O) (fun i => if i < 16 then sm_ob M (8 * t + i) else sm_ob M (8 * t + 15)) 0 k) (sm_fill (sm_fw G) (fun i => if i < 16 then sm_ol M (8 * t + i) else sm_ol M (8 * t + 15)) 0 k)) H := hP
    have hD : va_D _ (sm_wM cZ m0 m1 m2 m3 m4 m5 m6 0 (sm_fb V) (sm_fb S) (sm_fo M) (sm_fl M) (sm_fill (sm_fw O) (fun i => if i < 16 then sm_ob M (8 * t + i) else sm_ob M (8 * t + 15)) 0 k) (sm_fill (sm_fw G) (fun i => if i < 16 then sm_ol M (8 * t + i) else sm_ol M (8 * t + 15)) 0 k)) := hD
    refine lv_iload hx hb dX1_load_50 (lv_at hl 5 rfl) ?_
    refine lv_bipush (v := 32) hx hb dX1_load_52 (by decide) ?_
    refine lv_icmp_ge (tgt := 170) hx hb dX1_load_54 rfl (fun z => absurd z (nI_ge (b := 32) hk (by decide))) (fun _ => ?_)
    rcases Nat.lt_or_ge k 16 with hkn | hkn
    · refine lv_iload hx hb dX1_load_57 (lv_at hl 5 rfl) ?_
      refine lv_bipush (v := 8) hx hb dX1_load_59 (by decide) ?_
      refine lv_iload_n hx hb dX1_load_61 rfl (lv_at hl 3 rfl) ?_
      refine lv_imul hx hb dX1_load_62 ?_
      refine sm_eqi (y := 16) (by decide) ?_
      refine lv_icmp_ge (tgt := 71) hx hb dX1_load_63 rfl (fun z => absurd z (nI_ge (b := 16) hkn (by decide))) (fun _ => ?_)
      refine lv_iload hx hb dX1_load_66 (lv_at hl 5 rfl) ?_
      refine lv_goto (tgt := 77) hx hb dX1_load_68 rfl ?_
      refine lv_istore (lv' := [(6, .int (nI k)), (0, .ref m0), (1, .int (nI r)), (2, .int (nI t)), (3, .int 2), (4, .int (sm_bI true)), (5, .int (nI k))]) hx hb dX1_load_77 hl (by decide) rfl (fun ls hl => ?_)
      refine lv_iload hx hb dX1_load_79 (lv_at hl 6 rfl) ?_
      refine lv_bipush (v := 8) hx hb dX1_load_81 (by decide) ?_
      refine lv_iload_n hx hb dX1_load_83 rfl (lv_at hl 4 rfl) ?_
      refine lv_imul hx hb dX1_load_84 ?_
      refine sm_eqi (y := 16) (by decide) ?_
      refine lv_icmp_lt (tgt := 93) hx hb dX1_load_85 rfl (fun _ => ?_) (fun z => absurd (nI_lt (b := 16) hkn (by decide)) z)
      refine lv_iconst (v := 1) hx hb dX1_load_93 (by decide) ?_
      refine lv_goto (tgt := 98) hx hb dX1_load_94 rfl ?_
      refine lv_istore (lv' := [(7, .int 1), (6, .int (nI k)), (0, .ref m0), (1, .int (nI r)), (2, .int (nI t)), (3, .int 2), (4, .int (sm_bI true)), (5, .int (nI k))]) hx hb dX1_load_98 hl (by decide) rfl (fun ls hl => ?_)
      refine lv_aload_n hx hb dX1_load_100 rfl (lv_at hl 2 rfl) ?_
      refine va_get (D := D) (ci := 1) (v := .ref m5) (C := RX1) (T := TX1) (N := 7) hx hb hts inX1 hown hK hP 0 rfl rfl 5 (by decide) (hw 237 rfl) (fun _ h9 => h9) rfl dX1_load_101 ?_
      refine lv_iload hx hb dX1_load_104 (lv_at hl 7 rfl) ?_
      refine lv_iload hx hb dX1_load_106 (lv_at hl 0 rfl) ?_
      refine lv_if_eq (tgt := 130) hx hb dX1_load_108 rfl (fun z => absurd z (by decide)) (fun _ => ?_)
      refine lv_aload_n hx hb dX1_load_111 rfl (lv_at hl 2 rfl) ?_
      refine va_get (D := D) (ci := 1) (v := .ref m3) (C := RX1) (T := TX1) (N := 7) hx hb hts inX1 hown hK hP 0 rfl rfl 3 (by decide) (hw 235 rfl) (fun _ h9 => h9) rfl dX1_load_112 ?_
      refine lv_bipush (v := 8) hx hb dX1_load_115 (by decide) ?_
      refine lv_iload_n hx hb dX1_load_117 rfl (lv_at hl 4 rfl) ?_
      refine lv_imul hx hb dX1_load_118 ?_
      refine sm_eqi (y := nI (8 * t)) (pk_mul 8 t) ?_
      refine lv_iload hx hb dX1_load_119 (lv_at hl 1 rfl) ?_
      refine lv_iadd hx hb dX1_load_121 ?_
      refine sm_eqi (y := nI ((8 * t) + k)) (nI_add (8 * t) k) ?_
      refine va_zald hx hb hK hP 3 0 rfl rfl (vp_in_nI (n := (8 * t) + k) (by omega) (by decide)) dX1_load_122 ?_
      refine sm_eqi (y := sm_bI (sm_ob M (8 * t + k))) ((sm_cl _ (n := 8 * t + k) (by omega)).trans rfl) ?_
      refine sm_ifb_eq (tgt := 130) hx hb dX1_load_123 rfl (fun h123 => ?_) (fun h123 => ?_)
      · refine lv_iconst (v := 0) hx hb dX1_load_130 (by decide) ?_
        refine sm_eqi (y := sm_bI (if k < 16 then sm_ob M (8 * t + k) else sm_ob M (8 * t + 15))) (by rw [if_pos hkn]; simp [sm_bI, h123]) ?_
        refine sm_zast (f' := sm_fill (sm_fw O) (fun i => if i < 16 then sm_ob M (8 * t + i) else sm_ob M (8 * t + 15)) 0 (k + 1)) (ws' := (sm_wM cZ m0 m1 m2 m3 m4 m5 m6 0 (sm_fb V) (sm_fb S) (sm_fo M) (sm_fl M) (sm_fill (sm_fw O) (fun i => if i < 16 then sm_ob M (8 * t + i) else sm_ob M (8 * t + 15)) 0 (k + 1)) (sm_fill (sm_fw G) (fun i => if i < 16 then sm_ol M (8 * t + i) else sm_ol M (8 * t + 15)) 0 k))) hx hb hK hP hD hS 5 0 rfl rfl (vp_in_nI (n := k) (by omega) (by decide)) dX1_load_131 (by rw [nI_clamp (by omega)]; exact sm_fillS0 (sm_fw O) (fun i => if i < 16 then sm_ob M (8 * t + i) else sm_ob M (8 * t + 15)) k) rfl (fun H locs hP hD hS => ?_)
        refine lv_aload_n hx hb dX1_load_132 rfl (lv_at hl 2 rfl) ?_
        refine va_get (D := D) (ci := 1) (v := .ref m6) (C := RX1) (T := TX1) (N := 7) hx hb hts inX1 hown hK hP 0 rfl rfl 6 (by decide) (hw 238 rfl) (fun _ h9 => h9) rfl dX1_load_133 ?_
        refine lv_iload hx hb dX1_load_136 (lv_at hl 7 rfl) ?_
        refine lv_iload hx hb dX1_load_138 (lv_at hl 0 rfl) ?_
        refine lv_if_eq (tgt := 162) hx hb dX1_load_140 rfl (fun z => absurd z (by decide)) (fun _ => ?_)
        refine lv_aload_n hx hb dX1_load_143 rfl (lv_at hl 2 rfl) ?_
        refine va_get (D := D) (ci := 1) (v := .ref m4) (C := RX1) (T := TX1) (N := 7) hx hb hts inX1 hown hK hP 0 rfl rfl 4 (by decide) (hw 236 rfl) (fun _ h9 => h9) rfl dX1_load_144 ?_
        refine lv_bipush (v := 8) hx hb dX1_load_147 (by decide) ?_
        refine lv_iload_n hx hb dX1_load_149 rfl (lv_at hl 4 rfl) ?_
        refine lv_imul hx hb dX1_load_150 ?_
        refine sm_eqi (y := nI (8 * t)) (pk_mul 8 t) ?_
        refine lv_iload hx hb dX1_load_151 (lv_at hl 1 rfl) ?_
        refine lv_iadd hx hb dX1_load_153 ?_
        refine sm_eqi (y := nI ((8 * t) + k)) (nI_add (8 * t) k) ?_
        refine va_zald hx hb hK hP 4 0 rfl rfl (vp_in_nI (n := (8 * t) + k) (by omega) (by decide)) dX1_load_154 ?_
        refine sm_eqi (y := sm_bI (sm_ol M (8 * t + k))) ((sm_cl _ (n := 8 * t + k) (by omega)).trans rfl) ?_
        refine sm_ifb_eq (tgt := 162) hx hb dX1_load_155 rfl (fun h155 => ?_) (fun h155 => ?_)
        · refine lv_iconst (v := 0) hx hb dX1_load_162 (by decide) ?_
          refine sm_eqi (y := sm_bI (if k < 16 then sm_ol M (8 * t + k) else sm_ol M (8 * t + 15))) (by rw [if_pos hkn]; simp [sm_bI, h123, h155]) ?_
          refine sm_zast (f' := sm_fill (sm_fw G) (fun i => if i < 16 then sm_ol M (8 * t + i) else sm_ol M (8 * t + 15)) 0 (k + 1)) (ws' := (sm_wM cZ m0 m1 m2 m3 m4 m5 m6 0 (sm_fb V) (sm_fb S) (sm_fo M) (sm_fl M) (sm_fill (sm_fw O) (fun i => if i < 16 then sm_ob M (8 * t + i) else sm_ob M (8 * t + 15)) 0 (k + 1)) (sm_fill (sm_fw G) (fun i => if i < 16 then sm_ol M (8 * t + i) else sm_ol M (8 * t + 15)) 0 (k + 1)))) hx hb hK hP hD hS 6 0 rfl rfl (vp_in_nI (n := k) (by omega) (by decide)) dX1_load_163 (by rw [nI_clamp (by omega)]; exact sm_fillS0 (sm_fw G) (fun i => if i < 16 then sm_ol M (8 * t + i) else sm_ol M (8 * t + 15)) k) rfl (fun H locs hP hD hS => ?_)
          refine lv_iinc (k := 7) (v := nI (k + 1)) (lv' := [(5, .int (nI (k + 1))), (7, .int 1), (6, .int (nI k)), (0, .ref m0), (1, .int (nI r)), (2, .int (nI t)), (3, .int 2), (4, .int (sm_bI true))]) hx hb dX1_load_164 hl rfl (sm_inc k) (by decide) rfl (fun ls hl => ?_)
          refine lv_goto (tgt := 50) hx hb dX1_load_167 rfl ?_
          exact ih _ _ _ (lv_sub hl [3, 4, 5, 6, 7, 0] rfl) (sm_cP (rfl) hP) (sm_cD (rfl) hD) hS
        · refine lv_iconst (v := 1) hx hb dX1_load_158 (by decide) ?_
          refine lv_goto (tgt := 163) hx hb dX1_load_159 rfl ?_
          refine sm_eqi (y := sm_bI (if k < 16 then sm_ol M (8 * t + k) else sm_ol M (8 * t + 15))) (by rw [if_pos hkn]; simp [sm_bI, h123, h155]) ?_
          refine sm_zast (f' := sm_fill (sm_fw G) (fun i => if i < 16 then sm_ol M (8 * t + i) else sm_ol M (8 * t + 15)) 0 (k + 1)) (ws' := (sm_wM cZ m0 m1 m2 m3 m4 m5 m6 0 (sm_fb V) (sm_fb S) (sm_fo M) (sm_fl M) (sm_fill (sm_fw O) (fun i => if i < 16 then sm_ob M (8 * t + i) else sm_ob M (8 * t + 15)) 0 (k + 1)) (sm_fill (sm_fw G) (fun i => if i < 16 then sm_ol M (8 * t + i) else sm_ol M (8 * t + 15)) 0 (k + 1)))) hx hb hK hP hD hS 6 0 rfl rfl (vp_in_nI (n := k) (by omega) (by decide)) dX1_load_163 (by rw [nI_clamp (by omega)]; exact sm_fillS0 (sm_fw G) (fun i => if i < 16 then sm_ol M (8 * t + i) else sm_ol M (8 * t + 15)) k) rfl (fun H locs hP hD hS => ?_)
          refine lv_iinc (k := 7) (v := nI (k + 1)) (lv' := [(5, .int (nI (k + 1))), (7, .int 1), (6, .int (nI k)), (0, .ref m0), (1, .int (nI r)), (2, .int (nI t)), (3, .int 2), (4, .int (sm_bI true))]) hx hb dX1_load_164 hl rfl (sm_inc k) (by decide) rfl (fun ls hl => ?_)
          refine lv_goto (tgt := 50) hx hb dX1_load_167 rfl ?_
          exact ih _ _ _ (lv_sub hl [3, 4, 5, 6, 7, 0] rfl) (sm_cP (rfl) hP) (sm_cD (rfl) hD) hS
      · refine lv_iconst (v := 1) hx hb dX1_load_126 (by decide) ?_
        refine lv_goto (tgt := 131) hx hb dX1_load_127 rfl ?_
        refine sm_eqi (y := sm_bI (if k < 16 then sm_ob M (8 * t + k) else sm_ob M (8 * t + 15))) (by rw [if_pos hkn]; simp [sm_bI, h123]) ?_
        refine sm_zast (f' := sm_fill (sm_fw O) (fun i => if i < 16 then sm_ob M (8 * t + i) else sm_ob M (8 * t + 15)) 0 (k + 1)) (ws' := (sm_wM cZ m0 m1 m2 m3 m4 m5 m6 0 (sm_fb V) (sm_fb S) (sm_fo M) (sm_fl M) (sm_fill (sm_fw O) (fun i => if i < 16 then sm_ob M (8 * t + i) else sm_ob M (8 * t + 15)) 0 (k + 1)) (sm_fill (sm_fw G) (fun i => if i < 16 then sm_ol M (8 * t + i) else sm_ol M (8 * t + 15)) 0 k))) hx hb hK hP hD hS 5 0 rfl rfl (vp_in_nI (n := k) (by omega) (by decide)) dX1_load_131 (by rw [nI_clamp (by omega)]; exact sm_fillS0 (sm_fw O) (fun i => if i < 16 then sm_ob M (8 * t + i) else sm_ob M (8 * t + 15)) k) rfl (fun H locs hP hD hS => ?_)
        refine lv_aload_n hx hb dX1_load_132 rfl (lv_at hl 2 rfl) ?_
        refine va_get (D := D) (ci := 1) (v := .ref m6) (C := RX1) (T := TX1) (N := 7) hx hb hts inX1 hown hK hP 0 rfl rfl 6 (by decide) (hw 238 rfl) (fun _ h9 => h9) rfl dX1_load_133 ?_
        refine lv_iload hx hb dX1_load_136 (lv_at hl 7 rfl) ?_
        refine lv_iload hx hb dX1_load_138 (lv_at hl 0 rfl) ?_
        refine lv_if_eq (tgt := 162) hx hb dX1_load_140 rfl (fun z => absurd z (by decide)) (fun _ => ?_)
        refine lv_aload_n hx hb dX1_load_143 rfl (lv_at hl 2 rfl) ?_
        refine va_get (D := D) (ci := 1) (v := .ref m4) (C := RX1) (T := TX1) (N := 7) hx hb hts inX1 hown hK hP 0 rfl rfl 4 (by decide) (hw 236 rfl) (fun _ h9 => h9) rfl dX1_load_144 ?_
        refine lv_bipush (v := 8) hx hb dX1_load_147 (by decide) ?_
        refine lv_iload_n hx hb dX1_load_149 rfl (lv_at hl 4 rfl) ?_
        refine lv_imul hx hb dX1_load_150 ?_
        refine sm_eqi (y := nI (8 * t)) (pk_mul 8 t) ?_
        refine lv_iload hx hb dX1_load_151 (lv_at hl 1 rfl) ?_
        refine lv_iadd hx hb dX1_load_153 ?_
        refine sm_eqi (y := nI ((8 * t) + k)) (nI_add (8 * t) k) ?_
        refine va_zald hx hb hK hP 4 0 rfl rfl (vp_in_nI (n := (8 * t) + k) (by omega) (by decide)) dX1_load_154 ?_
        refine sm_eqi (y := sm_bI (sm_ol M (8 * t + k))) ((sm_cl _ (n := 8 * t + k) (by omega)).trans rfl) ?_
        refine sm_ifb_eq (tgt := 162) hx hb dX1_load_155 rfl (fun h155 => ?_) (fun h155 => ?_)
        · refine lv_iconst (v := 0) hx hb dX1_load_162 (by decide) ?_
          refine sm_eqi (y := sm_bI (if k < 16 then sm_ol M (8 * t + k) else sm_ol M (8 * t + 15))) (by rw [if_pos hkn]; simp [sm_bI, h123, h155]) ?_
          refine sm_zast (f' := sm_fill (sm_fw G) (fun i => if i < 16 then sm_ol M (8 * t + i) else sm_ol M (8 * t + 15)) 0 (k + 1)) (ws' := (sm_wM cZ m0 m1 m2 m3 m4 m5 m6 0 (sm_fb V) (sm_fb S) (sm_fo M) (sm_fl M) (sm_fill (sm_fw O) (fun i => if i < 16 then sm_ob M (8 * t + i) else sm_ob M (8 * t + 15)) 0 (k + 1)) (sm_fill (sm_fw G) (fun i => if i < 16 then sm_ol M (8 * t + i) else sm_ol M (8 * t + 15)) 0 (k + 1)))) hx hb hK hP hD hS 6 0 rfl rfl (vp_in_nI (n := k) (by omega) (by decide)) dX1_load_163 (by rw [nI_clamp (by omega)]; exact sm_fillS0 (sm_fw G) (fun i => if i < 16 then sm_ol M (8 * t + i) else sm_ol M (8 * t + 15)) k) rfl (fun H locs hP hD hS => ?_)
          refine lv_iinc (k := 7) (v := nI (k + 1)) (lv' := [(5, .int (nI (k + 1))), (7, .int 1), (6, .int (nI k)), (0, .ref m0), (1, .int (nI r)), (2, .int (nI t)), (3, .int 2), (4, .int (sm_bI true))]) hx hb dX1_load_164 hl rfl (sm_inc k) (by decide) rfl (fun ls hl => ?_)
          refine lv_goto (tgt := 50) hx hb dX1_load_167 rfl ?_
          exact ih _ _ _ (lv_sub hl [3, 4, 5, 6, 7, 0] rfl) (sm_cP (rfl) hP) (sm_cD (rfl) hD) hS
        · refine lv_iconst (v := 1) hx hb dX1_load_158 (by decide) ?_
          refine lv_goto (tgt := 163) hx hb dX1_load_159 rfl ?_
          refine sm_eqi (y := sm_bI (if k < 16 then sm_ol M (8 * t + k) else sm_ol M (8 * t + 15))) (by rw [if_pos hkn]; simp [sm_bI, h123, h155]) ?_
          refine sm_zast (f' := sm_fill (sm_fw G) (fun i => if i < 16 then sm_ol M (8 * t + i) else sm_ol M (8 * t + 15)) 0 (k + 1)) (ws' := (sm_wM cZ m0 m1 m2 m3 m4 m5 m6 0 (sm_fb V) (sm_fb S) (sm_fo M) (sm_fl M) (sm_fill (sm_fw O) (fun i => if i < 16 then sm_ob M (8 * t + i) else sm_ob M (8 * t + 15)) 0 (k + 1)) (sm_fill (sm_fw G) (fun i => if i < 16 then sm_ol M (8 * t + i) else sm_ol M (8 * t + 15)) 0 (k + 1)))) hx hb hK hP hD hS 6 0 rfl rfl (vp_in_nI (n := k) (by omega) (by decide)) dX1_load_163 (by rw [nI_clamp (by omega)]; exact sm_fillS0 (sm_fw G) (fun i => if i < 16 then sm_ol M (8 * t + i) else sm_ol M (8 * t + 15)) k) rfl (fun H locs hP hD hS => ?_)
          refine lv_iinc (k := 7) (v := nI (k + 1)) (lv' := [(5, .int (nI (k + 1))), (7, .int 1), (6, .int (nI k)), (0, .ref m0), (1, .int (nI r)), (2, .int (nI t)), (3, .int 2), (4, .int (sm_bI true))]) hx hb dX1_load_164 hl rfl (sm_inc k) (by decide) rfl (fun ls hl => ?_)
          refine lv_goto (tgt := 50) hx hb dX1_load_167 rfl ?_
          exact ih _ _ _ (lv_sub hl [3, 4, 5, 6, 7, 0] rfl) (sm_cP (rfl) hP) (sm_cD (rfl) hD) hS
    · refine lv_iload hx hb dX1_load_57 (lv_at hl 5 rfl) ?_
      refine lv_bipush (v := 8) hx hb dX1_load_59 (by decide) ?_
      refine lv_iload_n hx hb dX1_load_61 rfl (lv_at hl 3 rfl) ?_
      refine lv_imul hx hb dX1_load_62 ?_
      refine sm_eqi (y := 16) (by decide) ?_
      refine lv_icmp_ge (tgt := 71) hx hb dX1_load_63 rfl (fun _ => ?_) (fun z => absurd (nI_le (a := 16) hkn (by omega)) z)
      refine lv_bipush (v := 8) hx hb dX1_load_71 (by decide) ?_
      refine lv_iload_n hx hb dX1_load_73 rfl (lv_at hl 3 rfl) ?_
      refine lv_imul hx hb dX1_load_74 ?_
      refine sm_eqi (y := 16) (by decide) ?_
      refine lv_iconst (v := 1) hx hb dX1_load_75 (by decide) ?_
      refine lv_isub hx hb dX1_load_76 ?_
      refine sm_eqi (y := 15) (by decide) ?_
      refine lv_istore (lv' := [(6, .int 15), (0, .ref m0), (1, .int (nI r)), (2, .int (nI t)), (3, .int 2), (4, .int (sm_bI true)), (5, .int (nI k))]) hx hb dX1_load_77 hl (by decide) rfl (fun ls hl => ?_)
      refine lv_iload hx hb dX1_load_79 (lv_at hl 6 rfl) ?_
      refine lv_bipush (v := 8) hx hb dX1_load_81 (by decide) ?_
      refine lv_iload_n hx hb dX1_load_83 rfl (lv_at hl 4 rfl) ?_
      refine lv_imul hx hb dX1_load_84 ?_
      refine sm_eqi (y := 16) (by decide) ?_
      refine lv_icmp_lt (tgt := 93) hx hb dX1_load_85 rfl (fun z => absurd z (nI_nlt (b := 16) hkn (by omega))) (fun _ => ?_)
      refine lv_iload hx hb dX1_load_88 (lv_at hl 5 rfl) ?_
      refine lv_if_eq (tgt := 97) hx hb dX1_load_90 rfl (fun z => absurd z (by decide)) (fun _ => ?_)
      refine lv_iconst (v := 1) hx hb dX1_load_93 (by decide) ?_
      refine lv_goto (tgt := 98) hx hb dX1_load_94 rfl ?_
      refine lv_istore (lv' := [(7, .int 1), (6, .int 15), (0, .ref m0), (1, .int (nI r)), (2, .int (nI t)), (3, .int 2), (4, .int (sm_bI true)), (5, .int (nI k))]) hx hb dX1_load_98 hl (by decide) rfl (fun ls hl => ?_)
      refine lv_aload_n hx hb dX1_load_100 rfl (lv_at hl 2 rfl) ?_
      refine va_get (D := D) (ci := 1) (v := .ref m5) (C := RX1) (T := TX1) (N := 7) hx hb hts inX1 hown hK hP 0 rfl rfl 5 (by decide) (hw 237 rfl) (fun _ h9 => h9) rfl dX1_load_101 ?_
      refine lv_iload hx hb dX1_load_104 (lv_at hl 7 rfl) ?_
      refine lv_iload hx hb dX1_load_106 (lv_at hl 0 rfl) ?_
      refine lv_if_eq (tgt := 130) hx hb dX1_load_108 rfl (fun z => absurd z (by decide)) (fun _ => ?_)
      refine lv_aload_n hx hb dX1_load_111 rfl (lv_at hl 2 rfl) ?_
      refine va_get (D := D) (ci := 1) (v := .ref m3) (C := RX1) (T := TX1) (N := 7) hx hb hts inX1 hown hK hP 0 rfl rfl 3 (by decide) (hw 235 rfl) (fun _ h9 => h9) rfl dX1_load_112 ?_
      refine lv_bipush (v := 8) hx hb dX1_load_115 (by decide) ?_
      refine lv_iload_n hx hb dX1_load_117 rfl (lv_at hl 4 rfl) ?_
      refine lv_imul hx hb dX1_load_118 ?_
      refine sm_eqi (y := nI (8 * t)) (pk_mul 8 t) ?_
      refine lv_iload hx hb dX1_load_119 (lv_at hl 1 rfl) ?_
      refine lv_iadd hx hb dX1_load_121 ?_
      refine sm_eqi (y := nI ((8 * t) + 15)) (nI_add (8 * t) 15) ?_
      refine va_zald hx hb hK hP 3 0 rfl rfl (vp_in_nI (n := (8 * t) + 15) (by omega) (by decide)) dX1_load_122 ?_
      refine sm_eqi (y := sm_bI (sm_ob M (8 * t + 15))) ((sm_cl _ (n := 8 * t + 15) (by omega)).trans rfl) ?_
      refine sm_ifb_eq (tgt := 130) hx hb dX1_load_123 rfl (fun h123 => ?_) (fun h123 => ?_)
      · refine lv_iconst (v := 0) hx hb dX1_load_130 (by decide) ?_
        refine sm_eqi (y := sm_bI (if k < 16 then sm_ob M (8 * t + k) else sm_ob M (8 * t + 15))) (by rw [if_neg (Nat.not_lt.mpr hkn)]; simp [sm_bI, h123]) ?_
        refine sm_zast (f' := sm_fill (sm_fw O) (fun i => if i < 16 then sm_ob M (8 * t + i) else sm_ob M (8 * t + 15)) 0 (k + 1)) (ws' := (sm_wM cZ m0 m1 m2 m3 m4 m5 m6 0 (sm_fb V) (sm_fb S) (sm_fo M) (sm_fl M) (sm_fill (sm_fw O) (fun i => if i < 16 then sm_ob M (8 * t + i) else sm_ob M (8 * t + 15)) 0 (k + 1)) (sm_fill (sm_fw G) (fun i => if i < 16 then sm_ol M (8 * t + i) else sm_ol M (8 * t + 15)) 0 k))) hx hb hK hP hD hS 5 0 rfl rfl (vp_in_nI (n := k) (by omega) (by decide)) dX1_load_131 (by rw [nI_clamp (by omega)]; exact sm_fillS0 (sm_fw O) (fun i => if i < 16 then sm_ob M (8 * t + i) else sm_ob M (8 * t + 15)) k) rfl (fun H locs hP hD hS => ?_)
        refine lv_aload_n hx hb dX1_load_132 rfl (lv_at hl 2 rfl) ?_
        refine va_get (D := D) (ci := 1) (v := .ref m6) (C := RX1) (T := TX1) (N := 7) hx hb hts inX1 hown hK hP 0 rfl rfl 6 (by decide) (hw 238 rfl) (fun _ h9 => h9) rfl dX1_load_133 ?_
        refine lv_iload hx hb dX1_load_136 (lv_at hl 7 rfl) ?_
        refine lv_iload hx hb dX1_load_138 (lv_at hl 0 rfl) ?_
        refine lv_if_eq (tgt := 162) hx hb dX1_load_140 rfl (fun z => absurd z (by decide)) (fun _ => ?_)
        refine lv_aload_n hx hb dX1_load_143 rfl (lv_at hl 2 rfl) ?_
        refine va_get (D := D) (ci := 1) (v := .ref m4) (C := RX1) (T := TX1) (N := 7) hx hb hts inX1 hown hK hP 0 rfl rfl 4 (by decide) (hw 236 rfl) (fun _ h9 => h9) rfl dX1_load_144 ?_
        refine lv_bipush (v := 8) hx hb dX1_load_147 (by decide) ?_
        refine lv_iload_n hx hb dX1_load_149 rfl (lv_at hl 4 rfl) ?_
        refine lv_imul hx hb dX1_load_150 ?_
        refine sm_eqi (y := nI (8 * t)) (pk_mul 8 t) ?_
        refine lv_iload hx hb dX1_load_151 (lv_at hl 1 rfl) ?_
        refine lv_iadd hx hb dX1_load_153 ?_
        refine sm_eqi (y := nI ((8 * t) + 15)) (nI_add (8 * t) 15) ?_
        refine va_zald hx hb hK hP 4 0 rfl rfl (vp_in_nI (n := (8 * t) + 15) (by omega) (by decide)) dX1_load_154 ?_
        refine sm_eqi (y := sm_bI (sm_ol M (8 * t + 15))) ((sm_cl _ (n := 8 * t + 15) (by omega)).trans rfl) ?_
        refine sm_ifb_eq (tgt := 162) hx hb dX1_load_155 rfl (fun h155 => ?_) (fun h155 => ?_)
        · refine lv_iconst (v := 0) hx hb dX1_load_162 (by decide) ?_
          refine sm_eqi (y := sm_bI (if k < 16 then sm_ol M (8 * t + k) else sm_ol M (8 * t + 15))) (by rw [if_neg (Nat.not_lt.mpr hkn)]; simp [sm_bI, h123, h155]) ?_
          refine sm_zast (f' := sm_fill (sm_fw G) (fun i => if i < 16 then sm_ol M (8 * t + i) else sm_ol M (8 * t + 15)) 0 (k + 1)) (ws' := (sm_wM cZ m0 m1 m2 m3 m4 m5 m6 0 (sm_fb V) (sm_fb S) (sm_fo M) (sm_fl M) (sm_fill (sm_fw O) (fun i => if i < 16 then sm_ob M (8 * t + i) else sm_ob M (8 * t + 15)) 0 (k + 1)) (sm_fill (sm_fw G) (fun i => if i < 16 then sm_ol M (8 * t + i) else sm_ol M (8 * t + 15)) 0 (k + 1)))) hx hb hK hP hD hS 6 0 rfl rfl (vp_in_nI (n := k) (by omega) (by decide)) dX1_load_163 (by rw [nI_clamp (by omega)]; exact sm_fillS0 (sm_fw G) (fun i => if i < 16 then sm_ol M (8 * t + i) else sm_ol M (8 * t + 15)) k) rfl (fun H locs hP hD hS => ?_)
          refine lv_iinc (k := 7) (v := nI (k + 1)) (lv' := [(5, .int (nI (k + 1))), (7, .int 1), (6, .int 15), (0, .ref m0), (1, .int (nI r)), (2, .int (nI t)), (3, .int 2), (4, .int (sm_bI true))]) hx hb dX1_load_164 hl rfl (sm_inc k) (by decide) rfl (fun ls hl => ?_)
          refine lv_goto (tgt := 50) hx hb dX1_load_167 rfl ?_
          exact ih _ _ _ (lv_sub hl [3, 4, 5, 6, 7, 0] rfl) (sm_cP (rfl) hP) (sm_cD (rfl) hD) hS
        · refine lv_iconst (v := 1) hx hb dX1_load_158 (by decide) ?_
          refine lv_goto (tgt := 163) hx hb dX1_load_159 rfl ?_
          refine sm_eqi (y := sm_bI (if k < 16 then sm_ol M (8 * t + k) else sm_ol M (8 * t + 15))) (by rw [if_neg (Nat.not_lt.mpr hkn)]; simp [sm_bI, h123, h155]) ?_
          refine sm_zast (f' := sm_fill (sm_fw G) (fun i => if i < 16 then sm_ol M (8 * t + i) else sm_ol M (8 * t + 15)) 0 (k + 1)) (ws' := (sm_wM cZ m0 m1 m2 m3 m4 m5 m6 0 (sm_fb V) (sm_fb S) (sm_fo M) (sm_fl M) (sm_fill (sm_fw O) (fun i => if i < 16 then sm_ob M (8 * t + i) else sm_ob M (8 * t + 15)) 0 (k + 1)) (sm_fill (sm_fw G) (fun i => if i < 16 then sm_ol M (8 * t + i) else sm_ol M (8 * t + 15)) 0 (k + 1)))) hx hb hK hP hD hS 6 0 rfl rfl (vp_in_nI (n := k) (by omega) (by decide)) dX1_load_163 (by rw [nI_clamp (by omega)]; exact sm_fillS0 (sm_fw G) (fun i => if i < 16 then sm_ol M (8 * t + i) else sm_ol M (8 * t + 15)) k) rfl (fun H locs hP hD hS => ?_)
          refine lv_iinc (k := 7) (v := nI (k + 1)) (lv' := [(5, .int (nI (k + 1))), (7, .int 1), (6, .int 15), (0, .ref m0), (1, .int (nI r)), (2, .int (nI t)), (3, .int 2), (4, .int (sm_bI true))]) hx hb dX1_load_164 hl rfl (sm_inc k) (by decide) rfl (fun ls hl => ?_)
          refine lv_goto (tgt := 50) hx hb dX1_load_167 rfl ?_
          exact ih _ _ _ (lv_sub hl [3, 4, 5, 6, 7, 0] rfl) (sm_cP (rfl) hP) (sm_cD (rfl) hD) hS
      · refine lv_iconst (v := 1) hx hb dX1_load_126 (by decide) ?_
        refine lv_goto (tgt := 131) hx hb dX1_load_127 rfl ?_
        refine sm_eqi (y := sm_bI (if k < 16 then sm_ob M (8 * t + k) else sm_ob M (8 * t + 15))) (by rw [if_neg (Nat.not_lt.mpr hkn)]; simp [sm_bI, h123]) ?_
        refine sm_zast (f' := sm_fill (sm_fw O) (fun i => if i < 16 then sm_ob M (8 * t + i) else sm_ob M (8 * t + 15)) 0 (k + 1)) (ws' := (sm_wM cZ m0 m1 m2 m3 m4 m5 m6 0 (sm_fb V) (sm_fb S) (sm_fo M) (sm_fl M) (sm_fill (sm_fw O) (fun i => if i < 16 then sm_ob M (8 * t + i) else sm_ob M (8 * t + 15)) 0 (k + 1)) (sm_fill (sm_fw G) (fun i => if i < 16 then sm_ol M (8 * t + i) else sm_ol M (8 * t + 15)) 0 k))) hx hb hK hP hD hS 5 0 rfl rfl (vp_in_nI (n := k) (by omega) (by decide)) dX1_load_131 (by rw [nI_clamp (by omega)]; exact sm_fillS0 (sm_fw O) (fun i => if i < 16 then sm_ob M (8 * t + i) else sm_ob M (8 * t + 15)) k) rfl (fun H locs hP hD hS => ?_)
        refine lv_aload_n hx hb dX1_load_132 rfl (lv_at hl 2 rfl) ?_
        refine va_get (D := D) (ci := 1) (v := .ref m6) (C := RX1) (T := TX1) (N := 7) hx hb hts inX1 hown hK hP 0 rfl rfl 6 (by decide) (hw 238 rfl) (fun _ h9 => h9) rfl dX1_load_133 ?_
        refine lv_iload hx hb dX1_load_136 (lv_at hl 7 rfl) ?_
        refine lv_iload hx hb dX1_load_138 (lv_at hl 0 rfl) ?_
        refine lv_if_eq (tgt := 162) hx hb dX1_load_140 rfl (fun z => absurd z (by decide)) (fun _ => ?_)
        refine lv_aload_n hx hb dX1_load_143 rfl (lv_at hl 2 rfl) ?_
        refine va_get (D := D) (ci := 1) (v := .ref m4) (C := RX1) (T := TX1) (N := 7) hx hb hts inX1 hown hK hP 0 rfl rfl 4 (by decide) (hw 236 rfl) (fun _ h9 => h9) rfl dX1_load_144 ?_
        refine lv_bipush (v := 8) hx hb dX1_load_147 (by decide) ?_
        refine lv_iload_n hx hb dX1_load_149 rfl (lv_at hl 4 rfl) ?_
        refine lv_imul hx hb dX1_load_150 ?_
        refine sm_eqi (y := nI (8 * t)) (pk_mul 8 t) ?_
        refine lv_iload hx hb dX1_load_151 (lv_at hl 1 rfl) ?_
        refine lv_iadd hx hb dX1_load_153 ?_
        refine sm_eqi (y := nI ((8 * t) + 15)) (nI_add (8 * t) 15) ?_
        refine va_zald hx hb hK hP 4 0 rfl rfl (vp_in_nI (n := (8 * t) + 15) (by omega) (by decide)) dX1_load_154 ?_
        refine sm_eqi (y := sm_bI (sm_ol M (8 * t + 15))) ((sm_cl _ (n := 8 * t + 15) (by omega)).trans rfl) ?_
        refine sm_ifb_eq (tgt := 162) hx hb dX1_load_155 rfl (fun h155 => ?_) (fun h155 => ?_)
        · refine lv_iconst (v := 0) hx hb dX1_load_162 (by decide) ?_
          refine sm_eqi (y := sm_bI (if k < 16 then sm_ol M (8 * t + k) else sm_ol M (8 * t + 15))) (by rw [if_neg (Nat.not_lt.mpr hkn)]; simp [sm_bI, h123, h155]) ?_
          refine sm_zast (f' := sm_fill (sm_fw G) (fun i => if i < 16 then sm_ol M (8 * t + i) else sm_ol M (8 * t + 15)) 0 (k + 1)) (ws' := (sm_wM cZ m0 m1 m2 m3 m4 m5 m6 0 (sm_fb V) (sm_fb S) (sm_fo M) (sm_fl M) (sm_fill (sm_fw O) (fun i => if i < 16 then sm_ob M (8 * t + i) else sm_ob M (8 * t + 15)) 0 (k + 1)) (sm_fill (sm_fw G) (fun i => if i < 16 then sm_ol M (8 * t + i) else sm_ol M (8 * t + 15)) 0 (k + 1)))) hx hb hK hP hD hS 6 0 rfl rfl (vp_in_nI (n := k) (by omega) (by decide)) dX1_load_163 (by rw [nI_clamp (by omega)]; exact sm_fillS0 (sm_fw G) (fun i => if i < 16 then sm_ol M (8 * t + i) else sm_ol M (8 * t + 15)) k) rfl (fun H locs hP hD hS => ?_)
          refine lv_iinc (k := 7) (v := nI (k + 1)) (lv' := [(5, .int (nI (k + 1))), (7, .int 1), (6, .int 15), (0, .ref m0), (1, .int (nI r)), (2, .int (nI t)), (3, .int 2), (4, .int (sm_bI true))]) hx hb dX1_load_164 hl rfl (sm_inc k) (by decide) rfl (fun ls hl => ?_)
          refine lv_goto (tgt := 50) hx hb dX1_load_167 rfl ?_
          exact ih _ _ _ (lv_sub hl [3, 4, 5, 6, 7, 0] rfl) (sm_cP (rfl) hP) (sm_cD (rfl) hD) hS
        · refine lv_iconst (v := 1) hx hb dX1_load_158 (by decide) ?_
          refine lv_goto (tgt := 163) hx hb dX1_load_159 rfl ?_
          refine sm_eqi (y := sm_bI (if k < 16 then sm_ol M (8 * t + k) else sm_ol M (8 * t + 15))) (by rw [if_neg (Nat.not_lt.mpr hkn)]; simp [sm_bI, h123, h155]) ?_
          refine sm_zast (f' := sm_fill (sm_fw G) (fun i => if i < 16 then sm_ol M (8 * t + i) else sm_ol M (8 * t + 15)) 0 (k + 1)) (ws' := (sm_wM cZ m0 m1 m2 m3 m4 m5 m6 0 (sm_fb V) (sm_fb S) (sm_fo M) (sm_fl M) (sm_fill (sm_fw O) (fun i => if i < 16 then sm_ob M (8 * t + i) else sm_ob M (8 * t + 15)) 0 (k + 1)) (sm_fill (sm_fw G) (fun i => if i < 16 then sm_ol M (8 * t + i) else sm_ol M (8 * t + 15)) 0 (k + 1)))) hx hb hK hP hD hS 6 0 rfl rfl (vp_in_nI (n := k) (by omega) (by decide)) dX1_load_163 (by rw [nI_clamp (by omega)]; exact sm_fillS0 (sm_fw G) (fun i => if i < 16 then sm_ol M (8 * t + i) else sm_ol M (8 * t + 15)) k) rfl (fun H locs hP hD hS => ?_)
          refine lv_iinc (k := 7) (v := nI (k + 1)) (lv' := [(5, .int (nI (k + 1))), (7, .int 1), (6, .int 15), (0, .ref m0), (1, .int (nI r)), (2, .int (nI t)), (3, .int 2), (4, .int (sm_bI true))]) hx hb dX1_load_164 hl rfl (sm_inc k) (by decide) rfl (fun ls hl => ?_)
          refine lv_goto (tgt := 50) hx hb dX1_load_167 rfl ?_
          exact ih _ _ _ (lv_sub hl [3, 4, 5, 6, 7, 0] rfl) (sm_cP (rfl) hP) (sm_cD (rfl) hD) hS
set_option maxHeartbeats 4000000 in
set_option maxRecDepth 100000 in
theorem c_mload_2_f (l : Launch) (D : va_G) (cZ : ClassId) (m0 m1 m2 m3 m4 m5 m6 : Nat) (err : Int32) (V S M : Nat → Int32) (O G : Int32) (r t : Nat) (hr : r < 16) (ht : t + 2 ≤ 256) (hM : ∀ a, M a = M a &&& 65535) : sm_C l yX1_load wsX1_load ({ frames := 5, cells := 0, slots := 0, locals := 140 } : Room) D vwCl [(cZ, .boolean)] [.ref m0, .int (nI r), .int (nI t), .int 2, .int (sm_bI false)] (sm_wM cZ m0 m1 m2 m3 m4 m5 m6 err (sm_fb V) (sm_fb S) (sm_fo M) (sm_fl M) (sm_fw O) (sm_fw G)) none (sm_wM cZ m0 m1 m2 m3 m4 m5 m6 0 (sm_fb (upd V r (sm_ushr ((sm_lv (fun j => M (t + j) &&& 255) 2) <<< (nI 16 &&& 31)) (nI 16)))) (sm_fb (upd S r (sm_ushr ((sm_lv (fun j => sm_ushr (M (t + j)) 8) 2) <<< (nI 16 &&& 31)) (nI 16)))) (sm_fo M) (sm_fl M) (sm_fw (sm_ushr ((sm_lv (fun j => M (t + j) &&& 255) 2) <<< (nI 16 &&& 31)) (nI 16))) (sm_fw (sm_ushr ((sm_lv (fun j => sm_ushr (M (t + j)) 8) 2) <<< (nI 16 &&& 31)) (nI 16)))) := by
  refine sm_start (cc := cX1_load) (maxL := 8) (ret := none) (lv := [(0, .ref m0), (1, .int (nI r)), (2, .int (nI t)), (3, .int 2), (4, .int (sm_bI false))]) (by decide) rfl (Nat.le_of_ble_eq_true rfl) rfl ?_
  intro p e s m below meth c hx hb hrt hts hown hlocks hml hin hK hP hD hS hA ls hl
  have hw := sm_hw hts
  refine lv_aload_n hx hb dX1_load_0 rfl (lv_at hl 0 rfl) ?_
  refine lv_iload_n hx hb dX1_load_1 rfl (lv_at hl 3 rfl) ?_
  refine sm_callS (As := [.int 2]) (rest := [.ref m0]) (wr := (sm_wM cZ m0 m1 m2 m3 m4 m5 m6 err (sm_fb V) (sm_fb S) (sm_fo M) (sm_fl M) (sm_fw O) (sm_fw G))) (wn := (sm_wM cZ m0 m1 m2 m3 m4 m5 m6 err (sm_fb V) (sm_fb S) (sm_fo M) (sm_fl M) (sm_fw O) (sm_fw G))) (st1 := [.int (sm_bI false), .ref m0]) ⟨hx, hb, hml, hown, hts⟩ (c_wrong_2 l D) (va_cwS 1 hts (sm_gS (i1 := 311) (i2 := 312) (i4 := 2) (i5 := 313) rfl rfl rfl rfl) rfl rfl rfl (by decide +kernel) ⟨Nat.le_of_ble_eq_true rfl, Nat.le_of_ble_eq_true rfl⟩) hK [] rfl hP hD hS hA [] [0, 1, 2, 3, 4, 5, 6] rfl rfl (by decide) (by decide) (by decide) rfl hl.1 rfl (Nat.le_of_ble_eq_true rfl) dX1_load_2 ⟨Nat.le_of_ble_eq_true rfl, Nat.le_of_ble_eq_true rfl⟩ rfl rfl (fun H locs hP hD hS => ?_)
  refine lv_iconst (v := 1) hx hb dX1_load_5 (by decide) ?_
  refine sm_callV (C := RX1) (As := [.int (sm_bI false), .int 1]) (rest := []) (wr := []) (wn := (sm_wM cZ m0 m1 m2 m3 m4 m5 m6 0 (sm_fb V) (sm_fb S) (sm_fo M) (sm_fl M) (sm_fw O) (sm_fw G))) (st1 := [.int (sm_bI false)]) ⟨hx, hb, hml, hown, hts⟩ (c_fails_f l D cZ m0 m1 m2 m3 m4 m5 m6 err V S M O G 1) (cwV 2 hts (sm_gV (i1 := 266) (i2 := 267) (i3 := 348) (i4 := 2) (i5 := 268) rfl rfl rfl rfl rfl) rfl rfl rfl (by decide +kernel) ⟨Nat.le_of_ble_eq_true rfl, Nat.le_of_ble_eq_true rfl⟩) hK [0] rfl hP hD hS hA 0 rfl rfl [0, 1, 2, 3, 4, 5, 6] [] rfl rfl (by decide) (by decide) (by decide) rfl hl.1 rfl (Nat.le_of_ble_eq_true rfl) dX1_load_6 ⟨Nat.le_of_ble_eq_true rfl, Nat.le_of_ble_eq_true rfl⟩ rfl rfl (fun H locs hP hD hS => ?_)
  refine lv_if_eq (tgt := 13) hx hb dX1_load_9 rfl (fun _ => ?_) (fun z => absurd (by decide) z)
  refine lv_aload_n hx hb dX1_load_13 rfl (lv_at hl 0 rfl) ?_
  refine lv_iload_n hx hb dX1_load_14 rfl (lv_at hl 1 rfl) ?_
  refine sm_callS (As := [.int (nI r)]) (rest := [.ref m0]) (wr := (sm_wM cZ m0 m1 m2 m3 m4 m5 m6 0 (sm_fb V) (sm_fb S) (sm_fo M) (sm_fl M) (sm_fw O) (sm_fw G))) (wn := (sm_wM cZ m0 m1 m2 m3 m4 m5 m6 0 (sm_fb V) (sm_fb S) (sm_fo M) (sm_fl M) (sm_fw O) (sm_fw G))) (st1 := [.int (sm_bI false), .ref m0]) ⟨hx, hb, hml, hown, hts⟩ (c_none_f l D r (by omega)) (va_cwS 1 hts (sm_gS (i1 := 263) (i2 := 264) (i4 := 2) (i5 := 265) rfl rfl rfl rfl) rfl rfl rfl (by decide +kernel) ⟨Nat.le_of_ble_eq_true rfl, Nat.le_of_ble_eq_true rfl⟩) hK [] rfl hP hD hS hA [] [0, 1, 2, 3, 4, 5, 6] rfl rfl (by decide) (by decide) (by decide) rfl hl.1 rfl (Nat.le_of_ble_eq_true rfl) dX1_load_15 ⟨Nat.le_of_ble_eq_true rfl, Nat.le_of_ble_eq_true rfl⟩ rfl rfl (fun H locs hP hD hS => ?_)
  refine lv_if_ne (tgt := 34) hx hb dX1_load_18 rfl (fun z => absurd (by decide) z) (fun _ => ?_)
  refine lv_iload_n hx hb dX1_load_21 rfl (lv_at hl 2 rfl) ?_
  refine lv_if_lt (tgt := 34) hx hb dX1_load_22 rfl (fun z => absurd z (nI_pos (by omega))) (fun _ => ?_)
  refine lv_iload_n hx hb dX1_load_25 rfl (lv_at hl 2 rfl) ?_
  refine lv_sipush (v := 256) hx hb dX1_load_26 (by decide) ?_
  refine lv_iload_n hx hb dX1_load_29 rfl (lv_at hl 3 rfl) ?_
  refine lv_isub hx hb dX1_load_30 ?_
  refine sm_eqi (y := 254) (by decide) ?_
  refine lv_icmp_le (tgt := 38) hx hb dX1_load_31 rfl (fun _ => ?_) (fun z => absurd (nI_le (b := 254) (by omega) (by decide)) z)
  refine lv_iconst (v := 0) hx hb dX1_load_38 (by decide) ?_
  refine lv_iconst (v := 2) hx hb dX1_load_39 (by decide) ?_
  refine sm_callV (C := RX1) (As := [.int (sm_bI false), .int 2]) (rest := []) (wr := []) (wn := (sm_wM cZ m0 m1 m2 m3 m4 m5 m6 0 (sm_fb V) (sm_fb S) (sm_fo M) (sm_fl M) (sm_fw O) (sm_fw G))) (st1 := [.int (sm_bI false)]) ⟨hx, hb, hml, hown, hts⟩ (c_fails_f l D cZ m0 m1 m2 m3 m4 m5 m6 0 V S M O G 2) (cwV 2 hts (sm_gV (i1 := 266) (i2 := 267) (i3 := 348) (i4 := 2) (i5 := 268) rfl rfl rfl rfl rfl) rfl rfl rfl (by decide +kernel) ⟨Nat.le_of_ble_eq_true rfl, Nat.le_of_ble_eq_true rfl⟩) hK [0] rfl hP hD hS hA 0 rfl rfl [0, 1, 2, 3, 4, 5, 6] [] rfl rfl (by decide) (by decide) (by decide) rfl hl.1 rfl (Nat.le_of_ble_eq_true rfl) dX1_load_40 ⟨Nat.le_of_ble_eq_true rfl, Nat.le_of_ble_eq_true rfl⟩ rfl rfl (fun H locs hP hD hS => ?_)
  refine lv_if_eq (tgt := 47) hx hb dX1_load_43 rfl (fun _ => ?_) (fun z => absurd (by decide) z)
  refine lv_iconst (v := 0) hx hb dX1_load_47 (by decide) ?_
  refine lv_istore (lv' := [(5, .int 0), (0, .ref m0), (1, .int (nI r)), (2, .int (nI t)), (3, .int 2), (4, .int (sm_bI false))]) hx hb dX1_load_48 hl (by decide) rfl (fun ls hl => ?_)
  refine sm_loopW (nL := 8) (lv := fun k => [(0, .ref m0), (1, .int (nI r)), (2, .int (nI t)), (3, .int 2), (4, .int (sm_bI false)), (5, .int (nI k))]) (w := fun k => (sm_wM cZ m0 m1 m2 m3 m4 m5 m6 0 (sm_fb V) (sm_fb S) (sm_fo M) (sm_fl M) (sm_fill (sm_fw O) (fun i => if i < 16 then sm_ob M (8 * t + i) else false) 0 k) (sm_fill (sm_fw G) (fun i => if i < 16 then sm_ol M (8 * t + i) else false) 0 k))) 32 (fun H locs ls hl hP hD hS => ?_) (fun k hk ih H locs ls hl hP hD hS => ?_) (lv_sub hl [1, 2, 3, 4, 5, 0] rfl) (sm_cP (by simp only [sm_fill0]) hP) (sm_cD (by simp only [sm_fill0]) hD) hS
  · have hl : lv_has ls 8 [(0, .ref m0), (1, .int (nI r)), (2, .int (nI t)), (3, .int 2), (4, .int (sm_bI false)), (5, .int (nI 32))] := hl
    have hP : va_P D vwCl (sm_wM cZ m0 m1 m2 m3 m4 m5 m6 0 (sm_fb V) (sm_fb S) (sm_fo M) (sm_fl M) (sm_fill (sm_fw O) (fun i => if i < 16 then sm_ob M (8 * t + i) else false) 0 32) (sm_fill (sm_fw G) (fun i => if i < 16 then sm_ol M (8 * t + i) else false) 0 32)) H := hP
    have hD : va_D _ (sm_wM cZ m0 m1 m2 m3 m4 m5 m6 0 (sm_fb V) (sm_fb S) (sm_fo M) (sm_fl M) (sm_fill (sm_fw O) (fun i => if i < 16 then sm_ob M (8 * t + i) else false) 0 32) (sm_fill (sm_fw G) (fun i => if i < 16 then sm_ol M (8 * t + i) else false) 0 32)) := hD
    refine lv_iload hx hb dX1_load_50 (lv_at hl 5 rfl) ?_
    refine lv_bipush (v := 32) hx hb dX1_load_52 (by decide) ?_
    refine lv_icmp_ge (tgt := 170) hx hb dX1_load_54 rfl (fun _ => ?_) (fun z => absurd (by decide) z)
    have hP : va_P D vwCl (sm_wM cZ m0 m1 m2 m3 m4 m5 m6 0 (sm_fb V) (sm_fb S) (sm_fo M) (sm_fl M) (sm_fw (sm_ushr ((sm_lv (fun j => M (t + j) &&& 255) 2) <<< (nI 16 &&& 31)) (nI 16))) (sm_fw (sm_ushr ((sm_lv (fun j => sm_ushr (M (t + j)) 8) 2) <<< (nI 16 &&& 31)) (nI 16)))) H := sm_cP (by rw [sm_fill_w, sm_fill_w, sm_mkx (x := sm_ushr ((sm_lv (fun j => M (t + j) &&& 255) 2) <<< (nI 16 &&& 31)) (nI 16)) (sm_ldOu M t 2 (by decide) (by decide)), sm_mkx (x := sm_ushr ((sm_lv (fun j => sm_ushr (M (t + j)) 8) 2) <<< (nI 16 &&& 31)) (nI 16)) (sm_ldGu M hM t 2 (by decide) (by decide))]) hP
    have hD : va_D _ (sm_wM cZ m0 m1 m2 m3 m4 m5 m6 0 (sm_fb V) (sm_fb S) (sm_fo M) (sm_fl M) (sm_fw (sm_ushr ((sm_lv (fun j => M (t + j) &&& 255) 2) <<< (nI 16 &&& 31)) (nI 16))) (sm_fw (sm_ushr ((sm_lv (fun j => sm_ushr (M (t + j)) 8) 2) <<< (nI 16 &&& 31)) (nI 16)))) := sm_cD (by rw [sm_fill_w, sm_fill_w, sm_mkx (x := sm_ushr ((sm_lv (fun j => M (t + j) &&& 255) 2) <<< (nI 16 &&& 31)) (nI 16)) (sm_ldOu M t 2 (by decide) (by decide)), sm_mkx (x := sm_ushr ((sm_lv (fun j => sm_ushr (M (t + j)) 8) 2) <<< (nI 16 &&& 31)) (nI 16)) (sm_ldGu M hM t 2 (by decide) (by decide))]) hD
    refine lv_aload_n hx hb dX1_load_170 rfl (lv_at hl 0 rfl) ?_
    refine lv_iload_n hx hb dX1_load_171 rfl (lv_at hl 1 rfl) ?_
    refine sm_callV (C := RX1) (As := [.int (nI r)]) (rest := []) (wr := []) (wn := (sm_wM cZ m0 m1 m2 m3 m4 m5 m6 0 (sm_fb (upd V r (sm_ushr ((sm_lv (fun j => M (t + j) &&& 255) 2) <<< (nI 16 &&& 31)) (nI 16)))) (sm_fb (upd S r (sm_ushr ((sm_lv (fun j => sm_ushr (M (t + j)) 8) 2) <<< (nI 16 &&& 31)) (nI 16)))) (sm_fo M) (sm_fl M) (sm_fw (sm_ushr ((sm_lv (fun j => M (t + j) &&& 255) 2) <<< (nI 16 &&& 31)) (nI 16))) (sm_fw (sm_ushr ((sm_lv (fun j => sm_ushr (M (t + j)) 8) 2) <<< (nI 16 &&& 31)) (nI 16))))) (st1 := []) ⟨hx, hb, hml, hown, hts⟩ (c_give l D cZ m0 m1 m2 m3 m4 m5 m6 0 V S M (sm_ushr ((sm_lv (fun j => M (t + j) &&& 255) 2) <<< (nI 16 &&& 31)) (nI 16)) (sm_ushr ((sm_lv (fun j => sm_ushr (M (t + j)) 8) 2) <<< (nI 16 &&& 31)) (nI 16)) r (by omega)) (cwV 1 hts (sm_gV (i1 := 272) (i2 := 273) (i3 := 350) (i4 := 2) (i5 := 274) rfl rfl rfl rfl rfl) rfl rfl rfl (by decide +kernel) ⟨Nat.le_of_ble_eq_true rfl, Nat.le_of_ble_eq_true rfl⟩) hK [0] rfl hP hD hS hA 0 rfl rfl [0, 1, 2, 3, 4, 5, 6] [] rfl rfl (by decide) (by decide) (by decide) rfl hl.1 rfl (Nat.le_of_ble_eq_true rfl) dX1_load_172 ⟨Nat.le_of_ble_eq_true rfl, Nat.le_of_ble_eq_true rfl⟩ rfl rfl (fun H locs hP hD hS => ?_)
    exact sm_vret hx hb hrt hlocks hS hP hD dX1_load_175
  · have hl : lv_has ls 8 [(0, .ref m0), (1, .int (nI r)), (2, .int (nI t)), (3, .int 2), (4, .int (sm_bI false)), (5, .int (nI k))] := hl
    have hP : va_P D vwCl (sm_wM cZ m0 m1 m2 m3 m4 m5 m6 0 (sm_fb V) (sm_fb S) (sm_fo M) (sm_fl M) (sm_fill (sm_fw O) (fun i => if i < 16 then sm_ob M (8 * t + i) else false) 0 k) (sm_fill (sm_fw G) (fun i => if i < 16 then sm_ol M (8 * t + i) else false) 0 k)) H := hP
    have hD : va_D _ (sm_wM cZ m0 m1 m2 m3 m4 m5 m6 0 (sm_fb V) (sm_fb S) (sm_fo M) (sm_fl M) (sm_fill (sm_fw O) (fun i => if i < 16 then sm_ob M (8 * t + i) else false) 0 k) (sm_fill (sm_fw G) (fun i => if i < 16 then sm_ol M (8 * t + i) else false) 0 k)) := hD
    refine lv_iload hx hb dX1_load_50 (lv_at hl 5 rfl) ?_
    refine lv_bipush (v := 32) hx hb dX1_load_52 (by decide) ?_
    refine lv_icmp_ge (tgt := 170) hx hb dX1_load_54 rfl (fun z => absurd z (nI_ge (b := 32) hk (by decide))) (fun _ => ?_)
    rcases Nat.lt_or_ge k 16 with hkn | hkn
    · refine lv_iload hx hb dX1_load_57 (lv_at hl 5 rfl) ?_
      refine lv_bipush (v := 8) hx hb dX1_load_59 (by decide) ?_
      refine lv_iload_n hx hb dX1_load_61 rfl (lv_at hl 3 rfl) ?_
      refine lv_imul hx hb dX1_load_62 ?_
      refine sm_eqi (y := 16) (by decide) ?_
      refine lv_icmp_ge (tgt := 71) hx hb dX1_load_63 rfl (fun z => absurd z (nI_ge (b := 16) hkn (by decide))) (fun _ => ?_)
      refine lv_iload hx hb dX1_load_66 (lv_at hl 5 rfl) ?_
      refine lv_goto (tgt := 77) hx hb dX1_load_68 rfl ?_
      refine lv_istore (lv' := [(6, .int (nI k)), (0, .ref m0), (1, .int (nI r)), (2, .int (nI t)), (3, .int 2), (4, .int (sm_bI false)), (5, .int (nI k))]) hx hb dX1_load_77 hl (by decide) rfl (fun ls hl => ?_)
      refine lv_iload hx hb dX1_load_79 (lv_at hl 6 rfl) ?_
      refine lv_bipush (v := 8) hx hb dX1_load_81 (by decide) ?_
      refine lv_iload_n hx hb dX1_load_83 rfl (lv_at hl 4 rfl) ?_
      refine lv_imul hx hb dX1_load_84 ?_
      refine sm_eqi (y := 16) (by decide) ?_
      refine lv_icmp_lt (tgt := 93) hx hb dX1_load_85 rfl (fun _ => ?_) (fun z => absurd (nI_lt (b := 16) hkn (by decide)) z)
      refine lv_iconst (v := 1) hx hb dX1_load_93 (by decide) ?_
      refine lv_goto (tgt := 98) hx hb dX1_load_94 rfl ?_
      refine lv_istore (lv' := [(7, .int 1), (6, .int (nI k)), (0, .ref m0), (1, .int (nI r)), (2, .int (nI t)), (3, .int 2), (4, .int (sm_bI false)), (5, .int (nI k))]) hx hb dX1_load_98 hl (by decide) rfl (fun ls hl => ?_)
      refine lv_aload_n hx hb dX1_load_100 rfl (lv_at hl 2 rfl) ?_
      refine va_get (D := D) (ci := 1) (v := .ref m5) (C := RX1) (T := TX1) (N := 7) hx hb hts inX1 hown hK hP 0 rfl rfl 5 (by decide) (hw 237 rfl) (fun _ h9 => h9) rfl dX1_load_101 ?_
      refine lv_iload hx hb dX1_load_104 (lv_at hl 7 rfl) ?_
      refine lv_iload hx hb dX1_load_106 (lv_at hl 0 rfl) ?_
      refine lv_if_eq (tgt := 130) hx hb dX1_load_108 rfl (fun z => absurd z (by decide)) (fun _ => ?_)
      refine lv_aload_n hx hb dX1_load_111 rfl (lv_at hl 2 rfl) ?_
      refine va_get (D := D) (ci := 1) (v := .ref m3) (C := RX1) (T := TX1) (N := 7) hx hb hts inX1 hown hK hP 0 rfl rfl 3 (by decide) (hw 235 rfl) (fun _ h9 => h9) rfl dX1_load_112 ?_
      refine lv_bipush (v := 8) hx hb dX1_load_115 (by decide) ?_
      refine lv_iload_n hx hb dX1_load_117 rfl (lv_at hl 4 rfl) ?_
      refine lv_imul hx hb dX1_load_118 ?_
      refine sm_eqi (y := nI (8 * t)) (pk_mul 8 t) ?_
      refine lv_iload hx hb dX1_load_119 (lv_at hl 1 rfl) ?_
      refine lv_iadd hx hb dX1_load_121 ?_
      refine sm_eqi (y := nI ((8 * t) + k)) (nI_add (8 * t) k) ?_
      refine va_zald hx hb hK hP 3 0 rfl rfl (vp_in_nI (n := (8 * t) + k) (by omega) (by decide)) dX1_load_122 ?_
      refine sm_eqi (y := sm_bI (sm_ob M (8 * t + k))) ((sm_cl _ (n := 8 * t + k) (by omega)).trans rfl) ?_
      refine sm_ifb_eq (tgt := 130) hx hb dX1_load_123 rfl (fun h123 => ?_) (fun h123 => ?_)
      · refine lv_iconst (v := 0) hx hb dX1_load_130 (by decide) ?_
        refine sm_eqi (y := sm_bI (if k < 16 then sm_ob M (8 * t + k) else false)) (by rw [if_pos hkn]; simp [sm_bI, h123]) ?_
        refine sm_zast (f' := sm_fill (sm_fw O) (fun i => if i < 16 then sm_ob M (8 * t + i) else false) 0 (k + 1)) (ws' := (sm_wM cZ m0 m1 m2 m3 m4 m5 m6 0 (sm_fb V) (sm_fb S) (sm_fo M) (sm_fl M) (sm_fill (sm_fw O) (fun i => if i < 16 then sm_ob M (8 * t + i) else false) 0 (k + 1)) (sm_fill (sm_fw G) (fun i => if i < 16 then sm_ol M (8 * t + i) else false) 0 k))) hx hb hK hP hD hS 5 0 rfl rfl (vp_in_nI (n := k) (by omega) (by decide)) dX1_load_131 (by rw [nI_clamp (by omega)]; exact sm_fillS0 (sm_fw O) (fun i => if i < 16 then sm_ob M (8 * t + i) else false) k) rfl (fun H locs hP hD hS => ?_)
        refine lv_aload_n hx hb dX1_load_132 rfl (lv_at hl 2 rfl) ?_
        refine va_get (D := D) (ci := 1) (v := .ref m6) (C := RX1) (T := TX1) (N := 7) hx hb hts inX1 hown hK hP 0 rfl rfl 6 (by decide) (hw 238 rfl) (fun _ h9 => h9) rfl dX1_load_133 ?_
        refine lv_iload hx hb dX1_load_136 (lv_at hl 7 rfl) ?_
        refine lv_iload hx hb dX1_load_138 (lv_at hl 0 rfl) ?_
        refine lv_if_eq (tgt := 162) hx hb dX1_load_140 rfl (fun z => absurd z (by decide)) (fun _ => ?_)
        refine lv_aload_n hx hb dX1_load_143 rfl (lv_at hl 2 rfl) ?_
        refine va_get (D := D) (ci := 1) (v := .ref m4) (C := RX1) (T := TX1) (N := 7) hx hb hts inX1 hown hK hP 0 rfl rfl 4 (by decide) (hw 236 rfl) (fun _ h9 => h9) rfl dX1_load_144 ?_
        refine lv_bipush (v := 8) hx hb dX1_load_147 (by decide) ?_
        refine lv_iload_n hx hb dX1_load_149 rfl (lv_at hl 4 rfl) ?_
        refine lv_imul hx hb dX1_load_150 ?_
        refine sm_eqi (y := nI (8 * t)) (pk_mul 8 t) ?_
        refine lv_iload hx hb dX1_load_151 (lv_at hl 1 rfl) ?_
        refine lv_iadd hx hb dX1_load_153 ?_
        refine sm_eqi (y := nI ((8 * t) + k)) (nI_add (8 * t) k) ?_
        refine va_zald hx hb hK hP 4 0 rfl rfl (vp_in_nI (n := (8 * t) + k) (by omega) (by decide)) dX1_load_154 ?_
        refine sm_eqi (y := sm_bI (sm_ol M (8 * t + k))) ((sm_cl _ (n := 8 * t + k) (by omega)).trans rfl) ?_
        refine sm_ifb_eq (tgt := 162) hx hb dX1_load_155 rfl (fun h155 => ?_) (fun h155 => ?_)
        · refine lv_iconst (v := 0) hx hb dX1_load_162 (by decide) ?_
          refine sm_eqi (y := sm_bI (if k < 16 then sm_ol M (8 * t + k) else false)) (by rw [if_pos hkn]; simp [sm_bI, h123, h155]) ?_
          refine sm_zast (f' := sm_fill (sm_fw G) (fun i => if i < 16 then sm_ol M (8 * t + i) else false) 0 (k + 1)) (ws' := (sm_wM cZ m0 m1 m2 m3 m4 m5 m6 0 (sm_fb V) (sm_fb S) (sm_fo M) (sm_fl M) (sm_fill (sm_fw O) (fun i => if i < 16 then sm_ob M (8 * t + i) else false) 0 (k + 1)) (sm_fill (sm_fw G) (fun i => if i < 16 then sm_ol M (8 * t + i) else false) 0 (k + 1)))) hx hb hK hP hD hS 6 0 rfl rfl (vp_in_nI (n := k) (by omega) (by decide)) dX1_load_163 (by rw [nI_clamp (by omega)]; exact sm_fillS0 (sm_fw G) (fun i => if i < 16 then sm_ol M (8 * t + i) else false) k) rfl (fun H locs hP hD hS => ?_)
          refine lv_iinc (k := 7) (v := nI (k + 1)) (lv' := [(5, .int (nI (k + 1))), (7, .int 1), (6, .int (nI k)), (0, .ref m0), (1, .int (nI r)), (2, .int (nI t)), (3, .int 2), (4, .int (sm_bI false))]) hx hb dX1_load_164 hl rfl (sm_inc k) (by decide) rfl (fun ls hl => ?_)
          refine lv_goto (tgt := 50) hx hb dX1_load_167 rfl ?_
          exact ih _ _ _ (lv_sub hl [3, 4, 5, 6, 7, 0] rfl) (sm_cP (rfl) hP) (sm_cD (rfl) hD) hS
        · refine lv_iconst (v := 1) hx hb dX1_load_158 (by decide) ?_
          refine lv_goto (tgt := 163) hx hb dX1_load_159 rfl ?_
          refine sm_eqi (y := sm_bI (if k < 16 then sm_ol M (8 * t + k) else false)) (by rw [if_pos hkn]; simp [sm_bI, h123, h155]) ?_
          refine sm_zast (f' := sm_fill (sm_fw G) (fun i => if i < 16 then sm_ol M (8 * t + i) else false) 0 (k + 1)) (ws' := (sm_wM cZ m0 m1 m2 m3 m4 m5 m6 0 (sm_fb V) (sm_fb S) (sm_fo M) (sm_fl M) (sm_fill (sm_fw O) (fun i => if i < 16 then sm_ob M (8 * t + i) else false) 0 (k + 1)) (sm_fill (sm_fw G) (fun i => if i < 16 then sm_ol M (8 * t + i) else false) 0 (k + 1)))) hx hb hK hP hD hS 6 0 rfl rfl (vp_in_nI (n := k) (by omega) (by decide)) dX1_load_163 (by rw [nI_clamp (by omega)]; exact sm_fillS0 (sm_fw G) (fun i => if i < 16 then sm_ol M (8 * t + i) else false) k) rfl (fun H locs hP hD hS => ?_)
          refine lv_iinc (k := 7) (v := nI (k + 1)) (lv' := [(5, .int (nI (k + 1))), (7, .int 1), (6, .int (nI k)), (0, .ref m0), (1, .int (nI r)), (2, .int (nI t)), (3, .int 2), (4, .int (sm_bI false))]) hx hb dX1_load_164 hl rfl (sm_inc k) (by decide) rfl (fun ls hl => ?_)
          refine lv_goto (tgt := 50) hx hb dX1_load_167 rfl ?_
          exact ih _ _ _ (lv_sub hl [3, 4, 5, 6, 7, 0] rfl) (sm_cP (rfl) hP) (sm_cD (rfl) hD) hS
      · refine lv_iconst (v := 1) hx hb dX1_load_126 (by decide) ?_
        refine lv_goto (tgt := 131) hx hb dX1_load_127 rfl ?_
        refine sm_eqi (y := sm_bI (if k < 16 then sm_ob M (8 * t + k) else false)) (by rw [if_pos hkn]; simp [sm_bI, h123]) ?_
        refine sm_zast (f' := sm_fill (sm_fw O) (fun i => if i < 16 then sm_ob M (8 * t + i) else false) 0 (k + 1)) (ws' := (sm_wM cZ m0 m1 m2 m3 m4 m5 m6 0 (sm_fb V) (sm_fb S) (sm_fo M) (sm_fl M) (sm_fill (sm_fw O) (fun i => if i < 16 then sm_ob M (8 * t + i) else false) 0 (k + 1)) (sm_fill (sm_fw G) (fun i => if i < 16 then sm_ol M (8 * t + i) else false) 0 k))) hx hb hK hP hD hS 5 0 rfl rfl (vp_in_nI (n := k) (by omega) (by decide)) dX1_load_131 (by rw [nI_clamp (by omega)]; exact sm_fillS0 (sm_fw O) (fun i => if i < 16 then sm_ob M (8 * t + i) else false) k) rfl (fun H locs hP hD hS => ?_)
        refine lv_aload_n hx hb dX1_load_132 rfl (lv_at hl 2 rfl) ?_
        refine va_get (D := D) (ci := 1) (v := .ref m6) (C := RX1) (T := TX1) (N := 7) hx hb hts inX1 hown hK hP 0 rfl rfl 6 (by decide) (hw 238 rfl) (fun _ h9 => h9) rfl dX1_load_133 ?_
        refine lv_iload hx hb dX1_load_136 (lv_at hl 7 rfl) ?_
        refine lv_iload hx hb dX1_load_138 (lv_at hl 0 rfl) ?_
        refine lv_if_eq (tgt := 162) hx hb dX1_load_140 rfl (fun z => absurd z (by decide)) (fun _ => ?_)
        refine lv_aload_n hx hb dX1_load_143 rfl (lv_at hl 2 rfl) ?_
        refine va_get (D := D) (ci := 1) (v := .ref m4) (C := RX1) (T := TX1) (N := 7) hx hb hts inX1 hown hK hP 0 rfl rfl 4 (by decide) (hw 236 rfl) (fun _ h9 => h9) rfl dX1_load_144 ?_
        refine lv_bipush (v := 8) hx hb dX1_load_147 (by decide) ?_
        refine lv_iload_n hx hb dX1_load_149 rfl (lv_at hl 4 rfl) ?_
        refine lv_imul hx hb dX1_load_150 ?_
        refine sm_eqi (y := nI (8 * t)) (pk_mul 8 t) ?_
        refine lv_iload hx hb dX1_load_151 (lv_at hl 1 rfl) ?_
        refine lv_iadd hx hb dX1_load_153 ?_
        refine sm_eqi (y := nI ((8 * t) + k)) (nI_add (8 * t) k) ?_
        refine va_zald hx hb hK hP 4 0 rfl rfl (vp_in_nI (n := (8 * t) + k) (by omega) (by decide)) dX1_load_154 ?_
        refine sm_eqi (y := sm_bI (sm_ol M (8 * t + k))) ((sm_cl _ (n := 8 * t + k) (by omega)).trans rfl) ?_
        refine sm_ifb_eq (tgt := 162) hx hb dX1_load_155 rfl (fun h155 => ?_) (fun h155 => ?_)
        · refine lv_iconst (v := 0) hx hb dX1_load_162 (by decide) ?_
          refine sm_eqi (y := sm_bI (if k < 16 then sm_ol M (8 * t + k) else false)) (by rw [if_pos hkn]; simp [sm_bI, h123, h155]) ?_
          refine sm_zast (f' := sm_fill (sm_fw G) (fun i => if i < 16 then sm_ol M (8 * t + i) else false) 0 (k + 1)) (ws' := (sm_wM cZ m0 m1 m2 m3 m4 m5 m6 0 (sm_fb V) (sm_fb S) (sm_fo M) (sm_fl M) (sm_fill (sm_fw O) (fun i => if i < 16 then sm_ob M (8 * t + i) else false) 0 (k + 1)) (sm_fill (sm_fw G) (fun i => if i < 16 then sm_ol M (8 * t + i) else false) 0 (k + 1)))) hx hb hK hP hD hS 6 0 rfl rfl (vp_in_nI (n := k) (by omega) (by decide)) dX1_load_163 (by rw [nI_clamp (by omega)]; exact sm_fillS0 (sm_fw G) (fun i => if i < 16 then sm_ol M (8 * t + i) else false) k) rfl (fun H locs hP hD hS => ?_)
          refine lv_iinc (k := 7) (v := nI (k + 1)) (lv' := [(5, .int (nI (k + 1))), (7, .int 1), (6, .int (nI k)), (0, .ref m0), (1, .int (nI r)), (2, .int (nI t)), (3, .int 2), (4, .int (sm_bI false))]) hx hb dX1_load_164 hl rfl (sm_inc k) (by decide) rfl (fun ls hl => ?_)
          refine lv_goto (tgt := 50) hx hb dX1_load_167 rfl ?_
          exact ih _ _ _ (lv_sub hl [3, 4, 5, 6, 7, 0] rfl) (sm_cP (rfl) hP) (sm_cD (rfl) hD) hS
        · refine lv_iconst (v := 1) hx hb dX1_load_158 (by decide) ?_
          refine lv_goto (tgt := 163) hx hb dX1_load_159 rfl ?_
          refine sm_eqi (y := sm_bI (if k < 16 then sm_ol M (8 * t + k) else false)) (by rw [if_pos hkn]; simp [sm_bI, h123, h155]) ?_
          refine sm_zast (f' := sm_fill (sm_fw G) (fun i => if i < 16 then sm_ol M (8 * t + i) else false) 0 (k + 1)) (ws' := (sm_wM cZ m0 m1 m2 m3 m4 m5 m6 0 (sm_fb V) (sm_fb S) (sm_fo M) (sm_fl M) (sm_fill (sm_fw O) (fun i => if i < 16 then sm_ob M (8 * t + i) else false) 0 (k + 1)) (sm_fill (sm_fw G) (fun i => if i < 16 then sm_ol M (8 * t + i) else false) 0 (k + 1)))) hx hb hK hP hD hS 6 0 rfl rfl (vp_in_nI (n := k) (by omega) (by decide)) dX1_load_163 (by rw [nI_clamp (by omega)]; exact sm_fillS0 (sm_fw G) (fun i => if i < 16 then sm_ol M (8 * t + i) else false) k) rfl (fun H locs hP hD hS => ?_)
          refine lv_iinc (k := 7) (v := nI (k + 1)) (lv' := [(5, .int (nI (k + 1))), (7, .int 1), (6, .int (nI k)), (0, .ref m0), (1, .int (nI r)), (2, .int (nI t)), (3, .int 2), (4, .int (sm_bI false))]) hx hb dX1_load_164 hl rfl (sm_inc k) (by decide) rfl (fun ls hl => ?_)
          refine lv_goto (tgt := 50) hx hb dX1_load_167 rfl ?_
          exact ih _ _ _ (lv_sub hl [3, 4, 5, 6, 7, 0] rfl) (sm_cP (rfl) hP) (sm_cD (rfl) hD) hS
    · refine lv_iload hx hb dX1_load_57 (lv_at hl 5 rfl) ?_
      refine lv_bipush (v := 8) hx hb dX1_load_59 (by decide) ?_
      refine lv_iload_n hx hb dX1_load_61 rfl (lv_at hl 3 rfl) ?_
      refine lv_imul hx hb dX1_load_62 ?_
      refine sm_eqi (y := 16) (by decide) ?_
      refine lv_icmp_ge (tgt := 71) hx hb dX1_load_63 rfl (fun _ => ?_) (fun z => absurd (nI_le (a := 16) hkn (by omega)) z)
      refine lv_bipush (v := 8) hx hb dX1_load_71 (by decide) ?_
      refine lv_iload_n hx hb dX1_load_73 rfl (lv_at hl 3 rfl) ?_
      refine lv_imul hx hb dX1_load_74 ?_
      refine sm_eqi (y := 16) (by decide) ?_
      refine lv_iconst (v := 1) hx hb dX1_load_75 (by decide) ?_
      refine lv_isub hx hb dX1_load_76 ?_
      refine sm_eqi (y := 15) (by decide) ?_
      refine lv_istore (lv' := [(6, .int 15), (0, .ref m0), (1, .int (nI r)), (2, .int (nI t)), (3, .int 2), (4, .int (sm_bI false)), (5, .int (nI k))]) hx hb dX1_load_77 hl (by decide) rfl (fun ls hl => ?_)
      refine lv_iload hx hb dX1_load_79 (lv_at hl 6 rfl) ?_
      refine lv_bipush (v := 8) hx hb dX1_load_81 (by decide) ?_
      refine lv_iload_n hx hb dX1_load_83 rfl (lv_at hl 4 rfl) ?_
      refine lv_imul hx hb dX1_load_84 ?_
      refine sm_eqi (y := 16) (by decide) ?_
      refine lv_icmp_lt (tgt := 93) hx hb dX1_load_85 rfl (fun z => absurd z (nI_nlt (b := 16) hkn (by omega))) (fun _ => ?_)
      refine lv_iload hx hb dX1_load_88 (lv_at hl 5 rfl) ?_
      refine lv_if_eq (tgt := 97) hx hb dX1_load_90 rfl (fun _ => ?_) (fun z => absurd (by decide) z)
      refine lv_iconst (v := 0) hx hb dX1_load_97 (by decide) ?_
      refine lv_istore (lv' := [(7, .int 0), (6, .int 15), (0, .ref m0), (1, .int (nI r)), (2, .int (nI t)), (3, .int 2), (4, .int (sm_bI false)), (5, .int (nI k))]) hx hb dX1_load_98 hl (by decide) rfl (fun ls hl => ?_)
      refine lv_aload_n hx hb dX1_load_100 rfl (lv_at hl 2 rfl) ?_
      refine va_get (D := D) (ci := 1) (v := .ref m5) (C := RX1) (T := TX1) (N := 7) hx hb hts inX1 hown hK hP 0 rfl rfl 5 (by decide) (hw 237 rfl) (fun _ h9 => h9) rfl dX1_load_101 ?_
      refine lv_iload hx hb dX1_load_104 (lv_at hl 7 rfl) ?_
      refine lv_iload hx hb dX1_load_106 (lv_at hl 0 rfl) ?_
      refine lv_if_eq (tgt := 130) hx hb dX1_load_108 rfl (fun _ => ?_) (fun z => absurd (by decide) z)
      refine lv_iconst (v := 0) hx hb dX1_load_130 (by decide) ?_
      refine sm_eqi (y := sm_bI (if k < 16 then sm_ob M (8 * t + k) else false)) (by rw [if_neg (Nat.not_lt.mpr hkn)]; simp [sm_bI]) ?_
      refine sm_zast (f' := sm_fill (sm_fw O) (fun i => if i < 16 then sm_ob M (8 * t + i) else false) 0 (k + 1)) (ws' := (sm_wM cZ m0 m1 m2 m3 m4 m5 m6 0 (sm_fb V) (sm_fb S) (sm_fo M) (sm_fl M) (sm_fill (sm_fw O) (fun i => if i < 16 then sm_ob M (8 * t + i) else false) 0 (k + 1)) (sm_fill (sm_fw G) (fun i => if i < 16 then sm_ol M (8 * t + i) else false) 0 k))) hx hb hK hP hD hS 5 0 rfl rfl (vp_in_nI (n := k) (by omega) (by decide)) dX1_load_131 (by rw [nI_clamp (by omega)]; exact sm_fillS0 (sm_fw O) (fun i => if i < 16 then sm_ob M (8 * t + i) else false) k) rfl (fun H locs hP hD hS => ?_)
      refine lv_aload_n hx hb dX1_load_132 rfl (lv_at hl 2 rfl) ?_
      refine va_get (D := D) (ci := 1) (v := .ref m6) (C := RX1) (T := TX1) (N := 7) hx hb hts inX1 hown hK hP 0 rfl rfl 6 (by decide) (hw 238 rfl) (fun _ h9 => h9) rfl dX1_load_133 ?_
      refine lv_iload hx hb dX1_load_136 (lv_at hl 7 rfl) ?_
      refine lv_iload hx hb dX1_load_138 (lv_at hl 0 rfl) ?_
      refine lv_if_eq (tgt := 162) hx hb dX1_load_140 rfl (fun _ => ?_) (fun z => absurd (by decide) z)
      refine lv_iconst (v := 0) hx hb dX1_load_162 (by decide) ?_
      refine sm_eqi (y := sm_bI (if k < 16 then sm_ol M (8 * t + k) else false)) (by rw [if_neg (Nat.not_lt.mpr hkn)]; simp [sm_bI]) ?_
      refine sm_zast (f' := sm_fill (sm_fw G) (fun i => if i < 16 then sm_ol M (8 * t + i) else false) 0 (k + 1)) (ws' := (sm_wM cZ m0 m1 m2 m3 m4 m5 m6 0 (sm_fb V) (sm_fb S) (sm_fo M) (sm_fl M) (sm_fill (sm_fw O) (fun i => if i < 16 then sm_ob M (8 * t + i) else false) 0 (k + 1)) (sm_fill (sm_fw G) (fun i => if i < 16 then sm_ol M (8 * t + i) else false) 0 (k + 1)))) hx hb hK hP hD hS 6 0 rfl rfl (vp_in_nI (n := k) (by omega) (by decide)) dX1_load_163 (by rw [nI_clamp (by omega)]; exact sm_fillS0 (sm_fw G) (fun i => if i < 16 then sm_ol M (8 * t + i) else false) k) rfl (fun H locs hP hD hS => ?_)
      refine lv_iinc (k := 7) (v := nI (k + 1)) (lv' := [(5, .int (nI (k + 1))), (7, .int 0), (6, .int 15), (0, .ref m0), (1, .int (nI r)), (2, .int (nI t)), (3, .int 2), (4, .int (sm_bI false))]) hx hb dX1_load_164 hl rfl (sm_inc k) (by decide) rfl (fun ls hl => ?_)
      refine lv_goto (tgt := 50) hx hb dX1_load_167 rfl ?_
      exact ih _ _ _ (lv_sub hl [3, 4, 5, 6, 7, 0] rfl) (sm_cP (rfl) hP) (sm_cD (rfl) hD) hS
set_option maxHeartbeats 4000000 in
set_option maxRecDepth 100000 in
theorem c_mload_4_t (l : Launch) (D : va_G) (cZ : ClassId) (m0 m1 m2 m3 m4 m5 m6 : Nat) (err : Int32) (V S M : Nat → Int32) (O G : Int32) (r t : Nat) (hr : r < 16) (ht : t + 4 ≤ 256) (hM : ∀ a, M a = M a &&& 65535) : sm_C l yX1_load wsX1_load ({ frames := 5, cells := 0, slots := 0, locals := 140 } : Room) D vwCl [(cZ, .boolean)] [.ref m0, .int (nI r), .int (nI t), .int 4, .int (sm_bI true)] (sm_wM cZ m0 m1 m2 m3 m4 m5 m6 err (sm_fb V) (sm_fb S) (sm_fo M) (sm_fl M) (sm_fw O) (sm_fw G)) none (sm_wM cZ m0 m1 m2 m3 m4 m5 m6 0 (sm_fb (upd V r (((sm_lv (fun j => M (t + j) &&& 255) 4) <<< (nI 0 &&& 31)) >>> (nI 0 &&& 31)))) (sm_fb (upd S r (((sm_lv (fun j => sm_ushr (M (t + j)) 8) 4) <<< (nI 0 &&& 31)) >>> (nI 0 &&& 31)))) (sm_fo M) (sm_fl M) (sm_fw (((sm_lv (fun j => M (t + j) &&& 255) 4) <<< (nI 0 &&& 31)) >>> (nI 0 &&& 31))) (sm_fw (((sm_lv (fun j => sm_ushr (M (t + j)) 8) 4) <<< (nI 0 &&& 31)) >>> (nI 0 &&& 31)))) := by
  refine sm_start (cc := cX1_load) (maxL := 8) (ret := none) (lv := [(0, .ref m0), (1, .int (nI r)), (2, .int (nI t)), (3, .int 4), (4, .int (sm_bI true))]) (by decide) rfl (Nat.le_of_ble_eq_true rfl) rfl ?_
  intro p e s m below meth c hx hb hrt hts hown hlocks hml hin hK hP hD hS hA ls hl
  have hw := sm_hw hts
  refine lv_aload_n hx hb dX1_load_0 rfl (lv_at hl 0 rfl) ?_
  refine lv_iload_n hx hb dX1_load_1 rfl (lv_at hl 3 rfl) ?_
  refine sm_callS (As := [.int 4]) (rest := [.ref m0]) (wr := (sm_wM cZ m0 m1 m2 m3 m4 m5 m6 err (sm_fb V) (sm_fb S) (sm_fo M) (sm_fl M) (sm_fw O) (sm_fw G))) (wn := (sm_wM cZ m0 m1 m2 m3 m4 m5 m6 err (sm_fb V) (sm_fb S) (sm_fo M) (sm_fl M) (sm_fw O) (sm_fw G))) (st1 := [.int (sm_bI false), .ref m0]) ⟨hx, hb, hml, hown, hts⟩ (c_wrong_4 l D) (va_cwS 1 hts (sm_gS (i1 := 311) (i2 := 312) (i4 := 2) (i5 := 313) rfl rfl rfl rfl) rfl rfl rfl (by decide +kernel) ⟨Nat.le_of_ble_eq_true rfl, Nat.le_of_ble_eq_true rfl⟩) hK [] rfl hP hD hS hA [] [0, 1, 2, 3, 4, 5, 6] rfl rfl (by decide) (by decide) (by decide) rfl hl.1 rfl (Nat.le_of_ble_eq_true rfl) dX1_load_2 ⟨Nat.le_of_ble_eq_true rfl, Nat.le_of_ble_eq_true rfl⟩ rfl rfl (fun H locs hP hD hS => ?_)
  refine lv_iconst (v := 1) hx hb dX1_load_5 (by decide) ?_
  refine sm_callV (C := RX1) (As := [.int (sm_bI false), .int 1]) (rest := []) (wr := []) (wn := (sm_wM cZ m0 m1 m2 m3 m4 m5 m6 0 (sm_fb V) (sm_fb S) (sm_fo M) (sm_fl M) (sm_fw O) (sm_fw G))) (st1 := [.int (sm_bI false)]) ⟨hx, hb, hml, hown, hts⟩ (c_fails_f l D cZ m0 m1 m2 m3 m4 m5 m6 err V S M O G 1) (cwV 2 hts (sm_gV (i1 := 266) (i2 := 267) (i3 := 348) (i4 := 2) (i5 := 268) rfl rfl rfl rfl rfl) rfl rfl rfl (by decide +kernel) ⟨Nat.le_of_ble_eq_true rfl, Nat.le_of_ble_eq_true rfl⟩) hK [0] rfl hP hD hS hA 0 rfl rfl [0, 1, 2, 3, 4, 5, 6] [] rfl rfl (by decide) (by decide) (by decide) rfl hl.1 rfl (Nat.le_of_ble_eq_true rfl) dX1_load_6 ⟨Nat.le_of_ble_eq_true rfl, Nat.le_of_ble_eq_true rfl⟩ rfl rfl (fun H locs hP hD hS => ?_)
  refine lv_if_eq (tgt := 13) hx hb dX1_load_9 rfl (fun _ => ?_) (fun z => absurd (by decide) z)
  refine lv_aload_n hx hb dX1_load_13 rfl (lv_at hl 0 rfl) ?_
  refine lv_iload_n hx hb dX1_load_14 rfl (lv_at hl 1 rfl) ?_
  refine sm_callS (As := [.int (nI r)]) (rest := [.ref m0]) (wr := (sm_wM cZ m0 m1 m2 m3 m4 m5 m6 0 (sm_fb V) (sm_fb S) (sm_fo M) (sm_fl M) (sm_fw O) (sm_fw G))) (wn := (sm_wM cZ m0 m1 m2 m3 m4 m5 m6 0 (sm_fb V) (sm_fb S) (sm_fo M) (sm_fl M) (sm_fw O) (sm_fw G))) (st1 := [.int (sm_bI false), .ref m0]) ⟨hx, hb, hml, hown, hts⟩ (c_none_f l D r (by omega)) (va_cwS 1 hts (sm_gS (i1 := 263) (i2 := 264) (i4 := 2) (i5 := 265) rfl rfl rfl rfl) rfl rfl rfl (by decide +kernel) ⟨Nat.le_of_ble_eq_true rfl, Nat.le_of_ble_eq_true rfl⟩) hK [] rfl hP hD hS hA [] [0, 1, 2, 3, 4, 5, 6] rfl rfl (by decide) (by decide) (by decide) rfl hl.1 rfl (Nat.le_of_ble_eq_true rfl) dX1_load_15 ⟨Nat.le_of_ble_eq_true rfl, Nat.le_of_ble_eq_true rfl⟩ rfl rfl (fun H locs hP hD hS => ?_)
  refine lv_if_ne (tgt := 34) hx hb dX1_load_18 rfl (fun z => absurd (by decide) z) (fun _ => ?_)
  refine lv_iload_n hx hb dX1_load_21 rfl (lv_at hl 2 rfl) ?_
  refine lv_if_lt (tgt := 34) hx hb dX1_load_22 rfl (fun z => absurd z (nI_pos (by omega))) (fun _ => ?_)
  refine lv_iload_n hx hb dX1_load_25 rfl (lv_at hl 2 rfl) ?_
  refine lv_sipush (v := 256) hx hb dX1_load_26 (by decide) ?_
  refine lv_iload_n hx hb dX1_load_29 rfl (lv_at hl 3 rfl) ?_
  refine lv_isub hx hb dX1_load_30 ?_
  refine sm_eqi (y := 252) (by decide) ?_
  refine lv_icmp_le (tgt := 38) hx hb dX1_load_31 rfl (fun _ => ?_) (fun z => absurd (nI_le (b := 252) (by omega) (by decide)) z)
  refine lv_iconst (v := 0) hx hb dX1_load_38 (by decide) ?_
  refine lv_iconst (v := 2) hx hb dX1_load_39 (by decide) ?_
  refine sm_callV (C := RX1) (As := [.int (sm_bI false), .int 2]) (rest := []) (wr := []) (wn := (sm_wM cZ m0 m1 m2 m3 m4 m5 m6 0 (sm_fb V) (sm_fb S) (sm_fo M) (sm_fl M) (sm_fw O) (sm_fw G))) (st1 := [.int (sm_bI false)]) ⟨hx, hb, hml, hown, hts⟩ (c_fails_f l D cZ m0 m1 m2 m3 m4 m5 m6 0 V S M O G 2) (cwV 2 hts (sm_gV (i1 := 266) (i2 := 267) (i3 := 348) (i4 := 2) (i5 := 268) rfl rfl rfl rfl rfl) rfl rfl rfl (by decide +kernel) ⟨Nat.le_of_ble_eq_true rfl, Nat.le_of_ble_eq_true rfl⟩) hK [0] rfl hP hD hS hA 0 rfl rfl [0, 1, 2, 3, 4, 5, 6] [] rfl rfl (by decide) (by decide) (by decide) rfl hl.1 rfl (Nat.le_of_ble_eq_true rfl) dX1_load_40 ⟨Nat.le_of_ble_eq_true rfl, Nat.le_of_ble_eq_true rfl⟩ rfl rfl (fun H locs hP hD hS => ?_)
  refine lv_if_eq (tgt := 47) hx hb dX1_load_43 rfl (fun _ => ?_) (fun z => absurd (by decide) z)
  refine lv_iconst (v := 0) hx hb dX1_load_47 (by decide) ?_
  refine lv_istore (lv' := [(5, .int 0), (0, .ref m0), (1, .int (nI r)), (2, .int (nI t)), (3, .int 4), (4, .int (sm_bI true))]) hx hb dX1_load_48 hl (by decide) rfl (fun ls hl => ?_)
  refine sm_loopW (nL := 8) (lv := fun k => [(0, .ref m0), (1, .int (nI r)), (2, .int (nI t)), (3, .int 4), (4, .int (sm_bI true)), (5, .int (nI k))]) (w := fun k => (sm_wM cZ m0 m1 m2 m3 m4 m5 m6 0 (sm_fb V) (sm_fb S) (sm_fo M) (sm_fl M) (sm_fill (sm_fw O) (fun i => if i < 32 then sm_ob M (8 * t + i) else sm_ob M (8 * t + 31)) 0 k) (sm_fill (sm_fw G) (fun i => if i < 32 then sm_ol M (8 * t + i) else sm_ol M (8 * t + 31)) 0 k))) 32 (fun H locs ls hl hP hD hS => ?_) (fun k hk ih H locs ls hl hP hD hS => ?_) (lv_sub hl [1, 2, 3, 4, 5, 0] rfl) (sm_cP (by simp only [sm_fill0]) hP) (sm_cD (by simp only [sm_fill0]) hD) hS
  · have hl : lv_has ls 8 [(0, .ref m0), (1, .int (nI r)), (2, .int (nI t)), (3, .int 4), (4, .int (sm_bI true)), (5, .int (nI 32))] := hl
    have hP : va_P D vwCl (sm_wM cZ m0 m1 m2 m3 m4 m5 m6 0 (sm_fb V) (sm_fb S) (sm_fo M) (sm_fl M) (sm_fill (sm_fw O) (fun i => if i < 32 then sm_ob M (8 * t + i) else sm_ob M (8 * t + 31)) 0 32) (sm_fill (sm_fw G) (fun i => if i < 32 then sm_ol M (8 * t + i) else sm_ol M (8 * t + 31)) 0 32)) H := hP
    have hD : va_D _ (sm_wM cZ m0 m1 m2 m3 m4 m5 m6 0 (sm_fb V) (sm_fb S) (sm_fo M) (sm_fl M) (sm_fill (sm_fw O) (fun i => if i < 32 then sm_ob M (8 * t + i) else sm_ob M (8 * t + 31)) 0 32) (sm_fill (sm_fw G) (fun i => if i < 32 then sm_ol M (8 * t + i) else sm_ol M (8 * t + 31)) 0 32)) := hD
    refine lv_iload hx hb dX1_load_50 (lv_at hl 5 rfl) ?_
    refine lv_bipush (v := 32) hx hb dX1_load_52 (by decide) ?_
    refine lv_icmp_ge (tgt := 170) hx hb dX1_load_54 rfl (fun _ => ?_) (fun z => absurd (by decide) z)
    have hP : va_P D vwCl (sm_wM cZ m0 m1 m2 m3 m4 m5 m6 0 (sm_fb V) (sm_fb S) (sm_fo M) (sm_fl M) (sm_fw (((sm_lv (fun j => M (t + j) &&& 255) 4) <<< (nI 0 &&& 31)) >>> (nI 0 &&& 31))) (sm_fw (((sm_lv (fun j => sm_ushr (M (t + j)) 8) 4) <<< (nI 0 &&& 31)) >>> (nI 0 &&& 31)))) H := sm_cP (by rw [sm_fill_w, sm_fill_w, sm_mkx (x := ((sm_lv (fun j => M (t + j) &&& 255) 4) <<< (nI 0 &&& 31)) >>> (nI 0 &&& 31)) (sm_ldOs M t 4 (by decide) (by decide)), sm_mkx (x := ((sm_lv (fun j => sm_ushr (M (t + j)) 8) 4) <<< (nI 0 &&& 31)) >>> (nI 0 &&& 31)) (sm_ldGs M hM t 4 (by decide) (by decide))]) hP
    have hD : va_D _ (sm_wM cZ m0 m1 m2 m3 m4 m5 m6 0 (sm_fb V) (sm_fb S) (sm_fo M) (sm_fl M) (sm_fw (((sm_lv (fun j => M (t + j) &&& 255) 4) <<< (nI 0 &&& 31)) >>> (nI 0 &&& 31))) (sm_fw (((sm_lv (fun j => sm_ushr (M (t + j)) 8) 4) <<< (nI 0 &&& 31)) >>> (nI 0 &&& 31)))) := sm_cD (by rw [sm_fill_w, sm_fill_w, sm_mkx (x := ((sm_lv (fun j => M (t + j) &&& 255) 4) <<< (nI 0 &&& 31)) >>> (nI 0 &&& 31)) (sm_ldOs M t 4 (by decide) (by decide)), sm_mkx (x := ((sm_lv (fun j => sm_ushr (M (t + j)) 8) 4) <<< (nI 0 &&& 31)) >>> (nI 0 &&& 31)) (sm_ldGs M hM t 4 (by decide) (by decide))]) hD
    refine lv_aload_n hx hb dX1_load_170 rfl (lv_at hl 0 rfl) ?_
    refine lv_iload_n hx hb dX1_load_171 rfl (lv_at hl 1 rfl) ?_
    refine sm_callV (C := RX1) (As := [.int (nI r)]) (rest := []) (wr := []) (wn := (sm_wM cZ m0 m1 m2 m3 m4 m5 m6 0 (sm_fb (upd V r (((sm_lv (fun j => M (t + j) &&& 255) 4) <<< (nI 0 &&& 31)) >>> (nI 0 &&& 31)))) (sm_fb (upd S r (((sm_lv (fun j => sm_ushr (M (t + j)) 8) 4) <<< (nI 0 &&& 31)) >>> (nI 0 &&& 31)))) (sm_fo M) (sm_fl M) (sm_fw (((sm_lv (fun j => M (t + j) &&& 255) 4) <<< (nI 0 &&& 31)) >>> (nI 0 &&& 31))) (sm_fw (((sm_lv (fun j => sm_ushr (M (t + j)) 8) 4) <<< (nI 0 &&& 31)) >>> (nI 0 &&& 31))))) (st1 := []) ⟨hx, hb, hml, hown, hts⟩ (c_give l D cZ m0 m1 m2 m3 m4 m5 m6 0 V S M (((sm_lv (fun j => M (t + j) &&& 255) 4) <<< (nI 0 &&& 31)) >>> (nI 0 &&& 31)) (((sm_lv (fun j => sm_ushr (M (t + j)) 8) 4) <<< (nI 0 &&& 31)) >>> (nI 0 &&& 31)) r (by omega)) (cwV 1 hts (sm_gV (i1 := 272) (i2 := 273) (i3 := 350) (i4 := 2) (i5 := 274) rfl rfl rfl rfl rfl) rfl rfl rfl (by decide +kernel) ⟨Nat.le_of_ble_eq_true rfl, Nat.le_of_ble_eq_true rfl⟩) hK [0] rfl hP hD hS hA 0 rfl rfl [0, 1, 2, 3, 4, 5, 6] [] rfl rfl (by decide) (by decide) (by decide) rfl hl.1 rfl (Nat.le_of_ble_eq_true rfl) dX1_load_172 ⟨Nat.le_of_ble_eq_true rfl, Nat.le_of_ble_eq_true rfl⟩ rfl rfl (fun H locs hP hD hS => ?_)
    exact sm_vret hx hb hrt hlocks hS hP hD dX1_load_175
  · have hl : lv_has ls 8 [(0, .ref m0), (1, .int (nI r)), (2, .int (nI t)), (3, .int 4), (4, .int (sm_bI true)), (5, .int (nI k))] := hl
    have hP : va_P D vwCl (sm_wM cZ m0 m1 m2 m3 m4 m5 m6 0 (sm_fb V) (sm_fb S) (sm_fo M) (sm_fl M) (sm_fill (sm_fw O) (fun i => if i < 32 then sm_ob M (8 * t + i) else sm_ob M (8 * t + 31)) 0 k) (sm_fill (sm_fw G) (fun i => if i < 32 then sm_ol M (8 * t + i) else sm_ol M (8 * t + 31)) 0 k)) H := hP
    have hD : va_D _ (sm_wM cZ m0 m1 m2 m3 m4 m5 m6 0 (sm_fb V) (sm_fb S) (sm_fo M) (sm_fl M) (sm_fill (sm_fw O) (fun i => if i < 32 then sm_ob M (8 * t + i) else sm_ob M (8 * t + 31)) 0 k) (sm_fill (sm_fw G) (fun i => if i < 32 then sm_ol M (8 * t + i) else sm_ol M (8 * t + 31)) 0 k)) := hD
    refine lv_iload hx hb dX1_load_50 (lv_at hl 5 rfl) ?_
    refine lv_bipush (v := 32) hx hb dX1_load_52 (by decide) ?_
    refine lv_icmp_ge (tgt := 170) hx hb dX1_load_54 rfl (fun z => absurd z (nI_ge (b := 32) hk (by decide))) (fun _ => ?_)
    rcases Nat.lt_or_ge k 32 with hkn | hkn
    · refine lv_iload hx hb dX1_load_57 (lv_at hl 5 rfl) ?_
      refine lv_bipush (v := 8) hx hb dX1_load_59 (by decide) ?_
      refine lv_iload_n hx hb dX1_load_61 rfl (lv_at hl 3 rfl) ?_
      refine lv_imul hx hb dX1_load_62 ?_
      refine sm_eqi (y := 32) (by decide) ?_
      refine lv_icmp_ge (tgt := 71) hx hb dX1_load_63 rfl (fun z => absurd z (nI_ge (b := 32) hkn (by decide))) (fun _ => ?_)
      refine lv_iload hx hb dX1_load_66 (lv_at hl 5 rfl) ?_
      refine lv_goto (tgt := 77) hx hb dX1_load_68 rfl ?_
      refine lv_istore (lv' := [(6, .int (nI k)), (0, .ref m0), (1, .int (nI r)), (2, .int (nI t)), (3, .int 4), (4, .int (sm_bI true)), (5, .int (nI k))]) hx hb dX1_load_77 hl (by decide) rfl (fun ls hl => ?_)
      refine lv_iload hx hb dX1_load_79 (lv_at hl 6 rfl) ?_
      refine lv_bipush (v := 8) hx hb dX1_load_81 (by decide) ?_
      refine lv_iload_n hx hb dX1_load_83 rfl (lv_at hl 4 rfl) ?_
      refine lv_imul hx hb dX1_load_84 ?_
      refine sm_eqi (y := 32) (by decide) ?_
      refine lv_icmp_lt (tgt := 93) hx hb dX1_load_85 rfl (fun _ => ?_) (fun z => absurd (nI_lt (b := 32) hkn (by decide)) z)
      refine lv_iconst (v := 1) hx hb dX1_load_93 (by decide) ?_
      refine lv_goto (tgt := 98) hx hb dX1_load_94 rfl ?_
      refine lv_istore (lv' := [(7, .int 1), (6, .int (nI k)), (0, .ref m0), (1, .int (nI r)), (2, .int (nI t)), (3, .int 4), (4, .int (sm_bI true)), (5, .int (nI k))]) hx hb dX1_load_98 hl (by decide) rfl (fun ls hl => ?_)
      refine lv_aload_n hx hb dX1_load_100 rfl (lv_at hl 2 rfl) ?_
      refine va_get (D := D) (ci := 1) (v := .ref m5) (C := RX1) (T := TX1) (N := 7) hx hb hts inX1 hown hK hP 0 rfl rfl 5 (by decide) (hw 237 rfl) (fun _ h9 => h9) rfl dX1_load_101 ?_
      refine lv_iload hx hb dX1_load_104 (lv_at hl 7 rfl) ?_
      refine lv_iload hx hb dX1_load_106 (lv_at hl 0 rfl) ?_
      refine lv_if_eq (tgt := 130) hx hb dX1_load_108 rfl (fun z => absurd z (by decide)) (fun _ => ?_)
      refine lv_aload_n hx hb dX1_load_111 rfl (lv_at hl 2 rfl) ?_
      refine va_get (D := D) (ci := 1) (v := .ref m3) (C := RX1) (T := TX1) (N := 7) hx hb hts inX1 hown hK hP 0 rfl rfl 3 (by decide) (hw 235 rfl) (fun _ h9 => h9) rfl dX1_load_112 ?_
      refine lv_bipush (v := 8) hx hb dX1_load_115 (by decide) ?_
      refine lv_iload_n hx hb dX1_load_117 rfl (lv_at hl 4 rfl) ?_
      refine lv_imul hx hb dX1_load_118 ?_
      refine sm_eqi (y := nI (8 * t)) (pk_mul 8 t) ?_
      refine lv_iload hx hb dX1_load_119 (lv_at hl 1 rfl) ?_
      refine lv_iadd hx hb dX1_load_121 ?_
      refine sm_eqi (y := nI ((8 * t) + k)) (nI_add (8 * t) k) ?_
      refine va_zald hx hb hK hP 3 0 rfl rfl (vp_in_nI (n := (8 * t) + k) (by omega) (by decide)) dX1_load_122 ?_
      refine sm_eqi (y := sm_bI (sm_ob M (8 * t + k))) ((sm_cl _ (n := 8 * t + k) (by omega)).trans rfl) ?_
      refine sm_ifb_eq (tgt := 130) hx hb dX1_load_123 rfl (fun h123 => ?_) (fun h123 => ?_)
      · refine lv_iconst (v := 0) hx hb dX1_load_130 (by decide) ?_
        refine sm_eqi (y := sm_bI (if k < 32 then sm_ob M (8 * t + k) else sm_ob M (8 * t + 31))) (by rw [if_pos hkn]; simp [sm_bI, h123]) ?_
        refine sm_zast (f' := sm_fill (sm_fw O) (fun i => if i < 32 then sm_ob M (8 * t + i) else sm_ob M (8 * t + 31)) 0 (k + 1)) (ws' := (sm_wM cZ m0 m1 m2 m3 m4 m5 m6 0 (sm_fb V) (sm_fb S) (sm_fo M) (sm_fl M) (sm_fill (sm_fw O) (fun i => if i < 32 then sm_ob M (8 * t + i) else sm_ob M (8 * t + 31)) 0 (k + 1)) (sm_fill (sm_fw G) (fun i => if i < 32 then sm_ol M (8 * t + i) else sm_ol M (8 * t + 31)) 0 k))) hx hb hK hP hD hS 5 0 rfl rfl (vp_in_nI (n := k) (by omega) (by decide)) dX1_load_131 (by rw [nI_clamp (by omega)]; exact sm_fillS0 (sm_fw O) (fun i => if i < 32 then sm_ob M (8 * t + i) else sm_ob M (8 * t + 31)) k) rfl (fun H locs hP hD hS => ?_)
        refine lv_aload_n hx hb dX1_load_132 rfl (lv_at hl 2 rfl) ?_
        refine va_get (D := D) (ci := 1) (v := .ref m6) (C := RX1) (T := TX1) (N := 7) hx hb hts inX1 hown hK hP 0 rfl rfl 6 (by decide) (hw 238 rfl) (fun _ h9 => h9) rfl dX1_load_133 ?_
        refine lv_iload hx hb dX1_load_136 (lv_at hl 7 rfl) ?_
        refine lv_iload hx hb dX1_load_138 (lv_at hl 0 rfl) ?_
        refine lv_if_eq (tgt := 162) hx hb dX1_load_140 rfl (fun z => absurd z (by decide)) (fun _ => ?_)
        refine lv_aload_n hx hb dX1_load_143 rfl (lv_at hl 2 rfl) ?_
        refine va_get (D := D) (ci := 1) (v := .ref m4) (C := RX1) (T := TX1) (N := 7) hx hb hts inX1 hown hK hP 0 rfl rfl 4 (by decide) (hw 236 rfl) (fun _ h9 => h9) rfl dX1_load_144 ?_
        refine lv_bipush (v := 8) hx hb dX1_load_147 (by decide) ?_
        refine lv_iload_n hx hb dX1_load_149 rfl (lv_at hl 4 rfl) ?_
        refine lv_imul hx hb dX1_load_150 ?_
        refine sm_eqi (y := nI (8 * t)) (pk_mul 8 t) ?_
        refine lv_iload hx hb dX1_load_151 (lv_at hl 1 rfl) ?_
        refine lv_iadd hx hb dX1_load_153 ?_
        refine sm_eqi (y := nI ((8 * t) + k)) (nI_add (8 * t) k) ?_
        refine va_zald hx hb hK hP 4 0 rfl rfl (vp_in_nI (n := (8 * t) + k) (by omega) (by decide)) dX1_load_154 ?_
        refine sm_eqi (y := sm_bI (sm_ol M (8 * t + k))) ((sm_cl _ (n := 8 * t + k) (by omega)).trans rfl) ?_
        refine sm_ifb_eq (tgt := 162) hx hb dX1_load_155 rfl (fun h155 => ?_) (fun h155 => ?_)
        · refine lv_iconst (v := 0) hx hb dX1_load_162 (by decide) ?_
          refine sm_eqi (y := sm_bI (if k < 32 then sm_ol M (8 * t + k) else sm_ol M (8 * t + 31))) (by rw [if_pos hkn]; simp [sm_bI, h123, h155]) ?_
          refine sm_zast (f' := sm_fill (sm_fw G) (fun i => if i < 32 then sm_ol M (8 * t + i) else sm_ol M (8 * t + 31)) 0 (k + 1)) (ws' := (sm_wM cZ m0 m1 m2 m3 m4 m5 m6 0 (sm_fb V) (sm_fb S) (sm_fo M) (sm_fl M) (sm_fill (sm_fw O) (fun i => if i < 32 then sm_ob M (8 * t + i) else sm_ob M (8 * t + 31)) 0 (k + 1)) (sm_fill (sm_fw G) (fun i => if i < 32 then sm_ol M (8 * t + i) else sm_ol M (8 * t + 31)) 0 (k + 1)))) hx hb hK hP hD hS 6 0 rfl rfl (vp_in_nI (n := k) (by omega) (by decide)) dX1_load_163 (by rw [nI_clamp (by omega)]; exact sm_fillS0 (sm_fw G) (fun i => if i < 32 then sm_ol M (8 * t + i) else sm_ol M (8 * t + 31)) k) rfl (fun H locs hP hD hS => ?_)
          refine lv_iinc (k := 7) (v := nI (k + 1)) (lv' := [(5, .int (nI (k + 1))), (7, .int 1), (6, .int (nI k)), (0, .ref m0), (1, .int (nI r)), (2, .int (nI t)), (3, .int 4), (4, .int (sm_bI true))]) hx hb dX1_load_164 hl rfl (sm_inc k) (by decide) rfl (fun ls hl => ?_)
          refine lv_goto (tgt := 50) hx hb dX1_load_167 rfl ?_
          exact ih _ _ _ (lv_sub hl [3, 4, 5, 6, 7, 0] rfl) (sm_cP (rfl) hP) (sm_cD (rfl) hD) hS
        · refine lv_iconst (v := 1) hx hb dX1_load_158 (by decide) ?_
          refine lv_goto (tgt := 163) hx hb dX1_load_159 rfl ?_
          refine sm_eqi (y := sm_bI (if k < 32 then sm_ol M (8 * t + k) else sm_ol M (8 * t + 31))) (by rw [if_pos hkn]; simp [sm_bI, h123, h155]) ?_
          refine sm_zast (f' := sm_fill (sm_fw G) (fun i => if i < 32 then sm_ol M (8 * t + i) else sm_ol M (8 * t + 31)) 0 (k + 1)) (ws' := (sm_wM cZ m0 m1 m2 m3 m4 m5 m6 0 (sm_fb V) (sm_fb S) (sm_fo M) (sm_fl M) (sm_fill (sm_fw O) (fun i => if i < 32 then sm_ob M (8 * t + i) else sm_ob M (8 * t + 31)) 0 (k + 1)) (sm_fill (sm_fw G) (fun i => if i < 32 then sm_ol M (8 * t + i) else sm_ol M (8 * t + 31)) 0 (k + 1)))) hx hb hK hP hD hS 6 0 rfl rfl (vp_in_nI (n := k) (by omega) (by decide)) dX1_load_163 (by rw [nI_clamp (by omega)]; exact sm_fillS0 (sm_fw G) (fun i => if i < 32 then sm_ol M (8 * t + i) else sm_ol M (8 * t + 31)) k) rfl (fun H locs hP hD hS => ?_)
          refine lv_iinc (k := 7) (v := nI (k + 1)) (lv' := [(5, .int (nI (k + 1))), (7, .int 1), (6, .int (nI k)), (0, .ref m0), (1, .int (nI r)), (2, .int (nI t)), (3, .int 4), (4, .int (sm_bI true))]) hx hb dX1_load_164 hl rfl (sm_inc k) (by decide) rfl (fun ls hl => ?_)
          refine lv_goto (tgt := 50) hx hb dX1_load_167 rfl ?_
          exact ih _ _ _ (lv_sub hl [3, 4, 5, 6, 7, 0] rfl) (sm_cP (rfl) hP) (sm_cD (rfl) hD) hS
      · refine lv_iconst (v := 1) hx hb dX1_load_126 (by decide) ?_
        refine lv_goto (tgt := 131) hx hb dX1_load_127 rfl ?_
        refine sm_eqi (y := sm_bI (if k < 32 then sm_ob M (8 * t + k) else sm_ob M (8 * t + 31))) (by rw [if_pos hkn]; simp [sm_bI, h123]) ?_
        refine sm_zast (f' := sm_fill (sm_fw O) (fun i => if i < 32 then sm_ob M (8 * t + i) else sm_ob M (8 * t + 31)) 0 (k + 1)) (ws' := (sm_wM cZ m0 m1 m2 m3 m4 m5 m6 0 (sm_fb V) (sm_fb S) (sm_fo M) (sm_fl M) (sm_fill (sm_fw O) (fun i => if i < 32 then sm_ob M (8 * t + i) else sm_ob M (8 * t + 31)) 0 (k + 1)) (sm_fill (sm_fw G) (fun i => if i < 32 then sm_ol M (8 * t + i) else sm_ol M (8 * t + 31)) 0 k))) hx hb hK hP hD hS 5 0 rfl rfl (vp_in_nI (n := k) (by omega) (by decide)) dX1_load_131 (by rw [nI_clamp (by omega)]; exact sm_fillS0 (sm_fw O) (fun i => if i < 32 then sm_ob M (8 * t + i) else sm_ob M (8 * t + 31)) k) rfl (fun H locs hP hD hS => ?_)
        refine lv_aload_n hx hb dX1_load_132 rfl (lv_at hl 2 rfl) ?_
        refine va_get (D := D) (ci := 1) (v := .ref m6) (C := RX1) (T := TX1) (N := 7) hx hb hts inX1 hown hK hP 0 rfl rfl 6 (by decide) (hw 238 rfl) (fun _ h9 => h9) rfl dX1_load_133 ?_
        refine lv_iload hx hb dX1_load_136 (lv_at hl 7 rfl) ?_
        refine lv_iload hx hb dX1_load_138 (lv_at hl 0 rfl) ?_
        refine lv_if_eq (tgt := 162) hx hb dX1_load_140 rfl (fun z => absurd z (by decide)) (fun _ => ?_)
        refine lv_aload_n hx hb dX1_load_143 rfl (lv_at hl 2 rfl) ?_
        refine va_get (D := D) (ci := 1) (v := .ref m4) (C := RX1) (T := TX1) (N := 7) hx hb hts inX1 hown hK hP 0 rfl rfl 4 (by decide) (hw 236 rfl) (fun _ h9 => h9) rfl dX1_load_144 ?_
        refine lv_bipush (v := 8) hx hb dX1_load_147 (by decide) ?_
        refine lv_iload_n hx hb dX1_load_149 rfl (lv_at hl 4 rfl) ?_
        refine lv_imul hx hb dX1_load_150 ?_
        refine sm_eqi (y := nI (8 * t)) (pk_mul 8 t) ?_
        refine lv_iload hx hb dX1_load_151 (lv_at hl 1 rfl) ?_
        refine lv_iadd hx hb dX1_load_153 ?_
        refine sm_eqi (y := nI ((8 * t) + k)) (nI_add (8 * t) k) ?_
        refine va_zald hx hb hK hP 4 0 rfl rfl (vp_in_nI (n := (8 * t) + k) (by omega) (by decide)) dX1_load_154 ?_
        refine sm_eqi (y := sm_bI (sm_ol M (8 * t + k))) ((sm_cl _ (n := 8 * t + k) (by omega)).trans rfl) ?_
        refine sm_ifb_eq (tgt := 162) hx hb dX1_load_155 rfl (fun h155 => ?_) (fun h155 => ?_)
        · refine lv_iconst (v := 0) hx hb dX1_load_162 (by decide) ?_
          refine sm_eqi (y := sm_bI (if k < 32 then sm_ol M (8 * t + k) else sm_ol M (8 * t + 31))) (by rw [if_pos hkn]; simp [sm_bI, h123, h155]) ?_
          refine sm_zast (f' := sm_fill (sm_fw G) (fun i => if i < 32 then sm_ol M (8 * t + i) else sm_ol M (8 * t + 31)) 0 (k + 1)) (ws' := (sm_wM cZ m0 m1 m2 m3 m4 m5 m6 0 (sm_fb V) (sm_fb S) (sm_fo M) (sm_fl M) (sm_fill (sm_fw O) (fun i => if i < 32 then sm_ob M (8 * t + i) else sm_ob M (8 * t + 31)) 0 (k + 1)) (sm_fill (sm_fw G) (fun i => if i < 32 then sm_ol M (8 * t + i) else sm_ol M (8 * t + 31)) 0 (k + 1)))) hx hb hK hP hD hS 6 0 rfl rfl (vp_in_nI (n := k) (by omega) (by decide)) dX1_load_163 (by rw [nI_clamp (by omega)]; exact sm_fillS0 (sm_fw G) (fun i => if i < 32 then sm_ol M (8 * t + i) else sm_ol M (8 * t + 31)) k) rfl (fun H locs hP hD hS => ?_)
          refine lv_iinc (k := 7) (v := nI (k + 1)) (lv' := [(5, .int (nI (k + 1))), (7, .int 1), (6, .int (nI k)), (0, .ref m0), (1, .int (nI r)), (2, .int (nI t)), (3, .int 4), (4, .int (sm_bI true))]) hx hb dX1_load_164 hl rfl (sm_inc k) (by decide) rfl (fun ls hl => ?_)
          refine lv_goto (tgt := 50) hx hb dX1_load_167 rfl ?_
          exact ih _ _ _ (lv_sub hl [3, 4, 5, 6, 7, 0] rfl) (sm_cP (rfl) hP) (sm_cD (rfl) hD) hS
        · refine lv_iconst (v := 1) hx hb dX1_load_158 (by decide) ?_
          refine lv_goto (tgt := 163) hx hb dX1_load_159 rfl ?_
          refine sm_eqi (y := sm_bI (if k < 32 then sm_ol M (8 * t + k) else sm_ol M (8 * t + 31))) (by rw [if_pos hkn]; simp [sm_bI, h123, h155]) ?_
          refine sm_zast (f' := sm_fill (sm_fw G) (fun i => if i < 32 then sm_ol M (8 * t + i) else sm_ol M (8 * t + 31)) 0 (k + 1)) (ws' := (sm_wM cZ m0 m1 m2 m3 m4 m5 m6 0 (sm_fb V) (sm_fb S) (sm_fo M) (sm_fl M) (sm_fill (sm_fw O) (fun i => if i < 32 then sm_ob M (8 * t + i) else sm_ob M (8 * t + 31)) 0 (k + 1)) (sm_fill (sm_fw G) (fun i => if i < 32 then sm_ol M (8 * t + i) else sm_ol M (8 * t + 31)) 0 (k + 1)))) hx hb hK hP hD hS 6 0 rfl rfl (vp_in_nI (n := k) (by omega) (by decide)) dX1_load_163 (by rw [nI_clamp (by omega)]; exact sm_fillS0 (sm_fw G) (fun i => if i < 32 then sm_ol M (8 * t + i) else sm_ol M (8 * t + 31)) k) rfl (fun H locs hP hD hS => ?_)
          refine lv_iinc (k := 7) (v := nI (k + 1)) (lv' := [(5, .int (nI (k + 1))), (7, .int 1), (6, .int (nI k)), (0, .ref m0), (1, .int (nI r)), (2, .int (nI t)), (3, .int 4), (4, .int (sm_bI true))]) hx hb dX1_load_164 hl rfl (sm_inc k) (by decide) rfl (fun ls hl => ?_)
          refine lv_goto (tgt := 50) hx hb dX1_load_167 rfl ?_
          exact ih _ _ _ (lv_sub hl [3, 4, 5, 6, 7, 0] rfl) (sm_cP (rfl) hP) (sm_cD (rfl) hD) hS
    · refine lv_iload hx hb dX1_load_57 (lv_at hl 5 rfl) ?_
      refine lv_bipush (v := 8) hx hb dX1_load_59 (by decide) ?_
      refine lv_iload_n hx hb dX1_load_61 rfl (lv_at hl 3 rfl) ?_
      refine lv_imul hx hb dX1_load_62 ?_
      refine sm_eqi (y := 32) (by decide) ?_
      refine lv_icmp_ge (tgt := 71) hx hb dX1_load_63 rfl (fun _ => ?_) (fun z => absurd (nI_le (a := 32) hkn (by omega)) z)
      refine lv_bipush (v := 8) hx hb dX1_load_71 (by decide) ?_
      refine lv_iload_n hx hb dX1_load_73 rfl (lv_at hl 3 rfl) ?_
      refine lv_imul hx hb dX1_load_74 ?_
      refine sm_eqi (y := 32) (by decide) ?_
      refine lv_iconst (v := 1) hx hb dX1_load_75 (by decide) ?_
      refine lv_isub hx hb dX1_load_76 ?_
      refine sm_eqi (y := 31) (by decide) ?_
      refine lv_istore (lv' := [(6, .int 31), (0, .ref m0), (1, .int (nI r)), (2, .int (nI t)), (3, .int 4), (4, .int (sm_bI true)), (5, .int (nI k))]) hx hb dX1_load_77 hl (by decide) rfl (fun ls hl => ?_)
      refine lv_iload hx hb dX1_load_79 (lv_at hl 6 rfl) ?_
      refine lv_bipush (v := 8) hx hb dX1_load_81 (by decide) ?_
      refine lv_iload_n hx hb dX1_load_83 rfl (lv_at hl 4 rfl) ?_
      refine lv_imul hx hb dX1_load_84 ?_
      refine sm_eqi (y := 32) (by decide) ?_
      refine lv_icmp_lt (tgt := 93) hx hb dX1_load_85 rfl (fun z => absurd z (nI_nlt (b := 32) hkn (by omega))) (fun _ => ?_)
      refine lv_iload hx hb dX1_load_88 (lv_at hl 5 rfl) ?_
      refine lv_if_eq (tgt := 97) hx hb dX1_load_90 rfl (fun z => absurd z (by decide)) (fun _ => ?_)
      refine lv_iconst (v := 1) hx hb dX1_load_93 (by decide) ?_
      refine lv_goto (tgt := 98) hx hb dX1_load_94 rfl ?_
      refine lv_istore (lv' := [(7, .int 1), (6, .int 31), (0, .ref m0), (1, .int (nI r)), (2, .int (nI t)), (3, .int 4), (4, .int (sm_bI true)), (5, .int (nI k))]) hx hb dX1_load_98 hl (by decide) rfl (fun ls hl => ?_)
      refine lv_aload_n hx hb dX1_load_100 rfl (lv_at hl 2 rfl) ?_
      refine va_get (D := D) (ci := 1) (v := .ref m5) (C := RX1) (T := TX1) (N := 7) hx hb hts inX1 hown hK hP 0 rfl rfl 5 (by decide) (hw 237 rfl) (fun _ h9 => h9) rfl dX1_load_101 ?_
      refine lv_iload hx hb dX1_load_104 (lv_at hl 7 rfl) ?_
      refine lv_iload hx hb dX1_load_106 (lv_at hl 0 rfl) ?_
      refine lv_if_eq (tgt := 130) hx hb dX1_load_108 rfl (fun z => absurd z (by decide)) (fun _ => ?_)
      refine lv_aload_n hx hb dX1_load_111 rfl (lv_at hl 2 rfl) ?_
      refine va_get (D := D) (ci := 1) (v := .ref m3) (C := RX1) (T := TX1) (N := 7) hx hb hts inX1 hown hK hP 0 rfl rfl 3 (by decide) (hw 235 rfl) (fun _ h9 => h9) rfl dX1_load_112 ?_
      refine lv_bipush (v := 8) hx hb dX1_load_115 (by decide) ?_
      refine lv_iload_n hx hb dX1_load_117 rfl (lv_at hl 4 rfl) ?_
      refine lv_imul hx hb dX1_load_118 ?_
      refine sm_eqi (y := nI (8 * t)) (pk_mul 8 t) ?_
      refine lv_iload hx hb dX1_load_119 (lv_at hl 1 rfl) ?_
      refine lv_iadd hx hb dX1_load_121 ?_
      refine sm_eqi (y := nI ((8 * t) + 31)) (nI_add (8 * t) 31) ?_
      refine va_zald hx hb hK hP 3 0 rfl rfl (vp_in_nI (n := (8 * t) + 31) (by omega) (by decide)) dX1_load_122 ?_
      refine sm_eqi (y := sm_bI (sm_ob M (8 * t + 31))) ((sm_cl _ (n := 8 * t + 31) (by omega)).trans rfl) ?_
      refine sm_ifb_eq (tgt := 130) hx hb dX1_load_123 rfl (fun h123 => ?_) (fun h123 => ?_)
      · refine lv_iconst (v := 0) hx hb dX1_load_130 (by decide) ?_
        refine sm_eqi (y := sm_bI (if k < 32 then sm_ob M (8 * t + k) else sm_ob M (8 * t + 31))) (by rw [if_neg (Nat.not_lt.mpr hkn)]; simp [sm_bI, h123]) ?_
        refine sm_zast (f' := sm_fill (sm_fw O) (fun i => if i < 32 then sm_ob M (8 * t + i) else sm_ob M (8 * t + 31)) 0 (k + 1)) (ws' := (sm_wM cZ m0 m1 m2 m3 m4 m5 m6 0 (sm_fb V) (sm_fb S) (sm_fo M) (sm_fl M) (sm_fill (sm_fw O) (fun i => if i < 32 then sm_ob M (8 * t + i) else sm_ob M (8 * t + 31)) 0 (k + 1)) (sm_fill (sm_fw G) (fun i => if i < 32 then sm_ol M (8 * t + i) else sm_ol M (8 * t + 31)) 0 k))) hx hb hK hP hD hS 5 0 rfl rfl (vp_in_nI (n := k) (by omega) (by decide)) dX1_load_131 (by rw [nI_clamp (by omega)]; exact sm_fillS0 (sm_fw O) (fun i => if i < 32 then sm_ob M (8 * t + i) else sm_ob M (8 * t + 31)) k) rfl (fun H locs hP hD hS => ?_)
        refine lv_aload_n hx hb dX1_load_132 rfl (lv_at hl 2 rfl) ?_
        refine va_get (D := D) (ci := 1) (v := .ref m6) (C := RX1) (T := TX1) (N := 7) hx hb hts inX1 hown hK hP 0 rfl rfl 6 (by decide) (hw 238 rfl) (fun _ h9 => h9) rfl dX1_load_133 ?_
        refine lv_iload hx hb dX1_load_136 (lv_at hl 7 rfl) ?_
        refine lv_iload hx hb dX1_load_138 (lv_at hl 0 rfl) ?_
        refine lv_if_eq (tgt := 162) hx hb dX1_load_140 rfl (fun z => absurd z (by decide)) (fun _ => ?_)
        refine lv_aload_n hx hb dX1_load_143 rfl (lv_at hl 2 rfl) ?_
        refine va_get (D := D) (ci := 1) (v := .ref m4) (C := RX1) (T := TX1) (N := 7) hx hb hts inX1 hown hK hP 0 rfl rfl 4 (by decide) (hw 236 rfl) (fun _ h9 => h9) rfl dX1_load_144 ?_
        refine lv_bipush (v := 8) hx hb dX1_load_147 (by decide) ?_
        refine lv_iload_n hx hb dX1_load_149 rfl (lv_at hl 4 rfl) ?_
        refine lv_imul hx hb dX1_load_150 ?_
        refine sm_eqi (y := nI (8 * t)) (pk_mul 8 t) ?_
        refine lv_iload hx hb dX1_load_151 (lv_at hl 1 rfl) ?_
        refine lv_iadd hx hb dX1_load_153 ?_
        refine sm_eqi (y := nI ((8 * t) + 31)) (nI_add (8 * t) 31) ?_
        refine va_zald hx hb hK hP 4 0 rfl rfl (vp_in_nI (n := (8 * t) + 31) (by omega) (by decide)) dX1_load_154 ?_
        refine sm_eqi (y := sm_bI (sm_ol M (8 * t + 31))) ((sm_cl _ (n := 8 * t + 31) (by omega)).trans rfl) ?_
        refine sm_ifb_eq (tgt := 162) hx hb dX1_load_155 rfl (fun h155 => ?_) (fun h155 => ?_)
        · refine lv_iconst (v := 0) hx hb dX1_load_162 (by decide) ?_
          refine sm_eqi (y := sm_bI (if k < 32 then sm_ol M (8 * t + k) else sm_ol M (8 * t + 31))) (by rw [if_neg (Nat.not_lt.mpr hkn)]; simp [sm_bI, h123, h155]) ?_
          refine sm_zast (f' := sm_fill (sm_fw G) (fun i => if i < 32 then sm_ol M (8 * t + i) else sm_ol M (8 * t + 31)) 0 (k + 1)) (ws' := (sm_wM cZ m0 m1 m2 m3 m4 m5 m6 0 (sm_fb V) (sm_fb S) (sm_fo M) (sm_fl M) (sm_fill (sm_fw O) (fun i => if i < 32 then sm_ob M (8 * t + i) else sm_ob M (8 * t + 31)) 0 (k + 1)) (sm_fill (sm_fw G) (fun i => if i < 32 then sm_ol M (8 * t + i) else sm_ol M (8 * t + 31)) 0 (k + 1)))) hx hb hK hP hD hS 6 0 rfl rfl (vp_in_nI (n := k) (by omega) (by decide)) dX1_load_163 (by rw [nI_clamp (by omega)]; exact sm_fillS0 (sm_fw G) (fun i => if i < 32 then sm_ol M (8 * t + i) else sm_ol M (8 * t + 31)) k) rfl (fun H locs hP hD hS => ?_)
          refine lv_iinc (k := 7) (v := nI (k + 1)) (lv' := [(5, .int (nI (k + 1))), (7, .int 1), (6, .int 31), (0, .ref m0), (1, .int (nI r)), (2, .int (nI t)), (3, .int 4), (4, .int (sm_bI true))]) hx hb dX1_load_164 hl rfl (sm_inc k) (by decide) rfl (fun ls hl => ?_)
          refine lv_goto (tgt := 50) hx hb dX1_load_167 rfl ?_
          exact ih _ _ _ (lv_sub hl [3, 4, 5, 6, 7, 0] rfl) (sm_cP (rfl) hP) (sm_cD (rfl) hD) hS
        · refine lv_iconst (v := 1) hx hb dX1_load_158 (by decide) ?_
          refine lv_goto (tgt := 163) hx hb dX1_load_159 rfl ?_
          refine sm_eqi (y := sm_bI (if k < 32 then sm_ol M (8 * t + k) else sm_ol M (8 * t + 31))) (by rw [if_neg (Nat.not_lt.mpr hkn)]; simp [sm_bI, h123, h155]) ?_
          refine sm_zast (f' := sm_fill (sm_fw G) (fun i => if i < 32 then sm_ol M (8 * t + i) else sm_ol M (8 * t + 31)) 0 (k + 1)) (ws' := (sm_wM cZ m0 m1 m2 m3 m4 m5 m6 0 (sm_fb V) (sm_fb S) (sm_fo M) (sm_fl M) (sm_fill (sm_fw O) (fun i => if i < 32 then sm_ob M (8 * t + i) else sm_ob M (8 * t + 31)) 0 (k + 1)) (sm_fill (sm_fw G) (fun i => if i < 32 then sm_ol M (8 * t + i) else sm_ol M (8 * t + 31)) 0 (k + 1)))) hx hb hK hP hD hS 6 0 rfl rfl (vp_in_nI (n := k) (by omega) (by decide)) dX1_load_163 (by rw [nI_clamp (by omega)]; exact sm_fillS0 (sm_fw G) (fun i => if i < 32 then sm_ol M (8 * t + i) else sm_ol M (8 * t + 31)) k) rfl (fun H locs hP hD hS => ?_)
          refine lv_iinc (k := 7) (v := nI (k + 1)) (lv' := [(5, .int (nI (k + 1))), (7, .int 1), (6, .int 31), (0, .ref m0), (1, .int (nI r)), (2, .int (nI t)), (3, .int 4), (4, .int (sm_bI true))]) hx hb dX1_load_164 hl rfl (sm_inc k) (by decide) rfl (fun ls hl => ?_)
          refine lv_goto (tgt := 50) hx hb dX1_load_167 rfl ?_
          exact ih _ _ _ (lv_sub hl [3, 4, 5, 6, 7, 0] rfl) (sm_cP (rfl) hP) (sm_cD (rfl) hD) hS
      · refine lv_iconst (v := 1) hx hb dX1_load_126 (by decide) ?_
        refine lv_goto (tgt := 131) hx hb dX1_load_127 rfl ?_
        refine sm_eqi (y := sm_bI (if k < 32 then sm_ob M (8 * t + k) else sm_ob M (8 * t + 31))) (by rw [if_neg (Nat.not_lt.mpr hkn)]; simp [sm_bI, h123]) ?_
        refine sm_zast (f' := sm_fill (sm_fw O) (fun i => if i < 32 then sm_ob M (8 * t + i) else sm_ob M (8 * t + 31)) 0 (k + 1)) (ws' := (sm_wM cZ m0 m1 m2 m3 m4 m5 m6 0 (sm_fb V) (sm_fb S) (sm_fo M) (sm_fl M) (sm_fill (sm_fw O) (fun i => if i < 32 then sm_ob M (8 * t + i) else sm_ob M (8 * t + 31)) 0 (k + 1)) (sm_fill (sm_fw G) (fun i => if i < 32 then sm_ol M (8 * t + i) else sm_ol M (8 * t + 31)) 0 k))) hx hb hK hP hD hS 5 0 rfl rfl (vp_in_nI (n := k) (by omega) (by decide)) dX1_load_131 (by rw [nI_clamp (by omega)]; exact sm_fillS0 (sm_fw O) (fun i => if i < 32 then sm_ob M (8 * t + i) else sm_ob M (8 * t + 31)) k) rfl (fun H locs hP hD hS => ?_)
        refine lv_aload_n hx hb dX1_load_132 rfl (lv_at hl 2 rfl) ?_
        refine va_get (D := D) (ci := 1) (v := .ref m6) (C := RX1) (T := TX1) (N := 7) hx hb hts inX1 hown hK hP 0 rfl rfl 6 (by decide) (hw 238 rfl) (fun _ h9 => h9) rfl dX1_load_133 ?_
        refine lv_iload hx hb dX1_load_136 (lv_at hl 7 rfl) ?_
        refine lv_iload hx hb dX1_load_138 (lv_at hl 0 rfl) ?_
        refine lv_if_eq (tgt := 162) hx hb dX1_load_140 rfl (fun z => absurd z (by decide)) (fun _ => ?_)
        refine lv_aload_n hx hb dX1_load_143 rfl (lv_at hl 2 rfl) ?_
        refine va_get (D := D) (ci := 1) (v := .ref m4) (C := RX1) (T := TX1) (N := 7) hx hb hts inX1 hown hK hP 0 rfl rfl 4 (by decide) (hw 236 rfl) (fun _ h9 => h9) rfl dX1_load_144 ?_
        refine lv_bipush (v := 8) hx hb dX1_load_147 (by decide) ?_
        refine lv_iload_n hx hb dX1_load_149 rfl (lv_at hl 4 rfl) ?_
        refine lv_imul hx hb dX1_load_150 ?_
        refine sm_eqi (y := nI (8 * t)) (pk_mul 8 t) ?_
        refine lv_iload hx hb dX1_load_151 (lv_at hl 1 rfl) ?_
        refine lv_iadd hx hb dX1_load_153 ?_
        refine sm_eqi (y := nI ((8 * t) + 31)) (nI_add (8 * t) 31) ?_
        refine va_zald hx hb hK hP 4 0 rfl rfl (vp_in_nI (n := (8 * t) + 31) (by omega) (by decide)) dX1_load_154 ?_
        refine sm_eqi (y := sm_bI (sm_ol M (8 * t + 31))) ((sm_cl _ (n := 8 * t + 31) (by omega)).trans rfl) ?_
        refine sm_ifb_eq (tgt := 162) hx hb dX1_load_155 rfl (fun h155 => ?_) (fun h155 => ?_)
        · refine lv_iconst (v := 0) hx hb dX1_load_162 (by decide) ?_
          refine sm_eqi (y := sm_bI (if k < 32 then sm_ol M (8 * t + k) else sm_ol M (8 * t + 31))) (by rw [if_neg (Nat.not_lt.mpr hkn)]; simp [sm_bI, h123, h155]) ?_
          refine sm_zast (f' := sm_fill (sm_fw G) (fun i => if i < 32 then sm_ol M (8 * t + i) else sm_ol M (8 * t + 31)) 0 (k + 1)) (ws' := (sm_wM cZ m0 m1 m2 m3 m4 m5 m6 0 (sm_fb V) (sm_fb S) (sm_fo M) (sm_fl M) (sm_fill (sm_fw O) (fun i => if i < 32 then sm_ob M (8 * t + i) else sm_ob M (8 * t + 31)) 0 (k + 1)) (sm_fill (sm_fw G) (fun i => if i < 32 then sm_ol M (8 * t + i) else sm_ol M (8 * t + 31)) 0 (k + 1)))) hx hb hK hP hD hS 6 0 rfl rfl (vp_in_nI (n := k) (by omega) (by decide)) dX1_load_163 (by rw [nI_clamp (by omega)]; exact sm_fillS0 (sm_fw G) (fun i => if i < 32 then sm_ol M (8 * t + i) else sm_ol M (8 * t + 31)) k) rfl (fun H locs hP hD hS => ?_)
          refine lv_iinc (k := 7) (v := nI (k + 1)) (lv' := [(5, .int (nI (k + 1))), (7, .int 1), (6, .int 31), (0, .ref m0), (1, .int (nI r)), (2, .int (nI t)), (3, .int 4), (4, .int (sm_bI true))]) hx hb dX1_load_164 hl rfl (sm_inc k) (by decide) rfl (fun ls hl => ?_)
          refine lv_goto (tgt := 50) hx hb dX1_load_167 rfl ?_
          exact ih _ _ _ (lv_sub hl [3, 4, 5, 6, 7, 0] rfl) (sm_cP (rfl) hP) (sm_cD (rfl) hD) hS
        · refine lv_iconst (v := 1) hx hb dX1_load_158 (by decide) ?_
          refine lv_goto (tgt := 163) hx hb dX1_load_159 rfl ?_
          refine sm_eqi (y := sm_bI (if k < 32 then sm_ol M (8 * t + k) else sm_ol M (8 * t + 31))) (by rw [if_neg (Nat.not_lt.mpr hkn)]; simp [sm_bI, h123, h155]) ?_
          refine sm_zast (f' := sm_fill (sm_fw G) (fun i => if i < 32 then sm_ol M (8 * t + i) else sm_ol M (8 * t + 31)) 0 (k + 1)) (ws' := (sm_wM cZ m0 m1 m2 m3 m4 m5 m6 0 (sm_fb V) (sm_fb S) (sm_fo M) (sm_fl M) (sm_fill (sm_fw O) (fun i => if i < 32 then sm_ob M (8 * t + i) else sm_ob M (8 * t + 31)) 0 (k + 1)) (sm_fill (sm_fw G) (fun i => if i < 32 then sm_ol M (8 * t + i) else sm_ol M (8 * t + 31)) 0 (k + 1)))) hx hb hK hP hD hS 6 0 rfl rfl (vp_in_nI (n := k) (by omega) (by decide)) dX1_load_163 (by rw [nI_clamp (by omega)]; exact sm_fillS0 (sm_fw G) (fun i => if i < 32 then sm_ol M (8 * t + i) else sm_ol M (8 * t + 31)) k) rfl (fun H locs hP hD hS => ?_)
          refine lv_iinc (k := 7) (v := nI (k + 1)) (lv' := [(5, .int (nI (k + 1))), (7, .int 1), (6, .int 31), (0, .ref m0), (1, .int (nI r)), (2, .int (nI t)), (3, .int 4), (4, .int (sm_bI true))]) hx hb dX1_load_164 hl rfl (sm_inc k) (by decide) rfl (fun ls hl => ?_)
          refine lv_goto (tgt := 50) hx hb dX1_load_167 rfl ?_
          exact ih _ _ _ (lv_sub hl [3, 4, 5, 6, 7, 0] rfl) (sm_cP (rfl) hP) (sm_cD (rfl) hD) hS
set_option maxHeartbeats 4000000 in
set_option maxRecDepth 100000 in
theorem c_mload_4_f (l : Launch) (D : va_G) (cZ : ClassId) (m0 m1 m2 m3 m4 m5 m6 : Nat) (err : Int32) (V S M : Nat → Int32) (O G : Int32) (r t : Nat) (hr : r < 16) (ht : t + 4 ≤ 256) (hM : ∀ a, M a = M a &&& 65535) : sm_C l yX1_load wsX1_load ({ frames := 5, cells := 0, slots := 0, locals := 140 } : Room) D vwCl [(cZ, .boolean)] [.ref m0, .int (nI r), .int (nI t), .int 4, .int (sm_bI false)] (sm_wM cZ m0 m1 m2 m3 m4 m5 m6 err (sm_fb V) (sm_fb S) (sm_fo M) (sm_fl M) (sm_fw O) (sm_fw G)) none (sm_wM cZ m0 m1 m2 m3 m4 m5 m6 0 (sm_fb (upd V r (sm_ushr ((sm_lv (fun j => M (t + j) &&& 255) 4) <<< (nI 0 &&& 31)) (nI 0)))) (sm_fb (upd S r (sm_ushr ((sm_lv (fun j => sm_ushr (M (t + j)) 8) 4) <<< (nI 0 &&& 31)) (nI 0)))) (sm_fo M) (sm_fl M) (sm_fw (sm_ushr ((sm_lv (fun j => M (t + j) &&& 255) 4) <<< (nI 0 &&& 31)) (nI 0))) (sm_fw (sm_ushr ((sm_lv (fun j => sm_ushr (M (t + j)) 8) 4) <<< (nI 0 &&& 31)) (nI 0)))) := by
  refine sm_start (cc := cX1_load) (maxL := 8) (ret := none) (lv := [(0, .ref m0), (1, .int (nI r)), (2, .int (nI t)), (3, .int 4), (4, .int (sm_bI false))]) (by decide) rfl (Nat.le_of_ble_eq_true rfl) rfl ?_
  intro p e s m below meth c hx hb hrt hts hown hlocks hml hin hK hP hD hS hA ls hl
  have hw := sm_hw hts
  refine lv_aload_n hx hb dX1_load_0 rfl (lv_at hl 0 rfl) ?_
  refine lv_iload_n hx hb dX1_load_1 rfl (lv_at hl 3 rfl) ?_
  refine sm_callS (As := [.int 4]) (rest := [.ref m0]) (wr := (sm_wM cZ m0 m1 m2 m3 m4 m5 m6 err (sm_fb V) (sm_fb S) (sm_fo M) (sm_fl M) (sm_fw O) (sm_fw G))) (wn := (sm_wM cZ m0 m1 m2 m3 m4 m5 m6 err (sm_fb V) (sm_fb S) (sm_fo M) (sm_fl M) (sm_fw O) (sm_fw G))) (st1 := [.int (sm_bI false), .ref m0]) ⟨hx, hb, hml, hown, hts⟩ (c_wrong_4 l D) (va_cwS 1 hts (sm_gS (i1 := 311) (i2 := 312) (i4 := 2) (i5 := 313) rfl rfl rfl rfl) rfl rfl rfl (by decide +kernel) ⟨Nat.le_of_ble_eq_true rfl, Nat.le_of_ble_eq_true rfl⟩) hK [] rfl hP hD hS hA [] [0, 1, 2, 3, 4, 5, 6] rfl rfl (by decide) (by decide) (by decide) rfl hl.1 rfl (Nat.le_of_ble_eq_true rfl) dX1_load_2 ⟨Nat.le_of_ble_eq_true rfl, Nat.le_of_ble_eq_true rfl⟩ rfl rfl (fun H locs hP hD hS => ?_)
  refine lv_iconst (v := 1) hx hb dX1_load_5 (by decide) ?_
  refine sm_callV (C := RX1) (As := [.int (sm_bI false), .int 1]) (rest := []) (wr := []) (wn := (sm_wM cZ m0 m1 m2 m3 m4 m5 m6 0 (sm_fb V) (sm_fb S) (sm_fo M) (sm_fl M) (sm_fw O) (sm_fw G))) (st1 := [.int (sm_bI false)]) ⟨hx, hb, hml, hown, hts⟩ (c_fails_f l D cZ m0 m1 m2 m3 m4 m5 m6 err V S M O G 1) (cwV 2 hts (sm_gV (i1 := 266) (i2 := 267) (i3 := 348) (i4 := 2) (i5 := 268) rfl rfl rfl rfl rfl) rfl rfl rfl (by decide +kernel) ⟨Nat.le_of_ble_eq_true rfl, Nat.le_of_ble_eq_true rfl⟩) hK [0] rfl hP hD hS hA 0 rfl rfl [0, 1, 2, 3, 4, 5, 6] [] rfl rfl (by decide) (by decide) (by decide) rfl hl.1 rfl (Nat.le_of_ble_eq_true rfl) dX1_load_6 ⟨Nat.le_of_ble_eq_true rfl, Nat.le_of_ble_eq_true rfl⟩ rfl rfl (fun H locs hP hD hS => ?_)
  refine lv_if_eq (tgt := 13) hx hb dX1_load_9 rfl (fun _ => ?_) (fun z => absurd (by decide) z)
  refine lv_aload_n hx hb dX1_load_13 rfl (lv_at hl 0 rfl) ?_
  refine lv_iload_n hx hb dX1_load_14 rfl (lv_at hl 1 rfl) ?_
  refine sm_callS (As := [.int (nI r)]) (rest := [.ref m0]) (wr := (sm_wM cZ m0 m1 m2 m3 m4 m5 m6 0 (sm_fb V) (sm_fb S) (sm_fo M) (sm_fl M) (sm_fw O) (sm_fw G))) (wn := (sm_wM cZ m0 m1 m2 m3 m4 m5 m6 0 (sm_fb V) (sm_fb S) (sm_fo M) (sm_fl M) (sm_fw O) (sm_fw G))) (st1 := [.int (sm_bI false), .ref m0]) ⟨hx, hb, hml, hown, hts⟩ (c_none_f l D r (by omega)) (va_cwS 1 hts (sm_gS (i1 := 263) (i2 := 264) (i4 := 2) (i5 := 265) rfl rfl rfl rfl) rfl rfl rfl (by decide +kernel) ⟨Nat.le_of_ble_eq_true rfl, Nat.le_of_ble_eq_true rfl⟩) hK [] rfl hP hD hS hA [] [0, 1, 2, 3, 4, 5, 6] rfl rfl (by decide) (by decide) (by decide) rfl hl.1 rfl (Nat.le_of_ble_eq_true rfl) dX1_load_15 ⟨Nat.le_of_ble_eq_true rfl, Nat.le_of_ble_eq_true rfl⟩ rfl rfl (fun H locs hP hD hS => ?_)
  refine lv_if_ne (tgt := 34) hx hb dX1_load_18 rfl (fun z => absurd (by decide) z) (fun _ => ?_)
  refine lv_iload_n hx hb dX1_load_21 rfl (lv_at hl 2 rfl) ?_
  refine lv_if_lt (tgt := 34) hx hb dX1_load_22 rfl (fun z => absurd z (nI_pos (by omega))) (fun _ => ?_)
  refine lv_iload_n hx hb dX1_load_25 rfl (lv_at hl 2 rfl) ?_
  refine lv_sipush (v := 256) hx hb dX1_load_26 (by decide) ?_
  refine lv_iload_n hx hb dX1_load_29 rfl (lv_at hl 3 rfl) ?_
  refine lv_isub hx hb dX1_load_30 ?_
  refine sm_eqi (y := 252) (by decide) ?_
  refine lv_icmp_le (tgt := 38) hx hb dX1_load_31 rfl (fun _ => ?_) (fun z => absurd (nI_le (b := 252) (by omega) (by decide)) z)
  refine lv_iconst (v := 0) hx hb dX1_load_38 (by decide) ?_
  refine lv_iconst (v := 2) hx hb dX1_load_39 (by decide) ?_
  refine sm_callV (C := RX1) (As := [.int (sm_bI false), .int 2]) (rest := []) (wr := []) (wn := (sm_wM cZ m0 m1 m2 m3 m4 m5 m6 0 (sm_fb V) (sm_fb S) (sm_fo M) (sm_fl M) (sm_fw O) (sm_fw G))) (st1 := [.int (sm_bI false)]) ⟨hx, hb, hml, hown, hts⟩ (c_fails_f l D cZ m0 m1 m2 m3 m4 m5 m6 0 V S M O G 2) (cwV 2 hts (sm_gV (i1 := 266) (i2 := 267) (i3 := 348) (i4 := 2) (i5 := 268) rfl rfl rfl rfl rfl) rfl rfl rfl (by decide +kernel) ⟨Nat.le_of_ble_eq_true rfl, Nat.le_of_ble_eq_true rfl⟩) hK [0] rfl hP hD hS hA 0 rfl rfl [0, 1, 2, 3, 4, 5, 6] [] rfl rfl (by decide) (by decide) (by decide) rfl hl.1 rfl (Nat.le_of_ble_eq_true rfl) dX1_load_40 ⟨Nat.le_of_ble_eq_true rfl, Nat.le_of_ble_eq_true rfl⟩ rfl rfl (fun H locs hP hD hS => ?_)
  refine lv_if_eq (tgt := 47) hx hb dX1_load_43 rfl (fun _ => ?_) (fun z => absurd (by decide) z)
  refine lv_iconst (v := 0) hx hb dX1_load_47 (by decide) ?_
  refine lv_istore (lv' := [(5, .int 0), (0, .ref m0), (1, .int (nI r)), (2, .int (nI t)), (3, .int 4), (4, .int (sm_bI false))]) hx hb dX1_load_48 hl (by decide) rfl (fun ls hl => ?_)
  refine sm_loopW (nL := 8) (lv := fun k => [(0, .ref m0), (1, .int (nI r)), (2, .int (nI t)), (3, .int 4), (4, .int (sm_bI false)), (5, .int (nI k))]) (w := fun k => (sm_wM cZ m0 m1 m2 m3 m4 m5 m6 0 (sm_fb V) (sm_fb S) (sm_fo M) (sm_fl M) (sm_fill (sm_fw O) (fun i => if i < 32 then sm_ob M (8 * t + i) else false) 0 k) (sm_fill (sm_fw G) (fun i => if i < 32 then sm_ol M (8 * t + i) else false) 0 k))) 32 (fun H locs ls hl hP hD hS => ?_) (fun k hk ih H locs ls hl hP hD hS => ?_) (lv_sub hl [1, 2, 3, 4, 5, 0] rfl) (sm_cP (by simp only [sm_fill0]) hP) (sm_cD (by simp only [sm_fill0]) hD) hS
  · have hl : lv_has ls 8 [(0, .ref m0), (1, .int (nI r)), (2, .int (nI t)), (3, .int 4), (4, .int (sm_bI false)), (5, .int (nI 32))] := hl
    have hP : va_P D vwCl (sm_wM cZ m0 m1 m2 m3 m4 m5 m6 0 (sm_fb V) (sm_fb S) (sm_fo M) (sm_fl M) (sm_fill (sm_fw O) (fun i => if i < 32 then sm_ob M (8 * t + i) else false) 0 32) (sm_fill (sm_fw G) (fun i => if i < 32 then sm_ol M (8 * t + i) else false) 0 32)) H := hP
    have hD : va_D _ (sm_wM cZ m0 m1 m2 m3 m4 m5 m6 0 (sm_fb V) (sm_fb S) (sm_fo M) (sm_fl M) (sm_fill (sm_fw O) (fun i => if i < 32 then sm_ob M (8 * t + i) else false) 0 32) (sm_fill (sm_fw G) (fun i => if i < 32 then sm_ol M (8 * t + i) else false) 0 32)) := hD
    refine lv_iload hx hb dX1_load_50 (lv_at hl 5 rfl) ?_
    refine lv_bipush (v := 32) hx hb dX1_load_52 (by decide) ?_
    refine lv_icmp_ge (tgt := 170) hx hb dX1_load_54 rfl (fun _ => ?_) (fun z => absurd (by decide) z)
    have hP : va_P D vwCl (sm_wM cZ m0 m1 m2 m3 m4 m5 m6 0 (sm_fb V) (sm_fb S) (sm_fo M) (sm_fl M) (sm_fw (sm_ushr ((sm_lv (fun j => M (t + j) &&& 255) 4) <<< (nI 0 &&& 31)) (nI 0))) (sm_fw (sm_ushr ((sm_lv (fun j => sm_ushr (M (t + j)) 8) 4) <<< (nI 0 &&& 31)) (nI 0)))) H := sm_cP (by rw [sm_fill_w, sm_fill_w, sm_mkx (x := sm_ushr ((sm_lv (fun j => M (t + j) &&& 255) 4) <<< (nI 0 &&& 31)) (nI 0)) (sm_ldOu M t 4 (by decide) (by decide)), sm_mkx (x := sm_ushr ((sm_lv (fun j => sm_ushr (M (t + j)) 8) 4) <<< (nI 0 &&& 31)) (nI 0)) (sm_ldGu M hM t 4 (by decide) (by decide))]) hP
    have hD : va_D _ (sm_wM cZ m0 m1 m2 m3 m4 m5 m6 0 (sm_fb V) (sm_fb S) (sm_fo M) (sm_fl M) (sm_fw (sm_ushr ((sm_lv (fun j => M (t + j) &&& 255) 4) <<< (nI 0 &&& 31)) (nI 0))) (sm_fw (sm_ushr ((sm_lv (fun j => sm_ushr (M (t + j)) 8) 4) <<< (nI 0 &&& 31)) (nI 0)))) := sm_cD (by rw [sm_fill_w, sm_fill_w, sm_mkx (x := sm_ushr ((sm_lv (fun j => M (t + j) &&& 255) 4) <<< (nI 0 &&& 31)) (nI 0)) (sm_ldOu M t 4 (by decide) (by decide)), sm_mkx (x := sm_ushr ((sm_lv (fun j => sm_ushr (M (t + j)) 8) 4) <<< (nI 0 &&& 31)) (nI 0)) (sm_ldGu M hM t 4 (by decide) (by decide))]) hD
    refine lv_aload_n hx hb dX1_load_170 rfl (lv_at hl 0 rfl) ?_
    refine lv_iload_n hx hb dX1_load_171 rfl (lv_at hl 1 rfl) ?_
    refine sm_callV (C := RX1) (As := [.int (nI r)]) (rest := []) (wr := []) (wn := (sm_wM cZ m0 m1 m2 m3 m4 m5 m6 0 (sm_fb (upd V r (sm_ushr ((sm_lv (fun j => M (t + j) &&& 255) 4) <<< (nI 0 &&& 31)) (nI 0)))) (sm_fb (upd S r (sm_ushr ((sm_lv (fun j => sm_ushr (M (t + j)) 8) 4) <<< (nI 0 &&& 31)) (nI 0)))) (sm_fo M) (sm_fl M) (sm_fw (sm_ushr ((sm_lv (fun j => M (t + j) &&& 255) 4) <<< (nI 0 &&& 31)) (nI 0))) (sm_fw (sm_ushr ((sm_lv (fun j => sm_ushr (M (t + j)) 8) 4) <<< (nI 0 &&& 31)) (nI 0))))) (st1 := []) ⟨hx, hb, hml, hown, hts⟩ (c_give l D cZ m0 m1 m2 m3 m4 m5 m6 0 V S M (sm_ushr ((sm_lv (fun j => M (t + j) &&& 255) 4) <<< (nI 0 &&& 31)) (nI 0)) (sm_ushr ((sm_lv (fun j => sm_ushr (M (t + j)) 8) 4) <<< (nI 0 &&& 31)) (nI 0)) r (by omega)) (cwV 1 hts (sm_gV (i1 := 272) (i2 := 273) (i3 := 350) (i4 := 2) (i5 := 274) rfl rfl rfl rfl rfl) rfl rfl rfl (by decide +kernel) ⟨Nat.le_of_ble_eq_true rfl, Nat.le_of_ble_eq_true rfl⟩) hK [0] rfl hP hD hS hA 0 rfl rfl [0, 1, 2, 3, 4, 5, 6] [] rfl rfl (by decide) (by decide) (by decide) rfl hl.1 rfl (Nat.le_of_ble_eq_true rfl) dX1_load_172 ⟨Nat.le_of_ble_eq_true rfl, Nat.le_of_ble_eq_true rfl⟩ rfl rfl (fun H locs hP hD hS => ?_)
    exact sm_vret hx hb hrt hlocks hS hP hD dX1_load_175
  · have hl : lv_has ls 8 [(0, .ref m0), (1, .int (nI r)), (2, .int (nI t)), (3, .int 4), (4, .int (sm_bI false)), (5, .int (nI k))] := hl
    have hP : va_P D vwCl (sm_wM cZ m0 m1 m2 m3 m4 m5 m6 0 (sm_fb V) (sm_fb S) (sm_fo M) (sm_fl M) (sm_fill (sm_fw O) (fun i => if i < 32 then sm_ob M (8 * t + i) else false) 0 k) (sm_fill (sm_fw G) (fun i => if i < 32 then sm_ol M (8 * t + i) else false) 0 k)) H := hP
    have hD : va_D _ (sm_wM cZ m0 m1 m2 m3 m4 m5 m6 0 (sm_fb V) (sm_fb S) (sm_fo M) (sm_fl M) (sm_fill (sm_fw O) (fun i => if i < 32 then sm_ob M (8 * t + i) else false) 0 k) (sm_fill (sm_fw G) (fun i => if i < 32 then sm_ol M (8 * t + i) else false) 0 k)) := hD
    refine lv_iload hx hb dX1_load_50 (lv_at hl 5 rfl) ?_
    refine lv_bipush (v := 32) hx hb dX1_load_52 (by decide) ?_
    refine lv_icmp_ge (tgt := 170) hx hb dX1_load_54 rfl (fun z => absurd z (nI_ge (b := 32) hk (by decide))) (fun _ => ?_)
    rcases Nat.lt_or_ge k 32 with hkn | hkn
    · refine lv_iload hx hb dX1_load_57 (lv_at hl 5 rfl) ?_
      refine lv_bipush (v := 8) hx hb dX1_load_59 (by decide) ?_
      refine lv_iload_n hx hb dX1_load_61 rfl (lv_at hl 3 rfl) ?_
      refine lv_imul hx hb dX1_load_62 ?_
      refine sm_eqi (y := 32) (by decide) ?_
      refine lv_icmp_ge (tgt := 71) hx hb dX1_load_63 rfl (fun z => absurd z (nI_ge (b := 32) hkn (by decide))) (fun _ => ?_)
      refine lv_iload hx hb dX1_load_66 (lv_at hl 5 rfl) ?_
      refine lv_goto (tgt := 77) hx hb dX1_load_68 rfl ?_
      refine lv_istore (lv' := [(6, .int (nI k)), (0, .ref m0), (1, .int (nI r)), (2, .int (nI t)), (3, .int 4), (4, .int (sm_bI false)), (5, .int (nI k))]) hx hb dX1_load_77 hl (by decide) rfl (fun ls hl => ?_)
      refine lv_iload hx hb dX1_load_79 (lv_at hl 6 rfl) ?_
      refine lv_bipush (v := 8) hx hb dX1_load_81 (by decide) ?_
      refine lv_iload_n hx hb dX1_load_83 rfl (lv_at hl 4 rfl) ?_
      refine lv_imul hx hb dX1_load_84 ?_
      refine sm_eqi (y := 32) (by decide) ?_
      refine lv_icmp_lt (tgt := 93) hx hb dX1_load_85 rfl (fun _ => ?_) (fun z => absurd (nI_lt (b := 32) hkn (by decide)) z)
      refine lv_iconst (v := 1) hx hb dX1_load_93 (by decide) ?_
      refine lv_goto (tgt := 98) hx hb dX1_load_94 rfl ?_
      refine lv_istore (lv' := [(7, .int 1), (6, .int (nI k)), (0, .ref m0), (1, .int (nI r)), (2, .int (nI t)), (3, .int 4), (4, .int (sm_bI false)), (5, .int (nI k))]) hx hb dX1_load_98 hl (by decide) rfl (fun ls hl => ?_)
      refine lv_aload_n hx hb dX1_load_100 rfl (lv_at hl 2 rfl) ?_
      refine va_get (D := D) (ci := 1) (v := .ref m5) (C := RX1) (T := TX1) (N := 7) hx hb hts inX1 hown hK hP 0 rfl rfl 5 (by decide) (hw 237 rfl) (fun _ h9 => h9) rfl dX1_load_101 ?_
      refine lv_iload hx hb dX1_load_104 (lv_at hl 7 rfl) ?_
      refine lv_iload hx hb dX1_load_106 (lv_at hl 0 rfl) ?_
      refine lv_if_eq (tgt := 130) hx hb dX1_load_108 rfl (fun z => absurd z (by decide)) (fun _ => ?_)
      refine lv_aload_n hx hb dX1_load_111 rfl (lv_at hl 2 rfl) ?_
      refine va_get (D := D) (ci := 1) (v := .ref m3) (C := RX1) (T := TX1) (N := 7) hx hb hts inX1 hown hK hP 0 rfl rfl 3 (by decide) (hw 235 rfl) (fun _ h9 => h9) rfl dX1_load_112 ?_
      refine lv_bipush (v := 8) hx hb dX1_load_115 (by decide) ?_
      refine lv_iload_n hx hb dX1_load_117 rfl (lv_at hl 4 rfl) ?_
      refine lv_imul hx hb dX1_load_118 ?_
      refine sm_eqi (y := nI (8 * t)) (pk_mul 8 t) ?_
      refine lv_iload hx hb dX1_load_119 (lv_at hl 1 rfl) ?_
      refine lv_iadd hx hb dX1_load_121 ?_
      refine sm_eqi (y := nI ((8 * t) + k)) (nI_add (8 * t) k) ?_
      refine va_zald hx hb hK hP 3 0 rfl rfl (vp_in_nI (n := (8 * t) + k) (by omega) (by decide)) dX1_load_122 ?_
      refine sm_eqi (y := sm_bI (sm_ob M (8 * t + k))) ((sm_cl _ (n := 8 * t + k) (by omega)).trans rfl) ?_
      refine sm_ifb_eq (tgt := 130) hx hb dX1_load_123 rfl (fun h123 => ?_) (fun h123 => ?_)
      · refine lv_iconst (v := 0) hx hb dX1_load_130 (by decide) ?_
        refine sm_eqi (y := sm_bI (if k < 32 then sm_ob M (8 * t + k) else false)) (by rw [if_pos hkn]; simp [sm_bI, h123]) ?_
        refine sm_zast (f' := sm_fill (sm_fw O) (fun i => if i < 32 then sm_ob M (8 * t + i) else false) 0 (k + 1)) (ws' := (sm_wM cZ m0 m1 m2 m3 m4 m5 m6 0 (sm_fb V) (sm_fb S) (sm_fo M) (sm_fl M) (sm_fill (sm_fw O) (fun i => if i < 32 then sm_ob M (8 * t + i) else false) 0 (k + 1)) (sm_fill (sm_fw G) (fun i => if i < 32 then sm_ol M (8 * t + i) else false) 0 k))) hx hb hK hP hD hS 5 0 rfl rfl (vp_in_nI (n := k) (by omega) (by decide)) dX1_load_131 (by rw [nI_clamp (by omega)]; exact sm_fillS0 (sm_fw O) (fun i => if i < 32 then sm_ob M (8 * t + i) else false) k) rfl (fun H locs hP hD hS => ?_)
        refine lv_aload_n hx hb dX1_load_132 rfl (lv_at hl 2 rfl) ?_
        refine va_get (D := D) (ci := 1) (v := .ref m6) (C := RX1) (T := TX1) (N := 7) hx hb hts inX1 hown hK hP 0 rfl rfl 6 (by decide) (hw 238 rfl) (fun _ h9 => h9) rfl dX1_load_133 ?_
        refine lv_iload hx hb dX1_load_136 (lv_at hl 7 rfl) ?_
        refine lv_iload hx hb dX1_load_138 (lv_at hl 0 rfl) ?_
        refine lv_if_eq (tgt := 162) hx hb dX1_load_140 rfl (fun z => absurd z (by decide)) (fun _ => ?_)
        refine lv_aload_n hx hb dX1_load_143 rfl (lv_at hl 2 rfl) ?_
        refine va_get (D := D) (ci := 1) (v := .ref m4) (C := RX1) (T := TX1) (N := 7) hx hb hts inX1 hown hK hP 0 rfl rfl 4 (by decide) (hw 236 rfl) (fun _ h9 => h9) rfl dX1_load_144 ?_
        refine lv_bipush (v := 8) hx hb dX1_load_147 (by decide) ?_
        refine lv_iload_n hx hb dX1_load_149 rfl (lv_at hl 4 rfl) ?_
        refine lv_imul hx hb dX1_load_150 ?_
        refine sm_eqi (y := nI (8 * t)) (pk_mul 8 t) ?_
        refine lv_iload hx hb dX1_load_151 (lv_at hl 1 rfl) ?_
        refine lv_iadd hx hb dX1_load_153 ?_
        refine sm_eqi (y := nI ((8 * t) + k)) (nI_add (8 * t) k) ?_
        refine va_zald hx hb hK hP 4 0 rfl rfl (vp_in_nI (n := (8 * t) + k) (by omega) (by decide)) dX1_load_154 ?_
        refine sm_eqi (y := sm_bI (sm_ol M (8 * t + k))) ((sm_cl _ (n := 8 * t + k) (by omega)).trans rfl) ?_
        refine sm_ifb_eq (tgt := 162) hx hb dX1_load_155 rfl (fun h155 => ?_) (fun h155 => ?_)
        · refine lv_iconst (v := 0) hx hb dX1_load_162 (by decide) ?_
          refine sm_eqi (y := sm_bI (if k < 32 then sm_ol M (8 * t + k) else false)) (by rw [if_pos hkn]; simp [sm_bI, h123, h155]) ?_
          refine sm_zast (f' := sm_fill (sm_fw G) (fun i => if i < 32 then sm_ol M (8 * t + i) else false) 0 (k + 1)) (ws' := (sm_wM cZ m0 m1 m2 m3 m4 m5 m6 0 (sm_fb V) (sm_fb S) (sm_fo M) (sm_fl M) (sm_fill (sm_fw O) (fun i => if i < 32 then sm_ob M (8 * t + i) else false) 0 (k + 1)) (sm_fill (sm_fw G) (fun i => if i < 32 then sm_ol M (8 * t + i) else false) 0 (k + 1)))) hx hb hK hP hD hS 6 0 rfl rfl (vp_in_nI (n := k) (by omega) (by decide)) dX1_load_163 (by rw [nI_clamp (by omega)]; exact sm_fillS0 (sm_fw G) (fun i => if i < 32 then sm_ol M (8 * t + i) else false) k) rfl (fun H locs hP hD hS => ?_)
          refine lv_iinc (k := 7) (v := nI (k + 1)) (lv' := [(5, .int (nI (k + 1))), (7, .int 1), (6, .int (nI k)), (0, .ref m0), (1, .int (nI r)), (2, .int (nI t)), (3, .int 4), (4, .int (sm_bI false))]) hx hb dX1_load_164 hl rfl (sm_inc k) (by decide) rfl (fun ls hl => ?_)
          refine lv_goto (tgt := 50) hx hb dX1_load_167 rfl ?_
          exact ih _ _ _ (lv_sub hl [3, 4, 5, 6, 7, 0] rfl) (sm_cP (rfl) hP) (sm_cD (rfl) hD) hS
        · refine lv_iconst (v := 1) hx hb dX1_load_158 (by decide) ?_
          refine lv_goto (tgt := 163) hx hb dX1_load_159 rfl ?_
          refine sm_eqi (y := sm_bI (if k < 32 then sm_ol M (8 * t + k) else false)) (by rw [if_pos hkn]; simp [sm_bI, h123, h155]) ?_
          refine sm_zast (f' := sm_fill (sm_fw G) (fun i => if i < 32 then sm_ol M (8 * t + i) else false) 0 (k + 1)) (ws' := (sm_wM cZ m0 m1 m2 m3 m4 m5 m6 0 (sm_fb V) (sm_fb S) (sm_fo M) (sm_fl M) (sm_fill (sm_fw O) (fun i => if i < 32 then sm_ob M (8 * t + i) else false) 0 (k + 1)) (sm_fill (sm_fw G) (fun i => if i < 32 then sm_ol M (8 * t + i) else false) 0 (k + 1)))) hx hb hK hP hD hS 6 0 rfl rfl (vp_in_nI (n := k) (by omega) (by decide)) dX1_load_163 (by rw [nI_clamp (by omega)]; exact sm_fillS0 (sm_fw G) (fun i => if i < 32 then sm_ol M (8 * t + i) else false) k) rfl (fun H locs hP hD hS => ?_)
          refine lv_iinc (k := 7) (v := nI (k + 1)) (lv' := [(5, .int (nI (k + 1))), (7, .int 1), (6, .int (nI k)), (0, .ref m0), (1, .int (nI r)), (2, .int (nI t)), (3, .int 4), (4, .int (sm_bI false))]) hx hb dX1_load_164 hl rfl (sm_inc k) (by decide) rfl (fun ls hl => ?_)
          refine lv_goto (tgt := 50) hx hb dX1_load_167 rfl ?_
          exact ih _ _ _ (lv_sub hl [3, 4, 5, 6, 7, 0] rfl) (sm_cP (rfl) hP) (sm_cD (rfl) hD) hS
      · refine lv_iconst (v := 1) hx hb dX1_load_126 (by decide) ?_
        refine lv_goto (tgt := 131) hx hb dX1_load_127 rfl ?_
        refine sm_eqi (y := sm_bI (if k < 32 then sm_ob M (8 * t + k) else false)) (by rw [if_pos hkn]; simp [sm_bI, h123]) ?_
        refine sm_zast (f' := sm_fill (sm_fw O) (fun i => if i < 32 then sm_ob M (8 * t + i) else false) 0 (k + 1)) (ws' := (sm_wM cZ m0 m1 m2 m3 m4 m5 m6 0 (sm_fb V) (sm_fb S) (sm_fo M) (sm_fl M) (sm_fill (sm_fw O) (fun i => if i < 32 then sm_ob M (8 * t + i) else false) 0 (k + 1)) (sm_fill (sm_fw G) (fun i => if i < 32 then sm_ol M (8 * t + i) else false) 0 k))) hx hb hK hP hD hS 5 0 rfl rfl (vp_in_nI (n := k) (by omega) (by decide)) dX1_load_131 (by rw [nI_clamp (by omega)]; exact sm_fillS0 (sm_fw O) (fun i => if i < 32 then sm_ob M (8 * t + i) else false) k) rfl (fun H locs hP hD hS => ?_)
        refine lv_aload_n hx hb dX1_load_132 rfl (lv_at hl 2 rfl) ?_
        refine va_get (D := D) (ci := 1) (v := .ref m6) (C := RX1) (T := TX1) (N := 7) hx hb hts inX1 hown hK hP 0 rfl rfl 6 (by decide) (hw 238 rfl) (fun _ h9 => h9) rfl dX1_load_133 ?_
        refine lv_iload hx hb dX1_load_136 (lv_at hl 7 rfl) ?_
        refine lv_iload hx hb dX1_load_138 (lv_at hl 0 rfl) ?_
        refine lv_if_eq (tgt := 162) hx hb dX1_load_140 rfl (fun z => absurd z (by decide)) (fun _ => ?_)
        refine lv_aload_n hx hb dX1_load_143 rfl (lv_at hl 2 rfl) ?_
        refine va_get (D := D) (ci := 1) (v := .ref m4) (C := RX1) (T := TX1) (N := 7) hx hb hts inX1 hown hK hP 0 rfl rfl 4 (by decide) (hw 236 rfl) (fun _ h9 => h9) rfl dX1_load_144 ?_
        refine lv_bipush (v := 8) hx hb dX1_load_147 (by decide) ?_
        refine lv_iload_n hx hb dX1_load_149 rfl (lv_at hl 4 rfl) ?_
        refine lv_imul hx hb dX1_load_150 ?_
        refine sm_eqi (y := nI (8 * t)) (pk_mul 8 t) ?_
        refine lv_iload hx hb dX1_load_151 (lv_at hl 1 rfl) ?_
        refine lv_iadd hx hb dX1_load_153 ?_
        refine sm_eqi (y := nI ((8 * t) + k)) (nI_add (8 * t) k) ?_
        refine va_zald hx hb hK hP 4 0 rfl rfl (vp_in_nI (n := (8 * t) + k) (by omega) (by decide)) dX1_load_154 ?_
        refine sm_eqi (y := sm_bI (sm_ol M (8 * t + k))) ((sm_cl _ (n := 8 * t + k) (by omega)).trans rfl) ?_
        refine sm_ifb_eq (tgt := 162) hx hb dX1_load_155 rfl (fun h155 => ?_) (fun h155 => ?_)
        · refine lv_iconst (v := 0) hx hb dX1_load_162 (by decide) ?_
          refine sm_eqi (y := sm_bI (if k < 32 then sm_ol M (8 * t + k) else false)) (by rw [if_pos hkn]; simp [sm_bI, h123, h155]) ?_
          refine sm_zast (f' := sm_fill (sm_fw G) (fun i => if i < 32 then sm_ol M (8 * t + i) else false) 0 (k + 1)) (ws' := (sm_wM cZ m0 m1 m2 m3 m4 m5 m6 0 (sm_fb V) (sm_fb S) (sm_fo M) (sm_fl M) (sm_fill (sm_fw O) (fun i => if i < 32 then sm_ob M (8 * t + i) else false) 0 (k + 1)) (sm_fill (sm_fw G) (fun i => if i < 32 then sm_ol M (8 * t + i) else false) 0 (k + 1)))) hx hb hK hP hD hS 6 0 rfl rfl (vp_in_nI (n := k) (by omega) (by decide)) dX1_load_163 (by rw [nI_clamp (by omega)]; exact sm_fillS0 (sm_fw G) (fun i => if i < 32 then sm_ol M (8 * t + i) else false) k) rfl (fun H locs hP hD hS => ?_)
          refine lv_iinc (k := 7) (v := nI (k + 1)) (lv' := [(5, .int (nI (k + 1))), (7, .int 1), (6, .int (nI k)), (0, .ref m0), (1, .int (nI r)), (2, .int (nI t)), (3, .int 4), (4, .int (sm_bI false))]) hx hb dX1_load_164 hl rfl (sm_inc k) (by decide) rfl (fun ls hl => ?_)
          refine lv_goto (tgt := 50) hx hb dX1_load_167 rfl ?_
          exact ih _ _ _ (lv_sub hl [3, 4, 5, 6, 7, 0] rfl) (sm_cP (rfl) hP) (sm_cD (rfl) hD) hS
        · refine lv_iconst (v := 1) hx hb dX1_load_158 (by decide) ?_
          refine lv_goto (tgt := 163) hx hb dX1_load_159 rfl ?_
          refine sm_eqi (y := sm_bI (if k < 32 then sm_ol M (8 * t + k) else false)) (by rw [if_pos hkn]; simp [sm_bI, h123, h155]) ?_
          refine sm_zast (f' := sm_fill (sm_fw G) (fun i => if i < 32 then sm_ol M (8 * t + i) else false) 0 (k + 1)) (ws' := (sm_wM cZ m0 m1 m2 m3 m4 m5 m6 0 (sm_fb V) (sm_fb S) (sm_fo M) (sm_fl M) (sm_fill (sm_fw O) (fun i => if i < 32 then sm_ob M (8 * t + i) else false) 0 (k + 1)) (sm_fill (sm_fw G) (fun i => if i < 32 then sm_ol M (8 * t + i) else false) 0 (k + 1)))) hx hb hK hP hD hS 6 0 rfl rfl (vp_in_nI (n := k) (by omega) (by decide)) dX1_load_163 (by rw [nI_clamp (by omega)]; exact sm_fillS0 (sm_fw G) (fun i => if i < 32 then sm_ol M (8 * t + i) else false) k) rfl (fun H locs hP hD hS => ?_)
          refine lv_iinc (k := 7) (v := nI (k + 1)) (lv' := [(5, .int (nI (k + 1))), (7, .int 1), (6, .int (nI k)), (0, .ref m0), (1, .int (nI r)), (2, .int (nI t)), (3, .int 4), (4, .int (sm_bI false))]) hx hb dX1_load_164 hl rfl (sm_inc k) (by decide) rfl (fun ls hl => ?_)
          refine lv_goto (tgt := 50) hx hb dX1_load_167 rfl ?_
          exact ih _ _ _ (lv_sub hl [3, 4, 5, 6, 7, 0] rfl) (sm_cP (rfl) hP) (sm_cD (rfl) hD) hS
    · refine lv_iload hx hb dX1_load_57 (lv_at hl 5 rfl) ?_
      refine lv_bipush (v := 8) hx hb dX1_load_59 (by decide) ?_
      refine lv_iload_n hx hb dX1_load_61 rfl (lv_at hl 3 rfl) ?_
      refine lv_imul hx hb dX1_load_62 ?_
      refine sm_eqi (y := 32) (by decide) ?_
      refine lv_icmp_ge (tgt := 71) hx hb dX1_load_63 rfl (fun _ => ?_) (fun z => absurd (nI_le (a := 32) hkn (by omega)) z)
      refine lv_bipush (v := 8) hx hb dX1_load_71 (by decide) ?_
      refine lv_iload_n hx hb dX1_load_73 rfl (lv_at hl 3 rfl) ?_
      refine lv_imul hx hb dX1_load_74 ?_
      refine sm_eqi (y := 32) (by decide) ?_
      refine lv_iconst (v := 1) hx hb dX1_load_75 (by decide) ?_
      refine lv_isub hx hb dX1_load_76 ?_
      refine sm_eqi (y := 31) (by decide) ?_
      refine lv_istore (lv' := [(6, .int 31), (0, .ref m0), (1, .int (nI r)), (2, .int (nI t)), (3, .int 4), (4, .int (sm_bI false)), (5, .int (nI k))]) hx hb dX1_load_77 hl (by decide) rfl (fun ls hl => ?_)
      refine lv_iload hx hb dX1_load_79 (lv_at hl 6 rfl) ?_
      refine lv_bipush (v := 8) hx hb dX1_load_81 (by decide) ?_
      refine lv_iload_n hx hb dX1_load_83 rfl (lv_at hl 4 rfl) ?_
      refine lv_imul hx hb dX1_load_84 ?_
      refine sm_eqi (y := 32) (by decide) ?_
      refine lv_icmp_lt (tgt := 93) hx hb dX1_load_85 rfl (fun z => absurd z (nI_nlt (b := 32) hkn (by omega))) (fun _ => ?_)
      refine lv_iload hx hb dX1_load_88 (lv_at hl 5 rfl) ?_
      refine lv_if_eq (tgt := 97) hx hb dX1_load_90 rfl (fun _ => ?_) (fun z => absurd (by decide) z)
      refine lv_iconst (v := 0) hx hb dX1_load_97 (by decide) ?_
      refine lv_istore (lv' := [(7, .int 0), (6, .int 31), (0, .ref m0), (1, .int (nI r)), (2, .int (nI t)), (3, .int 4), (4, .int (sm_bI false)), (5, .int (nI k))]) hx hb dX1_load_98 hl (by decide) rfl (fun ls hl => ?_)
      refine lv_aload_n hx hb dX1_load_100 rfl (lv_at hl 2 rfl) ?_
      refine va_get (D := D) (ci := 1) (v := .ref m5) (C := RX1) (T := TX1) (N := 7) hx hb hts inX1 hown hK hP 0 rfl rfl 5 (by decide) (hw 237 rfl) (fun _ h9 => h9) rfl dX1_load_101 ?_
      refine lv_iload hx hb dX1_load_104 (lv_at hl 7 rfl) ?_
      refine lv_iload hx hb dX1_load_106 (lv_at hl 0 rfl) ?_
      refine lv_if_eq (tgt := 130) hx hb dX1_load_108 rfl (fun _ => ?_) (fun z => absurd (by decide) z)
      refine lv_iconst (v := 0) hx hb dX1_load_130 (by decide) ?_
      refine sm_eqi (y := sm_bI (if k < 32 then sm_ob M (8 * t + k) else false)) (by rw [if_neg (Nat.not_lt.mpr hkn)]; simp [sm_bI]) ?_
      refine sm_zast (f' := sm_fill (sm_fw O) (fun i => if i < 32 then sm_ob M (8 * t + i) else false) 0 (k + 1)) (ws' := (sm_wM cZ m0 m1 m2 m3 m4 m5 m6 0 (sm_fb V) (sm_fb S) (sm_fo M) (sm_fl M) (sm_fill (sm_fw O) (fun i => if i < 32 then sm_ob M (8 * t + i) else false) 0 (k + 1)) (sm_fill (sm_fw G) (fun i => if i < 32 then sm_ol M (8 * t + i) else false) 0 k))) hx hb hK hP hD hS 5 0 rfl rfl (vp_in_nI (n := k) (by omega) (by decide)) dX1_load_131 (by rw [nI_clamp (by omega)]; exact sm_fillS0 (sm_fw O) (fun i => if i < 32 then sm_ob M (8 * t + i) else false) k) rfl (fun H locs hP hD hS => ?_)
      refine lv_aload_n hx hb dX1_load_132 rfl (lv_at hl 2 rfl) ?_
      refine va_get (D := D) (ci := 1) (v := .ref m6) (C := RX1) (T := TX1) (N := 7) hx hb hts inX1 hown hK hP 0 rfl rfl 6 (by decide) (hw 238 rfl) (fun _ h9 => h9) rfl dX1_load_133 ?_
      refine lv_iload hx hb dX1_load_136 (lv_at hl 7 rfl) ?_
      refine lv_iload hx hb dX1_load_138 (lv_at hl 0 rfl) ?_
      refine lv_if_eq (tgt := 162) hx hb dX1_load_140 rfl (fun _ => ?_) (fun z => absurd (by decide) z)
      refine lv_iconst (v := 0) hx hb dX1_load_162 (by decide) ?_
      refine sm_eqi (y := sm_bI (if k < 32 then sm_ol M (8 * t + k) else false)) (by rw [if_neg (Nat.not_lt.mpr hkn)]; simp [sm_bI]) ?_
      refine sm_zast (f' := sm_fill (sm_fw G) (fun i => if i < 32 then sm_ol M (8 * t + i) else false) 0 (k + 1)) (ws' := (sm_wM cZ m0 m1 m2 m3 m4 m5 m6 0 (sm_fb V) (sm_fb S) (sm_fo M) (sm_fl M) (sm_fill (sm_fw O) (fun i => if i < 32 then sm_ob M (8 * t + i) else false) 0 (k + 1)) (sm_fill (sm_fw G) (fun i => if i < 32 then sm_ol M (8 * t + i) else false) 0 (k + 1)))) hx hb hK hP hD hS 6 0 rfl rfl (vp_in_nI (n := k) (by omega) (by decide)) dX1_load_163 (by rw [nI_clamp (by omega)]; exact sm_fillS0 (sm_fw G) (fun i => if i < 32 then sm_ol M (8 * t + i) else false) k) rfl (fun H locs hP hD hS => ?_)
      refine lv_iinc (k := 7) (v := nI (k + 1)) (lv' := [(5, .int (nI (k + 1))), (7, .int 0), (6, .int 31), (0, .ref m0), (1, .int (nI r)), (2, .int (nI t)), (3, .int 4), (4, .int (sm_bI false))]) hx hb dX1_load_164 hl rfl (sm_inc k) (by decide) rfl (fun ls hl => ?_)
      refine lv_goto (tgt := 50) hx hb dX1_load_167 rfl ?_
      exact ih _ _ _ (lv_sub hl [3, 4, 5, 6, 7, 0] rfl) (sm_cP (rfl) hP) (sm_cD (rfl) hD) hS
