set_option maxHeartbeats 4000000 in
set_option maxRecDepth 100000 in
theorem c_choose (l : Launch) (D : va_G) (cZ : ClassId) (m0 m1 m2 m3 m4 m5 m6 : Nat) (err : Int32) (V S M : Nat → Int32) (O G : Int32) (d a b : Nat) (hd : d < 16) (ha : a < 16) (hb' : b < 16) : sm_C l yX1_choose wsX1_choose ({ frames := 2, cells := 0, slots := 0, locals := 60 } : Room) D vwCl [(cZ, .boolean)] [.ref m0, .int (nI d), .int (nI a), .int (nI b)] (sm_wM cZ m0 m1 m2 m3 m4 m5 m6 err (sm_fb V) (sm_fb S) (sm_fo M) (sm_fl M) (sm_fw O) (sm_fw G)) none (sm_wM cZ m0 m1 m2 m3 m4 m5 m6 err (sm_fb V) (sm_fb S) (sm_fo M) (sm_fl M) (sm_fw (if bt (V b) 0 then V a else V d)) (sm_fw (if bt (S b) 0 then S a ||| S d ||| (V a ^^^ V d) else if bt (V b) 0 then S a else S d))) := by
  refine sm_start (cc := cX1_choose) (maxL := 6) (ret := none) (lv := [(0, .ref m0), (1, .int (nI d)), (2, .int (nI a)), (3, .int (nI b))]) (by decide) rfl (Nat.le_of_ble_eq_true rfl) rfl ?_
  intro p e s m below meth c hx hb hrt hts hown hlocks hml hin hK hP hD hS hA ls hl
  have hw := sm_hw hts
  refine lv_iconst (v := 0) hx hb dX1_choose_0 (by decide) ?_
  refine lv_istore (lv' := [(4, .int 0), (0, .ref m0), (1, .int (nI d)), (2, .int (nI a)), (3, .int (nI b))]) hx hb dX1_choose_1 hl (by decide) rfl (fun ls hl => ?_)
  refine sm_loopW (nL := 6) (lv := fun k => [(0, .ref m0), (1, .int (nI d)), (2, .int (nI a)), (3, .int (nI b)), (4, .int (nI k))]) (w := fun k => (sm_wM cZ m0 m1 m2 m3 m4 m5 m6 err (sm_fb V) (sm_fb S) (sm_fo M) (sm_fl M) (sm_fill (sm_fw O) (fun i => if bt (V b) 0 then bt (V a) i else bt (V d) i) 0 k) (sm_fill (sm_fw G) (fun i => if bt (S b) 0 then (bt (S a) i || bt (S d) i || (bt (V a) i != bt (V d) i)) else if bt (V b) 0 then bt (S a) i else bt (S d) i) 0 k))) 32 (fun H locs ls hl hP hD hS => ?_) (fun k hk ih H locs ls hl hP hD hS => ?_) (lv_sub hl [1, 2, 3, 4, 0] rfl) (sm_cP (by simp only [sm_fill0]) hP) (sm_cD (by simp only [sm_fill0]) hD) hS
  · have hl : lv_has ls 6 [(0, .ref m0), (1, .int (nI d)), (2, .int (nI a)), (3, .int (nI b)), (4, .int (nI 32))] := hl
    have hP : va_P D vwCl (sm_wM cZ m0 m1 m2 m3 m4 m5 m6 err (sm_fb V) (sm_fb S) (sm_fo M) (sm_fl M) (sm_fill (sm_fw O) (fun i => if bt (V b) 0 then bt (V a) i else bt (V d) i) 0 32) (sm_fill (sm_fw G) (fun i => if bt (S b) 0 then (bt (S a) i || bt (S d) i || (bt (V a) i != bt (V d) i)) else if bt (V b) 0 then bt (S a) i else bt (S d) i) 0 32)) H := hP
    have hD : va_D _ (sm_wM cZ m0 m1 m2 m3 m4 m5 m6 err (sm_fb V) (sm_fb S) (sm_fo M) (sm_fl M) (sm_fill (sm_fw O) (fun i => if bt (V b) 0 then bt (V a) i else bt (V d) i) 0 32) (sm_fill (sm_fw G) (fun i => if bt (S b) 0 then (bt (S a) i || bt (S d) i || (bt (V a) i != bt (V d) i)) else if bt (V b) 0 then bt (S a) i else bt (S d) i) 0 32)) := hD
    refine lv_iload hx hb dX1_choose_3 (lv_at hl 4 rfl) ?_
    refine lv_bipush (v := 32) hx hb dX1_choose_5 (by decide) ?_
    refine lv_icmp_ge (tgt := 136) hx hb dX1_choose_7 rfl (fun _ => ?_) (fun z => absurd (by decide) z)
    exact sm_vret hx hb hrt hlocks hS (sm_cP (by rw [sm_fill_w, sm_fill_w, sm_mkx (x := if bt (V b) 0 then V a else V d) (sm_chv _ _ _), sm_mkx (x := if bt (S b) 0 then S a ||| S d ||| (V a ^^^ V d) else if bt (V b) 0 then S a else S d) (sm_chs _ _ _ _ _ _)]) hP) (sm_cD (by rw [sm_fill_w, sm_fill_w, sm_mkx (x := if bt (V b) 0 then V a else V d) (sm_chv _ _ _), sm_mkx (x := if bt (S b) 0 then S a ||| S d ||| (V a ^^^ V d) else if bt (V b) 0 then S a else S d) (sm_chs _ _ _ _ _ _)]) hD) dX1_choose_136
  · have hl : lv_has ls 6 [(0, .ref m0), (1, .int (nI d)), (2, .int (nI a)), (3, .int (nI b)), (4, .int (nI k))] := hl
    have hP : va_P D vwCl (sm_wM cZ m0 m1 m2 m3 m4 m5 m6 err (sm_fb V) (sm_fb S) (sm_fo M) (sm_fl M) (sm_fill (sm_fw O) (fun i => if bt (V b) 0 then bt (V a) i else bt (V d) i) 0 k) (sm_fill (sm_fw G) (fun i => if bt (S b) 0 then (bt (S a) i || bt (S d) i || (bt (V a) i != bt (V d) i)) else if bt (V b) 0 then bt (S a) i else bt (S d) i) 0 k)) H := hP
    have hD : va_D _ (sm_wM cZ m0 m1 m2 m3 m4 m5 m6 err (sm_fb V) (sm_fb S) (sm_fo M) (sm_fl M) (sm_fill (sm_fw O) (fun i => if bt (V b) 0 then bt (V a) i else bt (V d) i) 0 k) (sm_fill (sm_fw G) (fun i => if bt (S b) 0 then (bt (S a) i || bt (S d) i || (bt (V a) i != bt (V d) i)) else if bt (V b) 0 then bt (S a) i else bt (S d) i) 0 k)) := hD
    refine lv_iload hx hb dX1_choose_3 (lv_at hl 4 rfl) ?_
    refine lv_bipush (v := 32) hx hb dX1_choose_5 (by decide) ?_
    refine lv_icmp_ge (tgt := 136) hx hb dX1_choose_7 rfl (fun z => absurd z (nI_ge (b := 32) hk (by decide))) (fun _ => ?_)
    refine lv_aload_n hx hb dX1_choose_10 rfl (lv_at hl 0 rfl) ?_
    refine lv_iload_n hx hb dX1_choose_11 rfl (lv_at hl 3 rfl) ?_
    refine lv_iconst (v := 0) hx hb dX1_choose_12 (by decide) ?_
    refine sm_callV (C := RX1) (As := [.int (nI b), .int (nI 0)]) (rest := []) (wr := []) (wn := (sm_wM cZ m0 m1 m2 m3 m4 m5 m6 err (sm_fb V) (sm_fb S) (sm_fo M) (sm_fl M) (sm_fill (sm_fw O) (fun i => if bt (V b) 0 then bt (V a) i else bt (V d) i) 0 k) (sm_fill (sm_fw G) (fun i => if bt (S b) 0 then (bt (S a) i || bt (S d) i || (bt (V a) i != bt (V d) i)) else if bt (V b) 0 then bt (S a) i else bt (S d) i) 0 k))) (st1 := [.int (sm_bI (bt (V b) 0))]) ⟨hx, hb, hml, hown, hts⟩ (c_is l D cZ m0 m1 m2 m3 m4 m5 m6 err (sm_fb S) (sm_fo M) (sm_fl M) (sm_fill (sm_fw O) (fun i => if bt (V b) 0 then bt (V a) i else bt (V d) i) 0 k) (sm_fill (sm_fw G) (fun i => if bt (S b) 0 then (bt (S a) i || bt (S d) i || (bt (V a) i != bt (V d) i)) else if bt (V b) 0 then bt (S a) i else bt (S d) i) 0 k) V b 0 (by omega) (by omega)) (cwV 2 hts (sm_gV (i1 := 291) (i2 := 292) (i3 := 355) (i4 := 2) (i5 := 293) rfl rfl rfl rfl rfl) rfl rfl rfl (by decide +kernel) ⟨Nat.le_of_ble_eq_true rfl, Nat.le_of_ble_eq_true rfl⟩) hK [0] rfl hP hD hS hA 0 rfl rfl [0, 1, 2, 3, 4, 5, 6] [] rfl rfl (by decide) (by decide) (by decide) rfl hl.1 rfl (Nat.le_of_ble_eq_true rfl) dX1_choose_13 ⟨Nat.le_of_ble_eq_true rfl, Nat.le_of_ble_eq_true rfl⟩ rfl rfl (fun H locs hP hD hS => ?_)
    refine lv_istore (lv' := [(5, .int (sm_bI (bt (V b) 0))), (0, .ref m0), (1, .int (nI d)), (2, .int (nI a)), (3, .int (nI b)), (4, .int (nI k))]) hx hb dX1_choose_16 hl (by decide) rfl (fun ls hl => ?_)
    refine lv_aload_n hx hb dX1_choose_18 rfl (lv_at hl 1 rfl) ?_
    refine va_get (D := D) (ci := 1) (v := .ref m5) (C := RX1) (T := TX1) (N := 7) hx hb hts inX1 hown hK hP 0 rfl rfl 5 (by decide) (hw 237 rfl) (fun _ h9 => h9) rfl dX1_choose_19 ?_
    refine lv_iload hx hb dX1_choose_22 (lv_at hl 5 rfl) ?_
    refine lv_iload hx hb dX1_choose_24 (lv_at hl 0 rfl) ?_
    refine sm_ifb_eq (tgt := 39) hx hb dX1_choose_26 rfl (fun h26 => ?_) (fun h26 => ?_)
    · refine lv_aload_n hx hb dX1_choose_39 rfl (lv_at hl 1 rfl) ?_
      refine lv_iload_n hx hb dX1_choose_40 rfl (lv_at hl 2 rfl) ?_
      refine lv_iload hx hb dX1_choose_41 (lv_at hl 5 rfl) ?_
      refine sm_callV (C := RX1) (As := [.int (nI d), .int (nI k)]) (rest := [.int (nI k), .ref m5]) (wr := []) (wn := (sm_wM cZ m0 m1 m2 m3 m4 m5 m6 err (sm_fb V) (sm_fb S) (sm_fo M) (sm_fl M) (sm_fill (sm_fw O) (fun i => if bt (V b) 0 then bt (V a) i else bt (V d) i) 0 k) (sm_fill (sm_fw G) (fun i => if bt (S b) 0 then (bt (S a) i || bt (S d) i || (bt (V a) i != bt (V d) i)) else if bt (V b) 0 then bt (S a) i else bt (S d) i) 0 k))) (st1 := [.int (sm_bI (bt (V d) k)), .int (nI k), .ref m5]) ⟨hx, hb, hml, hown, hts⟩ (c_is l D cZ m0 m1 m2 m3 m4 m5 m6 err (sm_fb S) (sm_fo M) (sm_fl M) (sm_fill (sm_fw O) (fun i => if bt (V b) 0 then bt (V a) i else bt (V d) i) 0 k) (sm_fill (sm_fw G) (fun i => if bt (S b) 0 then (bt (S a) i || bt (S d) i || (bt (V a) i != bt (V d) i)) else if bt (V b) 0 then bt (S a) i else bt (S d) i) 0 k) V d k (by omega) (by omega)) (cwV 2 hts (sm_gV (i1 := 291) (i2 := 292) (i3 := 355) (i4 := 2) (i5 := 293) rfl rfl rfl rfl rfl) rfl rfl rfl (by decide +kernel) ⟨Nat.le_of_ble_eq_true rfl, Nat.le_of_ble_eq_true rfl⟩) hK [0] rfl hP hD hS hA 0 rfl rfl [0, 1, 2, 3, 4, 5, 6] [] rfl rfl (by decide) (by decide) (by decide) rfl hl.1 rfl (Nat.le_of_ble_eq_true rfl) dX1_choose_43 ⟨Nat.le_of_ble_eq_true rfl, Nat.le_of_ble_eq_true rfl⟩ rfl rfl (fun H locs hP hD hS => ?_)
      refine sm_eqi (y := sm_bI (if bt (V b) 0 then bt (V a) k else bt (V d) k)) (by simp [sm_bI, h26]) ?_
      refine sm_zast (f' := sm_fill (sm_fw O) (fun i => if bt (V b) 0 then bt (V a) i else bt (V d) i) 0 (k + 1)) (ws' := (sm_wM cZ m0 m1 m2 m3 m4 m5 m6 err (sm_fb V) (sm_fb S) (sm_fo M) (sm_fl M) (sm_fill (sm_fw O) (fun i => if bt (V b) 0 then bt (V a) i else bt (V d) i) 0 (k + 1)) (sm_fill (sm_fw G) (fun i => if bt (S b) 0 then (bt (S a) i || bt (S d) i || (bt (V a) i != bt (V d) i)) else if bt (V b) 0 then bt (S a) i else bt (S d) i) 0 k))) hx hb hK hP hD hS 5 0 rfl rfl (vp_in_nI (n := k) (by omega) (by decide)) dX1_choose_46 (by rw [nI_clamp (by omega)]; exact sm_fillS0 (sm_fw O) (fun i => if bt (V b) 0 then bt (V a) i else bt (V d) i) k) rfl (fun H locs hP hD hS => ?_)
      refine lv_aload_n hx hb dX1_choose_47 rfl (lv_at hl 1 rfl) ?_
      refine va_get (D := D) (ci := 1) (v := .ref m6) (C := RX1) (T := TX1) (N := 7) hx hb hts inX1 hown hK hP 0 rfl rfl 6 (by decide) (hw 238 rfl) (fun _ h9 => h9) rfl dX1_choose_48 ?_
      refine lv_iload hx hb dX1_choose_51 (lv_at hl 5 rfl) ?_
      refine lv_aload_n hx hb dX1_choose_53 rfl (lv_at hl 1 rfl) ?_
      refine lv_iload_n hx hb dX1_choose_54 rfl (lv_at hl 4 rfl) ?_
      refine lv_iconst (v := 0) hx hb dX1_choose_55 (by decide) ?_
      refine sm_callV (C := RX1) (As := [.int (nI b), .int (nI 0)]) (rest := [.int (nI k), .ref m6]) (wr := []) (wn := (sm_wM cZ m0 m1 m2 m3 m4 m5 m6 err (sm_fb V) (sm_fb S) (sm_fo M) (sm_fl M) (sm_fill (sm_fw O) (fun i => if bt (V b) 0 then bt (V a) i else bt (V d) i) 0 (k + 1)) (sm_fill (sm_fw G) (fun i => if bt (S b) 0 then (bt (S a) i || bt (S d) i || (bt (V a) i != bt (V d) i)) else if bt (V b) 0 then bt (S a) i else bt (S d) i) 0 k))) (st1 := [.int (sm_bI (bt (S b) 0)), .int (nI k), .ref m6]) ⟨hx, hb, hml, hown, hts⟩ (c_un l D cZ m0 m1 m2 m3 m4 m5 m6 err (sm_fb V) (sm_fo M) (sm_fl M) (sm_fill (sm_fw O) (fun i => if bt (V b) 0 then bt (V a) i else bt (V d) i) 0 (k + 1)) (sm_fill (sm_fw G) (fun i => if bt (S b) 0 then (bt (S a) i || bt (S d) i || (bt (V a) i != bt (V d) i)) else if bt (V b) 0 then bt (S a) i else bt (S d) i) 0 k) S b 0 (by omega) (by omega)) (cwV 2 hts (sm_gV (i1 := 285) (i2 := 286) (i3 := 353) (i4 := 2) (i5 := 287) rfl rfl rfl rfl rfl) rfl rfl rfl (by decide +kernel) ⟨Nat.le_of_ble_eq_true rfl, Nat.le_of_ble_eq_true rfl⟩) hK [0] rfl hP hD hS hA 0 rfl rfl [0, 1, 2, 3, 4, 5, 6] [] rfl rfl (by decide) (by decide) (by decide) rfl hl.1 rfl (Nat.le_of_ble_eq_true rfl) dX1_choose_56 ⟨Nat.le_of_ble_eq_true rfl, Nat.le_of_ble_eq_true rfl⟩ rfl rfl (fun H locs hP hD hS => ?_)
      refine sm_ifb_eq (tgt := 107) hx hb dX1_choose_59 rfl (fun h59 => ?_) (fun h59 => ?_)
      · refine lv_iload hx hb dX1_choose_107 (lv_at hl 0 rfl) ?_
        refine lv_if_eq (tgt := 122) hx hb dX1_choose_109 rfl (fun _ => ?_) (fun z => absurd (sm_bn0 h26) z)
        refine lv_aload_n hx hb dX1_choose_122 rfl (lv_at hl 1 rfl) ?_
        refine lv_iload_n hx hb dX1_choose_123 rfl (lv_at hl 2 rfl) ?_
        refine lv_iload hx hb dX1_choose_124 (lv_at hl 5 rfl) ?_
        refine sm_callV (C := RX1) (As := [.int (nI d), .int (nI k)]) (rest := [.int (nI k), .ref m6]) (wr := []) (wn := (sm_wM cZ m0 m1 m2 m3 m4 m5 m6 err (sm_fb V) (sm_fb S) (sm_fo M) (sm_fl M) (sm_fill (sm_fw O) (fun i => if bt (V b) 0 then bt (V a) i else bt (V d) i) 0 (k + 1)) (sm_fill (sm_fw G) (fun i => if bt (S b) 0 then (bt (S a) i || bt (S d) i || (bt (V a) i != bt (V d) i)) else if bt (V b) 0 then bt (S a) i else bt (S d) i) 0 k))) (st1 := [.int (sm_bI (bt (S d) k)), .int (nI k), .ref m6]) ⟨hx, hb, hml, hown, hts⟩ (c_un l D cZ m0 m1 m2 m3 m4 m5 m6 err (sm_fb V) (sm_fo M) (sm_fl M) (sm_fill (sm_fw O) (fun i => if bt (V b) 0 then bt (V a) i else bt (V d) i) 0 (k + 1)) (sm_fill (sm_fw G) (fun i => if bt (S b) 0 then (bt (S a) i || bt (S d) i || (bt (V a) i != bt (V d) i)) else if bt (V b) 0 then bt (S a) i else bt (S d) i) 0 k) S d k (by omega) (by omega)) (cwV 2 hts (sm_gV (i1 := 285) (i2 := 286) (i3 := 353) (i4 := 2) (i5 := 287) rfl rfl rfl rfl rfl) rfl rfl rfl (by decide +kernel) ⟨Nat.le_of_ble_eq_true rfl, Nat.le_of_ble_eq_true rfl⟩) hK [0] rfl hP hD hS hA 0 rfl rfl [0, 1, 2, 3, 4, 5, 6] [] rfl rfl (by decide) (by decide) (by decide) rfl hl.1 rfl (Nat.le_of_ble_eq_true rfl) dX1_choose_126 ⟨Nat.le_of_ble_eq_true rfl, Nat.le_of_ble_eq_true rfl⟩ rfl rfl (fun H locs hP hD hS => ?_)
        refine sm_eqi (y := sm_bI (if bt (S b) 0 then (bt (S a) k || bt (S d) k || (bt (V a) k != bt (V d) k)) else if bt (V b) 0 then bt (S a) k else bt (S d) k)) (by simp [sm_bI, h26, h59]) ?_
        refine sm_zast (f' := sm_fill (sm_fw G) (fun i => if bt (S b) 0 then (bt (S a) i || bt (S d) i || (bt (V a) i != bt (V d) i)) else if bt (V b) 0 then bt (S a) i else bt (S d) i) 0 (k + 1)) (ws' := (sm_wM cZ m0 m1 m2 m3 m4 m5 m6 err (sm_fb V) (sm_fb S) (sm_fo M) (sm_fl M) (sm_fill (sm_fw O) (fun i => if bt (V b) 0 then bt (V a) i else bt (V d) i) 0 (k + 1)) (sm_fill (sm_fw G) (fun i => if bt (S b) 0 then (bt (S a) i || bt (S d) i || (bt (V a) i != bt (V d) i)) else if bt (V b) 0 then bt (S a) i else bt (S d) i) 0 (k + 1)))) hx hb hK hP hD hS 6 0 rfl rfl (vp_in_nI (n := k) (by omega) (by decide)) dX1_choose_129 (by rw [nI_clamp (by omega)]; exact sm_fillS0 (sm_fw G) (fun i => if bt (S b) 0 then (bt (S a) i || bt (S d) i || (bt (V a) i != bt (V d) i)) else if bt (V b) 0 then bt (S a) i else bt (S d) i) k) rfl (fun H locs hP hD hS => ?_)
        refine lv_iinc (k := 5) (v := nI (k + 1)) (lv' := [(4, .int (nI (k + 1))), (5, .int (sm_bI (bt (V b) 0))), (0, .ref m0), (1, .int (nI d)), (2, .int (nI a)), (3, .int (nI b))]) hx hb dX1_choose_130 hl rfl (sm_inc k) (by decide) rfl (fun ls hl => ?_)
        refine lv_goto (tgt := 3) hx hb dX1_choose_133 rfl ?_
        exact ih _ _ _ (lv_sub hl [2, 3, 4, 5, 0] rfl) (sm_cP (rfl) hP) (sm_cD (rfl) hD) hS
      · refine lv_aload_n hx hb dX1_choose_62 rfl (lv_at hl 1 rfl) ?_
        refine lv_iload_n hx hb dX1_choose_63 rfl (lv_at hl 3 rfl) ?_
        refine lv_iload hx hb dX1_choose_64 (lv_at hl 5 rfl) ?_
        refine sm_callV (C := RX1) (As := [.int (nI a), .int (nI k)]) (rest := [.int (nI k), .ref m6]) (wr := []) (wn := (sm_wM cZ m0 m1 m2 m3 m4 m5 m6 err (sm_fb V) (sm_fb S) (sm_fo M) (sm_fl M) (sm_fill (sm_fw O) (fun i => if bt (V b) 0 then bt (V a) i else bt (V d) i) 0 (k + 1)) (sm_fill (sm_fw G) (fun i => if bt (S b) 0 then (bt (S a) i || bt (S d) i || (bt (V a) i != bt (V d) i)) else if bt (V b) 0 then bt (S a) i else bt (S d) i) 0 k))) (st1 := [.int (sm_bI (bt (S a) k)), .int (nI k), .ref m6]) ⟨hx, hb, hml, hown, hts⟩ (c_un l D cZ m0 m1 m2 m3 m4 m5 m6 err (sm_fb V) (sm_fo M) (sm_fl M) (sm_fill (sm_fw O) (fun i => if bt (V b) 0 then bt (V a) i else bt (V d) i) 0 (k + 1)) (sm_fill (sm_fw G) (fun i => if bt (S b) 0 then (bt (S a) i || bt (S d) i || (bt (V a) i != bt (V d) i)) else if bt (V b) 0 then bt (S a) i else bt (S d) i) 0 k) S a k (by omega) (by omega)) (cwV 2 hts (sm_gV (i1 := 285) (i2 := 286) (i3 := 353) (i4 := 2) (i5 := 287) rfl rfl rfl rfl rfl) rfl rfl rfl (by decide +kernel) ⟨Nat.le_of_ble_eq_true rfl, Nat.le_of_ble_eq_true rfl⟩) hK [0] rfl hP hD hS hA 0 rfl rfl [0, 1, 2, 3, 4, 5, 6] [] rfl rfl (by decide) (by decide) (by decide) rfl hl.1 rfl (Nat.le_of_ble_eq_true rfl) dX1_choose_66 ⟨Nat.le_of_ble_eq_true rfl, Nat.le_of_ble_eq_true rfl⟩ rfl rfl (fun H locs hP hD hS => ?_)
        refine sm_ifb_ne (tgt := 99) hx hb dX1_choose_69 rfl (fun h69 => ?_) (fun h69 => ?_)
        · refine lv_iconst (v := 1) hx hb dX1_choose_99 (by decide) ?_
          refine lv_goto (tgt := 129) hx hb dX1_choose_100 rfl ?_
          refine sm_eqi (y := sm_bI (if bt (S b) 0 then (bt (S a) k || bt (S d) k || (bt (V a) k != bt (V d) k)) else if bt (V b) 0 then bt (S a) k else bt (S d) k)) (by simp [sm_bI, h26, h59, h69]) ?_
          refine sm_zast (f' := sm_fill (sm_fw G) (fun i => if bt (S b) 0 then (bt (S a) i || bt (S d) i || (bt (V a) i != bt (V d) i)) else if bt (V b) 0 then bt (S a) i else bt (S d) i) 0 (k + 1)) (ws' := (sm_wM cZ m0 m1 m2 m3 m4 m5 m6 err (sm_fb V) (sm_fb S) (sm_fo M) (sm_fl M) (sm_fill (sm_fw O) (fun i => if bt (V b) 0 then bt (V a) i else bt (V d) i) 0 (k + 1)) (sm_fill (sm_fw G) (fun i => if bt (S b) 0 then (bt (S a) i || bt (S d) i || (bt (V a) i != bt (V d) i)) else if bt (V b) 0 then bt (S a) i else bt (S d) i) 0 (k + 1)))) hx hb hK hP hD hS 6 0 rfl rfl (vp_in_nI (n := k) (by omega) (by decide)) dX1_choose_129 (by rw [nI_clamp (by omega)]; exact sm_fillS0 (sm_fw G) (fun i => if bt (S b) 0 then (bt (S a) i || bt (S d) i || (bt (V a) i != bt (V d) i)) else if bt (V b) 0 then bt (S a) i else bt (S d) i) k) rfl (fun H locs hP hD hS => ?_)
          refine lv_iinc (k := 5) (v := nI (k + 1)) (lv' := [(4, .int (nI (k + 1))), (5, .int (sm_bI (bt (V b) 0))), (0, .ref m0), (1, .int (nI d)), (2, .int (nI a)), (3, .int (nI b))]) hx hb dX1_choose_130 hl rfl (sm_inc k) (by decide) rfl (fun ls hl => ?_)
          refine lv_goto (tgt := 3) hx hb dX1_choose_133 rfl ?_
          exact ih _ _ _ (lv_sub hl [2, 3, 4, 5, 0] rfl) (sm_cP (rfl) hP) (sm_cD (rfl) hD) hS
        · refine lv_aload_n hx hb dX1_choose_72 rfl (lv_at hl 1 rfl) ?_
          refine lv_iload_n hx hb dX1_choose_73 rfl (lv_at hl 2 rfl) ?_
          refine lv_iload hx hb dX1_choose_74 (lv_at hl 5 rfl) ?_
          refine sm_callV (C := RX1) (As := [.int (nI d), .int (nI k)]) (rest := [.int (nI k), .ref m6]) (wr := []) (wn := (sm_wM cZ m0 m1 m2 m3 m4 m5 m6 err (sm_fb V) (sm_fb S) (sm_fo M) (sm_fl M) (sm_fill (sm_fw O) (fun i => if bt (V b) 0 then bt (V a) i else bt (V d) i) 0 (k + 1)) (sm_fill (sm_fw G) (fun i => if bt (S b) 0 then (bt (S a) i || bt (S d) i || (bt (V a) i != bt (V d) i)) else if bt (V b) 0 then bt (S a) i else bt (S d) i) 0 k))) (st1 := [.int (sm_bI (bt (S d) k)), .int (nI k), .ref m6]) ⟨hx, hb, hml, hown, hts⟩ (c_un l D cZ m0 m1 m2 m3 m4 m5 m6 err (sm_fb V) (sm_fo M) (sm_fl M) (sm_fill (sm_fw O) (fun i => if bt (V b) 0 then bt (V a) i else bt (V d) i) 0 (k + 1)) (sm_fill (sm_fw G) (fun i => if bt (S b) 0 then (bt (S a) i || bt (S d) i || (bt (V a) i != bt (V d) i)) else if bt (V b) 0 then bt (S a) i else bt (S d) i) 0 k) S d k (by omega) (by omega)) (cwV 2 hts (sm_gV (i1 := 285) (i2 := 286) (i3 := 353) (i4 := 2) (i5 := 287) rfl rfl rfl rfl rfl) rfl rfl rfl (by decide +kernel) ⟨Nat.le_of_ble_eq_true rfl, Nat.le_of_ble_eq_true rfl⟩) hK [0] rfl hP hD hS hA 0 rfl rfl [0, 1, 2, 3, 4, 5, 6] [] rfl rfl (by decide) (by decide) (by decide) rfl hl.1 rfl (Nat.le_of_ble_eq_true rfl) dX1_choose_76 ⟨Nat.le_of_ble_eq_true rfl, Nat.le_of_ble_eq_true rfl⟩ rfl rfl (fun H locs hP hD hS => ?_)
          refine sm_ifb_ne (tgt := 99) hx hb dX1_choose_79 rfl (fun h79 => ?_) (fun h79 => ?_)
          · refine lv_iconst (v := 1) hx hb dX1_choose_99 (by decide) ?_
            refine lv_goto (tgt := 129) hx hb dX1_choose_100 rfl ?_
            refine sm_eqi (y := sm_bI (if bt (S b) 0 then (bt (S a) k || bt (S d) k || (bt (V a) k != bt (V d) k)) else if bt (V b) 0 then bt (S a) k else bt (S d) k)) (by simp [sm_bI, h26, h59, h69, h79]) ?_
            refine sm_zast (f' := sm_fill (sm_fw G) (fun i => if bt (S b) 0 then (bt (S a) i || bt (S d) i || (bt (V a) i != bt (V d) i)) else if bt (V b) 0 then bt (S a) i else bt (S d) i) 0 (k + 1)) (ws' := (sm_wM cZ m0 m1 m2 m3 m4 m5 m6 err (sm_fb V) (sm_fb S) (sm_fo M) (sm_fl M) (sm_fill (sm_fw O) (fun i => if bt (V b) 0 then bt (V a) i else bt (V d) i) 0 (k + 1)) (sm_fill (sm_fw G) (fun i => if bt (S b) 0 then (bt (S a) i || bt (S d) i || (bt (V a) i != bt (V d) i)) else if bt (V b) 0 then bt (S a) i else bt (S d) i) 0 (k + 1)))) hx hb hK hP hD hS 6 0 rfl rfl (vp_in_nI (n := k) (by omega) (by decide)) dX1_choose_129 (by rw [nI_clamp (by omega)]; exact sm_fillS0 (sm_fw G) (fun i => if bt (S b) 0 then (bt (S a) i || bt (S d) i || (bt (V a) i != bt (V d) i)) else if bt (V b) 0 then bt (S a) i else bt (S d) i) k) rfl (fun H locs hP hD hS => ?_)
            refine lv_iinc (k := 5) (v := nI (k + 1)) (lv' := [(4, .int (nI (k + 1))), (5, .int (sm_bI (bt (V b) 0))), (0, .ref m0), (1, .int (nI d)), (2, .int (nI a)), (3, .int (nI b))]) hx hb dX1_choose_130 hl rfl (sm_inc k) (by decide) rfl (fun ls hl => ?_)
            refine lv_goto (tgt := 3) hx hb dX1_choose_133 rfl ?_
            exact ih _ _ _ (lv_sub hl [2, 3, 4, 5, 0] rfl) (sm_cP (rfl) hP) (sm_cD (rfl) hD) hS
          · refine lv_aload_n hx hb dX1_choose_82 rfl (lv_at hl 1 rfl) ?_
            refine lv_iload_n hx hb dX1_choose_83 rfl (lv_at hl 3 rfl) ?_
            refine lv_iload hx hb dX1_choose_84 (lv_at hl 5 rfl) ?_
            refine sm_callV (C := RX1) (As := [.int (nI a), .int (nI k)]) (rest := [.int (nI k), .ref m6]) (wr := []) (wn := (sm_wM cZ m0 m1 m2 m3 m4 m5 m6 err (sm_fb V) (sm_fb S) (sm_fo M) (sm_fl M) (sm_fill (sm_fw O) (fun i => if bt (V b) 0 then bt (V a) i else bt (V d) i) 0 (k + 1)) (sm_fill (sm_fw G) (fun i => if bt (S b) 0 then (bt (S a) i || bt (S d) i || (bt (V a) i != bt (V d) i)) else if bt (V b) 0 then bt (S a) i else bt (S d) i) 0 k))) (st1 := [.int (sm_bI (bt (V a) k)), .int (nI k), .ref m6]) ⟨hx, hb, hml, hown, hts⟩ (c_is l D cZ m0 m1 m2 m3 m4 m5 m6 err (sm_fb S) (sm_fo M) (sm_fl M) (sm_fill (sm_fw O) (fun i => if bt (V b) 0 then bt (V a) i else bt (V d) i) 0 (k + 1)) (sm_fill (sm_fw G) (fun i => if bt (S b) 0 then (bt (S a) i || bt (S d) i || (bt (V a) i != bt (V d) i)) else if bt (V b) 0 then bt (S a) i else bt (S d) i) 0 k) V a k (by omega) (by omega)) (cwV 2 hts (sm_gV (i1 := 291) (i2 := 292) (i3 := 355) (i4 := 2) (i5 := 293) rfl rfl rfl rfl rfl) rfl rfl rfl (by decide +kernel) ⟨Nat.le_of_ble_eq_true rfl, Nat.le_of_ble_eq_true rfl⟩) hK [0] rfl hP hD hS hA 0 rfl rfl [0, 1, 2, 3, 4, 5, 6] [] rfl rfl (by decide) (by decide) (by decide) rfl hl.1 rfl (Nat.le_of_ble_eq_true rfl) dX1_choose_86 ⟨Nat.le_of_ble_eq_true rfl, Nat.le_of_ble_eq_true rfl⟩ rfl rfl (fun H locs hP hD hS => ?_)
            refine lv_aload_n hx hb dX1_choose_89 rfl (lv_at hl 1 rfl) ?_
            refine lv_iload_n hx hb dX1_choose_90 rfl (lv_at hl 2 rfl) ?_
            refine lv_iload hx hb dX1_choose_91 (lv_at hl 5 rfl) ?_
            refine sm_callV (C := RX1) (As := [.int (nI d), .int (nI k)]) (rest := [.int (sm_bI (bt (V a) k)), .int (nI k), .ref m6]) (wr := []) (wn := (sm_wM cZ m0 m1 m2 m3 m4 m5 m6 err (sm_fb V) (sm_fb S) (sm_fo M) (sm_fl M) (sm_fill (sm_fw O) (fun i => if bt (V b) 0 then bt (V a) i else bt (V d) i) 0 (k + 1)) (sm_fill (sm_fw G) (fun i => if bt (S b) 0 then (bt (S a) i || bt (S d) i || (bt (V a) i != bt (V d) i)) else if bt (V b) 0 then bt (S a) i else bt (S d) i) 0 k))) (st1 := [.int (sm_bI (bt (V d) k)), .int (sm_bI (bt (V a) k)), .int (nI k), .ref m6]) ⟨hx, hb, hml, hown, hts⟩ (c_is l D cZ m0 m1 m2 m3 m4 m5 m6 err (sm_fb S) (sm_fo M) (sm_fl M) (sm_fill (sm_fw O) (fun i => if bt (V b) 0 then bt (V a) i else bt (V d) i) 0 (k + 1)) (sm_fill (sm_fw G) (fun i => if bt (S b) 0 then (bt (S a) i || bt (S d) i || (bt (V a) i != bt (V d) i)) else if bt (V b) 0 then bt (S a) i else bt (S d) i) 0 k) V d k (by omega) (by omega)) (cwV 2 hts (sm_gV (i1 := 291) (i2 := 292) (i3 := 355) (i4 := 2) (i5 := 293) rfl rfl rfl rfl rfl) rfl rfl rfl (by decide +kernel) ⟨Nat.le_of_ble_eq_true rfl, Nat.le_of_ble_eq_true rfl⟩) hK [0] rfl hP hD hS hA 0 rfl rfl [0, 1, 2, 3, 4, 5, 6] [] rfl rfl (by decide) (by decide) (by decide) rfl hl.1 rfl (Nat.le_of_ble_eq_true rfl) dX1_choose_93 ⟨Nat.le_of_ble_eq_true rfl, Nat.le_of_ble_eq_true rfl⟩ rfl rfl (fun H locs hP hD hS => ?_)
            refine lv_icmp_eq (tgt := 103) hx hb dX1_choose_96 rfl (fun h96 => ?_) (fun h96 => ?_)
            · refine lv_iconst (v := 0) hx hb dX1_choose_103 (by decide) ?_
              refine lv_goto (tgt := 129) hx hb dX1_choose_104 rfl ?_
              refine sm_eqi (y := sm_bI (if bt (S b) 0 then (bt (S a) k || bt (S d) k || (bt (V a) k != bt (V d) k)) else if bt (V b) 0 then bt (S a) k else bt (S d) k)) (by rw [if_pos h59]; revert h69 h79 h96; cases bt (S a) k <;> cases bt (S d) k <;> cases bt (V a) k <;> cases bt (V d) k <;> decide) ?_
              refine sm_zast (f' := sm_fill (sm_fw G) (fun i => if bt (S b) 0 then (bt (S a) i || bt (S d) i || (bt (V a) i != bt (V d) i)) else if bt (V b) 0 then bt (S a) i else bt (S d) i) 0 (k + 1)) (ws' := (sm_wM cZ m0 m1 m2 m3 m4 m5 m6 err (sm_fb V) (sm_fb S) (sm_fo M) (sm_fl M) (sm_fill (sm_fw O) (fun i => if bt (V b) 0 then bt (V a) i else bt (V d) i) 0 (k + 1)) (sm_fill (sm_fw G) (fun i => if bt (S b) 0 then (bt (S a) i || bt (S d) i || (bt (V a) i != bt (V d) i)) else if bt (V b) 0 then bt (S a) i else bt (S d) i) 0 (k + 1)))) hx hb hK hP hD hS 6 0 rfl rfl (vp_in_nI (n := k) (by omega) (by decide)) dX1_choose_129 (by rw [nI_clamp (by omega)]; exact sm_fillS0 (sm_fw G) (fun i => if bt (S b) 0 then (bt (S a) i || bt (S d) i || (bt (V a) i != bt (V d) i)) else if bt (V b) 0 then bt (S a) i else bt (S d) i) k) rfl (fun H locs hP hD hS => ?_)
              refine lv_iinc (k := 5) (v := nI (k + 1)) (lv' := [(4, .int (nI (k + 1))), (5, .int (sm_bI (bt (V b) 0))), (0, .ref m0), (1, .int (nI d)), (2, .int (nI a)), (3, .int (nI b))]) hx hb dX1_choose_130 hl rfl (sm_inc k) (by decide) rfl (fun ls hl => ?_)
              refine lv_goto (tgt := 3) hx hb dX1_choose_133 rfl ?_
              exact ih _ _ _ (lv_sub hl [2, 3, 4, 5, 0] rfl) (sm_cP (rfl) hP) (sm_cD (rfl) hD) hS
            · refine lv_iconst (v := 1) hx hb dX1_choose_99 (by decide) ?_
              refine lv_goto (tgt := 129) hx hb dX1_choose_100 rfl ?_
              refine sm_eqi (y := sm_bI (if bt (S b) 0 then (bt (S a) k || bt (S d) k || (bt (V a) k != bt (V d) k)) else if bt (V b) 0 then bt (S a) k else bt (S d) k)) (by rw [if_pos h59]; revert h69 h79 h96; cases bt (S a) k <;> cases bt (S d) k <;> cases bt (V a) k <;> cases bt (V d) k <;> decide) ?_
              refine sm_zast (f' := sm_fill (sm_fw G) (fun i => if bt (S b) 0 then (bt (S a) i || bt (S d) i || (bt (V a) i != bt (V d) i)) else if bt (V b) 0 then bt (S a) i else bt (S d) i) 0 (k + 1)) (ws' := (sm_wM cZ m0 m1 m2 m3 m4 m5 m6 err (sm_fb V) (sm_fb S) (sm_fo M) (sm_fl M) (sm_fill (sm_fw O) (fun i => if bt (V b) 0 then bt (V a) i else bt (V d) i) 0 (k + 1)) (sm_fill (sm_fw G) (fun i => if bt (S b) 0 then (bt (S a) i || bt (S d) i || (bt (V a) i != bt (V d) i)) else if bt (V b) 0 then bt (S a) i else bt (S d) i) 0 (k + 1)))) hx hb hK hP hD hS 6 0 rfl rfl (vp_in_nI (n := k) (by omega) (by decide)) dX1_choose_129 (by rw [nI_clamp (by omega)]; exact sm_fillS0 (sm_fw G) (fun i => if bt (S b) 0 then (bt (S a) i || bt (S d) i || (bt (V a) i != bt (V d) i)) else if bt (V b) 0 then bt (S a) i else bt (S d) i) k) rfl (fun H locs hP hD hS => ?_)
              refine lv_iinc (k := 5) (v := nI (k + 1)) (lv' := [(4, .int (nI (k + 1))), (5, .int (sm_bI (bt (V b) 0))), (0, .ref m0), (1, .int (nI d)), (2, .int (nI a)), (3, .int (nI b))]) hx hb dX1_choose_130 hl rfl (sm_inc k) (by decide) rfl (fun ls hl => ?_)
              refine lv_goto (tgt := 3) hx hb dX1_choose_133 rfl ?_
              exact ih _ _ _ (lv_sub hl [2, 3, 4, 5, 0] rfl) (sm_cP (rfl) hP) (sm_cD (rfl) hD) hS
    · refine lv_aload_n hx hb dX1_choose_29 rfl (lv_at hl 1 rfl) ?_
      refine lv_iload_n hx hb dX1_choose_30 rfl (lv_at hl 3 rfl) ?_
      refine lv_iload hx hb dX1_choose_31 (lv_at hl 5 rfl) ?_
      refine sm_callV (C := RX1) (As := [.int (nI a), .int (nI k)]) (rest := [.int (nI k), .ref m5]) (wr := []) (wn := (sm_wM cZ m0 m1 m2 m3 m4 m5 m6 err (sm_fb V) (sm_fb S) (sm_fo M) (sm_fl M) (sm_fill (sm_fw O) (fun i => if bt (V b) 0 then bt (V a) i else bt (V d) i) 0 k) (sm_fill (sm_fw G) (fun i => if bt (S b) 0 then (bt (S a) i || bt (S d) i || (bt (V a) i != bt (V d) i)) else if bt (V b) 0 then bt (S a) i else bt (S d) i) 0 k))) (st1 := [.int (sm_bI (bt (V a) k)), .int (nI k), .ref m5]) ⟨hx, hb, hml, hown, hts⟩ (c_is l D cZ m0 m1 m2 m3 m4 m5 m6 err (sm_fb S) (sm_fo M) (sm_fl M) (sm_fill (sm_fw O) (fun i => if bt (V b) 0 then bt (V a) i else bt (V d) i) 0 k) (sm_fill (sm_fw G) (fun i => if bt (S b) 0 then (bt (S a) i || bt (S d) i || (bt (V a) i != bt (V d) i)) else if bt (V b) 0 then bt (S a) i else bt (S d) i) 0 k) V a k (by omega) (by omega)) (cwV 2 hts (sm_gV (i1 := 291) (i2 := 292) (i3 := 355) (i4 := 2) (i5 := 293) rfl rfl rfl rfl rfl) rfl rfl rfl (by decide +kernel) ⟨Nat.le_of_ble_eq_true rfl, Nat.le_of_ble_eq_true rfl⟩) hK [0] rfl hP hD hS hA 0 rfl rfl [0, 1, 2, 3, 4, 5, 6] [] rfl rfl (by decide) (by decide) (by decide) rfl hl.1 rfl (Nat.le_of_ble_eq_true rfl) dX1_choose_33 ⟨Nat.le_of_ble_eq_true rfl, Nat.le_of_ble_eq_true rfl⟩ rfl rfl (fun H locs hP hD hS => ?_)
      refine lv_goto (tgt := 46) hx hb dX1_choose_36 rfl ?_
      refine sm_eqi (y := sm_bI (if bt (V b) 0 then bt (V a) k else bt (V d) k)) (by simp [sm_bI, h26]) ?_
      refine sm_zast (f' := sm_fill (sm_fw O) (fun i => if bt (V b) 0 then bt (V a) i else bt (V d) i) 0 (k + 1)) (ws' := (sm_wM cZ m0 m1 m2 m3 m4 m5 m6 err (sm_fb V) (sm_fb S) (sm_fo M) (sm_fl M) (sm_fill (sm_fw O) (fun i => if bt (V b) 0 then bt (V a) i else bt (V d) i) 0 (k + 1)) (sm_fill (sm_fw G) (fun i => if bt (S b) 0 then (bt (S a) i || bt (S d) i || (bt (V a) i != bt (V d) i)) else if bt (V b) 0 then bt (S a) i else bt (S d) i) 0 k))) hx hb hK hP hD hS 5 0 rfl rfl (vp_in_nI (n := k) (by omega) (by decide)) dX1_choose_46 (by rw [nI_clamp (by omega)]; exact sm_fillS0 (sm_fw O) (fun i => if bt (V b) 0 then bt (V a) i else bt (V d) i) k) rfl (fun H locs hP hD hS => ?_)
      refine lv_aload_n hx hb dX1_choose_47 rfl (lv_at hl 1 rfl) ?_
      refine va_get (D := D) (ci := 1) (v := .ref m6) (C := RX1) (T := TX1) (N := 7) hx hb hts inX1 hown hK hP 0 rfl rfl 6 (by decide) (hw 238 rfl) (fun _ h9 => h9) rfl dX1_choose_48 ?_
      refine lv_iload hx hb dX1_choose_51 (lv_at hl 5 rfl) ?_
      refine lv_aload_n hx hb dX1_choose_53 rfl (lv_at hl 1 rfl) ?_
      refine lv_iload_n hx hb dX1_choose_54 rfl (lv_at hl 4 rfl) ?_
      refine lv_iconst (v := 0) hx hb dX1_choose_55 (by decide) ?_
      refine sm_callV (C := RX1) (As := [.int (nI b), .int (nI 0)]) (rest := [.int (nI k), .ref m6]) (wr := []) (wn := (sm_wM cZ m0 m1 m2 m3 m4 m5 m6 err (sm_fb V) (sm_fb S) (sm_fo M) (sm_fl M) (sm_fill (sm_fw O) (fun i => if bt (V b) 0 then bt (V a) i else bt (V d) i) 0 (k + 1)) (sm_fill (sm_fw G) (fun i => if bt (S b) 0 then (bt (S a) i || bt (S d) i || (bt (V a) i != bt (V d) i)) else if bt (V b) 0 then bt (S a) i else bt (S d) i) 0 k))) (st1 := [.int (sm_bI (bt (S b) 0)), .int (nI k), .ref m6]) ⟨hx, hb, hml, hown, hts⟩ (c_un l D cZ m0 m1 m2 m3 m4 m5 m6 err (sm_fb V) (sm_fo M) (sm_fl M) (sm_fill (sm_fw O) (fun i => if bt (V b) 0 then bt (V a) i else bt (V d) i) 0 (k + 1)) (sm_fill (sm_fw G) (fun i => if bt (S b) 0 then (bt (S a) i || bt (S d) i || (bt (V a) i != bt (V d) i)) else if bt (V b) 0 then bt (S a) i else bt (S d) i) 0 k) S b 0 (by omega) (by omega)) (cwV 2 hts (sm_gV (i1 := 285) (i2 := 286) (i3 := 353) (i4 := 2) (i5 := 287) rfl rfl rfl rfl rfl) rfl rfl rfl (by decide +kernel) ⟨Nat.le_of_ble_eq_true rfl, Nat.le_of_ble_eq_true rfl⟩) hK [0] rfl hP hD hS hA 0 rfl rfl [0, 1, 2, 3, 4, 5, 6] [] rfl rfl (by decide) (by decide) (by decide) rfl hl.1 rfl (Nat.le_of_ble_eq_true rfl) dX1_choose_56 ⟨Nat.le_of_ble_eq_true rfl, Nat.le_of_ble_eq_true rfl⟩ rfl rfl (fun H locs hP hD hS => ?_)
      refine sm_ifb_eq (tgt := 107) hx hb dX1_choose_59 rfl (fun h59 => ?_) (fun h59 => ?_)
      · refine lv_iload hx hb dX1_choose_107 (lv_at hl 0 rfl) ?_
        refine lv_if_eq (tgt := 122) hx hb dX1_choose_109 rfl (fun z => absurd z (sm_bn1 h26)) (fun _ => ?_)
        refine lv_aload_n hx hb dX1_choose_112 rfl (lv_at hl 1 rfl) ?_
        refine lv_iload_n hx hb dX1_choose_113 rfl (lv_at hl 3 rfl) ?_
        refine lv_iload hx hb dX1_choose_114 (lv_at hl 5 rfl) ?_
        refine sm_callV (C := RX1) (As := [.int (nI a), .int (nI k)]) (rest := [.int (nI k), .ref m6]) (wr := []) (wn := (sm_wM cZ m0 m1 m2 m3 m4 m5 m6 err (sm_fb V) (sm_fb S) (sm_fo M) (sm_fl M) (sm_fill (sm_fw O) (fun i => if bt (V b) 0 then bt (V a) i else bt (V d) i) 0 (k + 1)) (sm_fill (sm_fw G) (fun i => if bt (S b) 0 then (bt (S a) i || bt (S d) i || (bt (V a) i != bt (V d) i)) else if bt (V b) 0 then bt (S a) i else bt (S d) i) 0 k))) (st1 := [.int (sm_bI (bt (S a) k)), .int (nI k), .ref m6]) ⟨hx, hb, hml, hown, hts⟩ (c_un l D cZ m0 m1 m2 m3 m4 m5 m6 err (sm_fb V) (sm_fo M) (sm_fl M) (sm_fill (sm_fw O) (fun i => if bt (V b) 0 then bt (V a) i else bt (V d) i) 0 (k + 1)) (sm_fill (sm_fw G) (fun i => if bt (S b) 0 then (bt (S a) i || bt (S d) i || (bt (V a) i != bt (V d) i)) else if bt (V b) 0 then bt (S a) i else bt (S d) i) 0 k) S a k (by omega) (by omega)) (cwV 2 hts (sm_gV (i1 := 285) (i2 := 286) (i3 := 353) (i4 := 2) (i5 := 287) rfl rfl rfl rfl rfl) rfl rfl rfl (by decide +kernel) ⟨Nat.le_of_ble_eq_true rfl, Nat.le_of_ble_eq_true rfl⟩) hK [0] rfl hP hD hS hA 0 rfl rfl [0, 1, 2, 3, 4, 5, 6] [] rfl rfl (by decide) (by decide) (by decide) rfl hl.1 rfl (Nat.le_of_ble_eq_true rfl) dX1_choose_116 ⟨Nat.le_of_ble_eq_true rfl, Nat.le_of_ble_eq_true rfl⟩ rfl rfl (fun H locs hP hD hS => ?_)
        refine lv_goto (tgt := 129) hx hb dX1_choose_119 rfl ?_
        refine sm_eqi (y := sm_bI (if bt (S b) 0 then (bt (S a) k || bt (S d) k || (bt (V a) k != bt (V d) k)) else if bt (V b) 0 then bt (S a) k else bt (S d) k)) (by simp [sm_bI, h26, h59]) ?_
        refine sm_zast (f' := sm_fill (sm_fw G) (fun i => if bt (S b) 0 then (bt (S a) i || bt (S d) i || (bt (V a) i != bt (V d) i)) else if bt (V b) 0 then bt (S a) i else bt (S d) i) 0 (k + 1)) (ws' := (sm_wM cZ m0 m1 m2 m3 m4 m5 m6 err (sm_fb V) (sm_fb S) (sm_fo M) (sm_fl M) (sm_fill (sm_fw O) (fun i => if bt (V b) 0 then bt (V a) i else bt (V d) i) 0 (k + 1)) (sm_fill (sm_fw G) (fun i => if bt (S b) 0 then (bt (S a) i || bt (S d) i || (bt (V a) i != bt (V d) i)) else if bt (V b) 0 then bt (S a) i else bt (S d) i) 0 (k + 1)))) hx hb hK hP hD hS 6 0 rfl rfl (vp_in_nI (n := k) (by omega) (by decide)) dX1_choose_129 (by rw [nI_clamp (by omega)]; exact sm_fillS0 (sm_fw G) (fun i => if bt (S b) 0 then (bt (S a) i || bt (S d) i || (bt (V a) i != bt (V d) i)) else if bt (V b) 0 then bt (S a) i else bt (S d) i) k) rfl (fun H locs hP hD hS => ?_)
        refine lv_iinc (k := 5) (v := nI (k + 1)) (lv' := [(4, .int (nI (k + 1))), (5, .int (sm_bI (bt (V b) 0))), (0, .ref m0), (1, .int (nI d)), (2, .int (nI a)), (3, .int (nI b))]) hx hb dX1_choose_130 hl rfl (sm_inc k) (by decide) rfl (fun ls hl => ?_)
        refine lv_goto (tgt := 3) hx hb dX1_choose_133 rfl ?_
        exact ih _ _ _ (lv_sub hl [2, 3, 4, 5, 0] rfl) (sm_cP (rfl) hP) (sm_cD (rfl) hD) hS
      · refine lv_aload_n hx hb dX1_choose_62 rfl (lv_at hl 1 rfl) ?_
        refine lv_iload_n hx hb dX1_choose_63 rfl (lv_at hl 3 rfl) ?_
        refine lv_iload hx hb dX1_choose_64 (lv_at hl 5 rfl) ?_
        refine sm_callV (C := RX1) (As := [.int (nI a), .int (nI k)]) (rest := [.int (nI k), .ref m6]) (wr := []) (wn := (sm_wM cZ m0 m1 m2 m3 m4 m5 m6 err (sm_fb V) (sm_fb S) (sm_fo M) (sm_fl M) (sm_fill (sm_fw O) (fun i => if bt (V b) 0 then bt (V a) i else bt (V d) i) 0 (k + 1)) (sm_fill (sm_fw G) (fun i => if bt (S b) 0 then (bt (S a) i || bt (S d) i || (bt (V a) i != bt (V d) i)) else if bt (V b) 0 then bt (S a) i else bt (S d) i) 0 k))) (st1 := [.int (sm_bI (bt (S a) k)), .int (nI k), .ref m6]) ⟨hx, hb, hml, hown, hts⟩ (c_un l D cZ m0 m1 m2 m3 m4 m5 m6 err (sm_fb V) (sm_fo M) (sm_fl M) (sm_fill (sm_fw O) (fun i => if bt (V b) 0 then bt (V a) i else bt (V d) i) 0 (k + 1)) (sm_fill (sm_fw G) (fun i => if bt (S b) 0 then (bt (S a) i || bt (S d) i || (bt (V a) i != bt (V d) i)) else if bt (V b) 0 then bt (S a) i else bt (S d) i) 0 k) S a k (by omega) (by omega)) (cwV 2 hts (sm_gV (i1 := 285) (i2 := 286) (i3 := 353) (i4 := 2) (i5 := 287) rfl rfl rfl rfl rfl) rfl rfl rfl (by decide +kernel) ⟨Nat.le_of_ble_eq_true rfl, Nat.le_of_ble_eq_true rfl⟩) hK [0] rfl hP hD hS hA 0 rfl rfl [0, 1, 2, 3, 4, 5, 6] [] rfl rfl (by decide) (by decide) (by decide) rfl hl.1 rfl (Nat.le_of_ble_eq_true rfl) dX1_choose_66 ⟨Nat.le_of_ble_eq_true rfl, Nat.le_of_ble_eq_true rfl⟩ rfl rfl (fun H locs hP hD hS => ?_)
        refine sm_ifb_ne (tgt := 99) hx hb dX1_choose_69 rfl (fun h69 => ?_) (fun h69 => ?_)
        · refine lv_iconst (v := 1) hx hb dX1_choose_99 (by decide) ?_
          refine lv_goto (tgt := 129) hx hb dX1_choose_100 rfl ?_
          refine sm_eqi (y := sm_bI (if bt (S b) 0 then (bt (S a) k || bt (S d) k || (bt (V a) k != bt (V d) k)) else if bt (V b) 0 then bt (S a) k else bt (S d) k)) (by simp [sm_bI, h26, h59, h69]) ?_
          refine sm_zast (f' := sm_fill (sm_fw G) (fun i => if bt (S b) 0 then (bt (S a) i || bt (S d) i || (bt (V a) i != bt (V d) i)) else if bt (V b) 0 then bt (S a) i else bt (S d) i) 0 (k + 1)) (ws' := (sm_wM cZ m0 m1 m2 m3 m4 m5 m6 err (sm_fb V) (sm_fb S) (sm_fo M) (sm_fl M) (sm_fill (sm_fw O) (fun i => if bt (V b) 0 then bt (V a) i else bt (V d) i) 0 (k + 1)) (sm_fill (sm_fw G) (fun i => if bt (S b) 0 then (bt (S a) i || bt (S d) i || (bt (V a) i != bt (V d) i)) else if bt (V b) 0 then bt (S a) i else bt (S d) i) 0 (k + 1)))) hx hb hK hP hD hS 6 0 rfl rfl (vp_in_nI (n := k) (by omega) (by decide)) dX1_choose_129 (by rw [nI_clamp (by omega)]; exact sm_fillS0 (sm_fw G) (fun i => if bt (S b) 0 then (bt (S a) i || bt (S d) i || (bt (V a) i != bt (V d) i)) else if bt (V b) 0 then bt (S a) i else bt (S d) i) k) rfl (fun H locs hP hD hS => ?_)
          refine lv_iinc (k := 5) (v := nI (k + 1)) (lv' := [(4, .int (nI (k + 1))), (5, .int (sm_bI (bt (V b) 0))), (0, .ref m0), (1, .int (nI d)), (2, .int (nI a)), (3, .int (nI b))]) hx hb dX1_choose_130 hl rfl (sm_inc k) (by decide) rfl (fun ls hl => ?_)
          refine lv_goto (tgt := 3) hx hb dX1_choose_133 rfl ?_
          exact ih _ _ _ (lv_sub hl [2, 3, 4, 5, 0] rfl) (sm_cP (rfl) hP) (sm_cD (rfl) hD) hS
        · refine lv_aload_n hx hb dX1_choose_72 rfl (lv_at hl 1 rfl) ?_
          refine lv_iload_n hx hb dX1_choose_73 rfl (lv_at hl 2 rfl) ?_
          refine lv_iload hx hb dX1_choose_74 (lv_at hl 5 rfl) ?_
          refine sm_callV (C := RX1) (As := [.int (nI d), .int (nI k)]) (rest := [.int (nI k), .ref m6]) (wr := []) (wn := (sm_wM cZ m0 m1 m2 m3 m4 m5 m6 err (sm_fb V) (sm_fb S) (sm_fo M) (sm_fl M) (sm_fill (sm_fw O) (fun i => if bt (V b) 0 then bt (V a) i else bt (V d) i) 0 (k + 1)) (sm_fill (sm_fw G) (fun i => if bt (S b) 0 then (bt (S a) i || bt (S d) i || (bt (V a) i != bt (V d) i)) else if bt (V b) 0 then bt (S a) i else bt (S d) i) 0 k))) (st1 := [.int (sm_bI (bt (S d) k)), .int (nI k), .ref m6]) ⟨hx, hb, hml, hown, hts⟩ (c_un l D cZ m0 m1 m2 m3 m4 m5 m6 err (sm_fb V) (sm_fo M) (sm_fl M) (sm_fill (sm_fw O) (fun i => if bt (V b) 0 then bt (V a) i else bt (V d) i) 0 (k + 1)) (sm_fill (sm_fw G) (fun i => if bt (S b) 0 then (bt (S a) i || bt (S d) i || (bt (V a) i != bt (V d) i)) else if bt (V b) 0 then bt (S a) i else bt (S d) i) 0 k) S d k (by omega) (by omega)) (cwV 2 hts (sm_gV (i1 := 285) (i2 := 286) (i3 := 353) (i4 := 2) (i5 := 287) rfl rfl rfl rfl rfl) rfl rfl rfl (by decide +kernel) ⟨Nat.le_of_ble_eq_true rfl, Nat.le_of_ble_eq_true rfl⟩) hK [0] rfl hP hD hS hA 0 rfl rfl [0, 1, 2, 3, 4, 5, 6] [] rfl rfl (by decide) (by decide) (by decide) rfl hl.1 rfl (Nat.le_of_ble_eq_true rfl) dX1_choose_76 ⟨Nat.le_of_ble_eq_true rfl, Nat.le_of_ble_eq_true rfl⟩ rfl rfl (fun H locs hP hD hS => ?_)
          refine sm_ifb_ne (tgt := 99) hx hb dX1_choose_79 rfl (fun h79 => ?_) (fun h79 => ?_)
          · refine lv_iconst (v := 1) hx hb dX1_choose_99 (by decide) ?_
            refine lv_goto (tgt := 129) hx hb dX1_choose_100 rfl ?_
            refine sm_eqi (y := sm_bI (if bt (S b) 0 then (bt (S a) k || bt (S d) k || (bt (V a) k != bt (V d) k)) else if bt (V b) 0 then bt (S a) k else bt (S d) k)) (by simp [sm_bI, h26, h59, h69, h79]) ?_
            refine sm_zast (f' := sm_fill (sm_fw G) (fun i => if bt (S b) 0 then (bt (S a) i || bt (S d) i || (bt (V a) i != bt (V d) i)) else if bt (V b) 0 then bt (S a) i else bt (S d) i) 0 (k + 1)) (ws' := (sm_wM cZ m0 m1 m2 m3 m4 m5 m6 err (sm_fb V) (sm_fb S) (sm_fo M) (sm_fl M) (sm_fill (sm_fw O) (fun i => if bt (V b) 0 then bt (V a) i else bt (V d) i) 0 (k + 1)) (sm_fill (sm_fw G) (fun i => if bt (S b) 0 then (bt (S a) i || bt (S d) i || (bt (V a) i != bt (V d) i)) else if bt (V b) 0 then bt (S a) i else bt (S d) i) 0 (k + 1)))) hx hb hK hP hD hS 6 0 rfl rfl (vp_in_nI (n := k) (by omega) (by decide)) dX1_choose_129 (by rw [nI_clamp (by omega)]; exact sm_fillS0 (sm_fw G) (fun i => if bt (S b) 0 then (bt (S a) i || bt (S d) i || (bt (V a) i != bt (V d) i)) else if bt (V b) 0 then bt (S a) i else bt (S d) i) k) rfl (fun H locs hP hD hS => ?_)
            refine lv_iinc (k := 5) (v := nI (k + 1)) (lv' := [(4, .int (nI (k + 1))), (5, .int (sm_bI (bt (V b) 0))), (0, .ref m0), (1, .int (nI d)), (2, .int (nI a)), (3, .int (nI b))]) hx hb dX1_choose_130 hl rfl (sm_inc k) (by decide) rfl (fun ls hl => ?_)
            refine lv_goto (tgt := 3) hx hb dX1_choose_133 rfl ?_
            exact ih _ _ _ (lv_sub hl [2, 3, 4, 5, 0] rfl) (sm_cP (rfl) hP) (sm_cD (rfl) hD) hS
          · refine lv_aload_n hx hb dX1_choose_82 rfl (lv_at hl 1 rfl) ?_
            refine lv_iload_n hx hb dX1_choose_83 rfl (lv_at hl 3 rfl) ?_
            refine lv_iload hx hb dX1_choose_84 (lv_at hl 5 rfl) ?_
            refine sm_callV (C := RX1) (As := [.int (nI a), .int (nI k)]) (rest := [.int (nI k), .ref m6]) (wr := []) (wn := (sm_wM cZ m0 m1 m2 m3 m4 m5 m6 err (sm_fb V) (sm_fb S) (sm_fo M) (sm_fl M) (sm_fill (sm_fw O) (fun i => if bt (V b) 0 then bt (V a) i else bt (V d) i) 0 (k + 1)) (sm_fill (sm_fw G) (fun i => if bt (S b) 0 then (bt (S a) i || bt (S d) i || (bt (V a) i != bt (V d) i)) else if bt (V b) 0 then bt (S a) i else bt (S d) i) 0 k))) (st1 := [.int (sm_bI (bt (V a) k)), .int (nI k), .ref m6]) ⟨hx, hb, hml, hown, hts⟩ (c_is l D cZ m0 m1 m2 m3 m4 m5 m6 err (sm_fb S) (sm_fo M) (sm_fl M) (sm_fill (sm_fw O) (fun i => if bt (V b) 0 then bt (V a) i else bt (V d) i) 0 (k + 1)) (sm_fill (sm_fw G) (fun i => if bt (S b) 0 then (bt (S a) i || bt (S d) i || (bt (V a) i != bt (V d) i)) else if bt (V b) 0 then bt (S a) i else bt (S d) i) 0 k) V a k (by omega) (by omega)) (cwV 2 hts (sm_gV (i1 := 291) (i2 := 292) (i3 := 355) (i4 := 2) (i5 := 293) rfl rfl rfl rfl rfl) rfl rfl rfl (by decide +kernel) ⟨Nat.le_of_ble_eq_true rfl, Nat.le_of_ble_eq_true rfl⟩) hK [0] rfl hP hD hS hA 0 rfl rfl [0, 1, 2, 3, 4, 5, 6] [] rfl rfl (by decide) (by decide) (by decide) rfl hl.1 rfl (Nat.le_of_ble_eq_true rfl) dX1_choose_86 ⟨Nat.le_of_ble_eq_true rfl, Nat.le_of_ble_eq_true rfl⟩ rfl rfl (fun H locs hP hD hS => ?_)
            refine lv_aload_n hx hb dX1_choose_89 rfl (lv_at hl 1 rfl) ?_
            refine lv_iload_n hx hb dX1_choose_90 rfl (lv_at hl 2 rfl) ?_
            refine lv_iload hx hb dX1_choose_91 (lv_at hl 5 rfl) ?_
            refine sm_callV (C := RX1) (As := [.int (nI d), .int (nI k)]) (rest := [.int (sm_bI (bt (V a) k)), .int (nI k), .ref m6]) (wr := []) (wn := (sm_wM cZ m0 m1 m2 m3 m4 m5 m6 err (sm_fb V) (sm_fb S) (sm_fo M) (sm_fl M) (sm_fill (sm_fw O) (fun i => if bt (V b) 0 then bt (V a) i else bt (V d) i) 0 (k + 1)) (sm_fill (sm_fw G) (fun i => if bt (S b) 0 then (bt (S a) i || bt (S d) i || (bt (V a) i != bt (V d) i)) else if bt (V b) 0 then bt (S a) i else bt (S d) i) 0 k))) (st1 := [.int (sm_bI (bt (V d) k)), .int (sm_bI (bt (V a) k)), .int (nI k), .ref m6]) ⟨hx, hb, hml, hown, hts⟩ (c_is l D cZ m0 m1 m2 m3 m4 m5 m6 err (sm_fb S) (sm_fo M) (sm_fl M) (sm_fill (sm_fw O) (fun i => if bt (V b) 0 then bt (V a) i else bt (V d) i) 0 (k + 1)) (sm_fill (sm_fw G) (fun i => if bt (S b) 0 then (bt (S a) i || bt (S d) i || (bt (V a) i != bt (V d) i)) else if bt (V b) 0 then bt (S a) i else bt (S d) i) 0 k) V d k (by omega) (by omega)) (cwV 2 hts (sm_gV (i1 := 291) (i2 := 292) (i3 := 355) (i4 := 2) (i5 := 293) rfl rfl rfl rfl rfl) rfl rfl rfl (by decide +kernel) ⟨Nat.le_of_ble_eq_true rfl, Nat.le_of_ble_eq_true rfl⟩) hK [0] rfl hP hD hS hA 0 rfl rfl [0, 1, 2, 3, 4, 5, 6] [] rfl rfl (by decide) (by decide) (by decide) rfl hl.1 rfl (Nat.le_of_ble_eq_true rfl) dX1_choose_93 ⟨Nat.le_of_ble_eq_true rfl, Nat.le_of_ble_eq_true rfl⟩ rfl rfl (fun H locs hP hD hS => ?_)
            refine lv_icmp_eq (tgt := 103) hx hb dX1_choose_96 rfl (fun h96 => ?_) (fun h96 => ?_)
            · refine lv_iconst (v := 0) hx hb dX1_choose_103 (by decide) ?_
              refine lv_goto (tgt := 129) hx hb dX1_choose_104 rfl ?_
              refine sm_eqi (y := sm_bI (if bt (S b) 0 then (bt (S a) k || bt (S d) k || (bt (V a) k != bt (V d) k)) else if bt (V b) 0 then bt (S a) k else bt (S d) k)) (by rw [if_pos h59]; revert h69 h79 h96; cases bt (S a) k <;> cases bt (S d) k <;> cases bt (V a) k <;> cases bt (V d) k <;> decide) ?_
              refine sm_zast (f' := sm_fill (sm_fw G) (fun i => if bt (S b) 0 then (bt (S a) i || bt (S d) i || (bt (V a) i != bt (V d) i)) else if bt (V b) 0 then bt (S a) i else bt (S d) i) 0 (k + 1)) (ws' := (sm_wM cZ m0 m1 m2 m3 m4 m5 m6 err (sm_fb V) (sm_fb S) (sm_fo M) (sm_fl M) (sm_fill (sm_fw O) (fun i => if bt (V b) 0 then bt (V a) i else bt (V d) i) 0 (k + 1)) (sm_fill (sm_fw G) (fun i => if bt (S b) 0 then (bt (S a) i || bt (S d) i || (bt (V a) i != bt (V d) i)) else if bt (V b) 0 then bt (S a) i else bt (S d) i) 0 (k + 1)))) hx hb hK hP hD hS 6 0 rfl rfl (vp_in_nI (n := k) (by omega) (by decide)) dX1_choose_129 (by rw [nI_clamp (by omega)]; exact sm_fillS0 (sm_fw G) (fun i => if bt (S b) 0 then (bt (S a) i || bt (S d) i || (bt (V a) i != bt (V d) i)) else if bt (V b) 0 then bt (S a) i else bt (S d) i) k) rfl (fun H locs hP hD hS => ?_)
              refine lv_iinc (k := 5) (v := nI (k + 1)) (lv' := [(4, .int (nI (k + 1))), (5, .int (sm_bI (bt (V b) 0))), (0, .ref m0), (1, .int (nI d)), (2, .int (nI a)), (3, .int (nI b))]) hx hb dX1_choose_130 hl rfl (sm_inc k) (by decide) rfl (fun ls hl => ?_)
              refine lv_goto (tgt := 3) hx hb dX1_choose_133 rfl ?_
              exact ih _ _ _ (lv_sub hl [2, 3, 4, 5, 0] rfl) (sm_cP (rfl) hP) (sm_cD (rfl) hD) hS
            · refine lv_iconst (v := 1) hx hb dX1_choose_99 (by decide) ?_
              refine lv_goto (tgt := 129) hx hb dX1_choose_100 rfl ?_
              refine sm_eqi (y := sm_bI (if bt (S b) 0 then (bt (S a) k || bt (S d) k || (bt (V a) k != bt (V d) k)) else if bt (V b) 0 then bt (S a) k else bt (S d) k)) (by rw [if_pos h59]; revert h69 h79 h96; cases bt (S a) k <;> cases bt (S d) k <;> cases bt (V a) k <;> cases bt (V d) k <;> decide) ?_
              refine sm_zast (f' := sm_fill (sm_fw G) (fun i => if bt (S b) 0 then (bt (S a) i || bt (S d) i || (bt (V a) i != bt (V d) i)) else if bt (V b) 0 then bt (S a) i else bt (S d) i) 0 (k + 1)) (ws' := (sm_wM cZ m0 m1 m2 m3 m4 m5 m6 err (sm_fb V) (sm_fb S) (sm_fo M) (sm_fl M) (sm_fill (sm_fw O) (fun i => if bt (V b) 0 then bt (V a) i else bt (V d) i) 0 (k + 1)) (sm_fill (sm_fw G) (fun i => if bt (S b) 0 then (bt (S a) i || bt (S d) i || (bt (V a) i != bt (V d) i)) else if bt (V b) 0 then bt (S a) i else bt (S d) i) 0 (k + 1)))) hx hb hK hP hD hS 6 0 rfl rfl (vp_in_nI (n := k) (by omega) (by decide)) dX1_choose_129 (by rw [nI_clamp (by omega)]; exact sm_fillS0 (sm_fw G) (fun i => if bt (S b) 0 then (bt (S a) i || bt (S d) i || (bt (V a) i != bt (V d) i)) else if bt (V b) 0 then bt (S a) i else bt (S d) i) k) rfl (fun H locs hP hD hS => ?_)
              refine lv_iinc (k := 5) (v := nI (k + 1)) (lv' := [(4, .int (nI (k + 1))), (5, .int (sm_bI (bt (V b) 0))), (0, .ref m0), (1, .int (nI d)), (2, .int (nI a)), (3, .int (nI b))]) hx hb dX1_choose_130 hl rfl (sm_inc k) (by decide) rfl (fun ls hl => ?_)
              refine lv_goto (tgt := 3) hx hb dX1_choose_133 rfl ?_
              exact ih _ _ _ (lv_sub hl [2, 3, 4, 5, 0] rfl) (sm_cP (rfl) hP) (sm_cD (rfl) hD) hS
set_option maxHeartbeats 4000000 in
set_option maxRecDepth 100000 in
theorem c_mop_0 (l : Launch) (D : va_G) (cZ : ClassId) (m0 m1 m2 m3 m4 m5 m6 : Nat) (err : Int32) (V S M : Nat → Int32) (O G : Int32) (d a b : Nat) (hd : d < 16) (ha : a < 16) (hb' : b < 16) : sm_C l yX1_op wsX1_op ({ frames := 5, cells := 0, slots := 0, locals := 140 } : Room) D vwCl [(cZ, .boolean)] [.ref m0, .int 0, .int (nI d), .int (nI a), .int (nI b)] (sm_wM cZ m0 m1 m2 m3 m4 m5 m6 err (sm_fb V) (sm_fb S) (sm_fo M) (sm_fl M) (sm_fw O) (sm_fw G)) none (sm_wM cZ m0 m1 m2 m3 m4 m5 m6 0 (sm_fb (upd V d (V a + V b))) (sm_fb (upd S d (sm_fr (sm_tz (S a ||| S b))))) (sm_fo M) (sm_fl M) (sm_fw (V a + V b)) (sm_fw (sm_fr (sm_tz (S a ||| S b))))) := by
  refine sm_start (cc := cX1_op) (maxL := 11) (ret := none) (lv := [(0, .ref m0), (1, .int 0), (2, .int (nI d)), (3, .int (nI a)), (4, .int (nI b))]) (by decide) rfl (Nat.le_of_ble_eq_true rfl) rfl ?_
  intro p e s m below meth c hx hb hrt hts hown hlocks hml hin hK hP hD hS hA ls hl
  have hw := sm_hw hts
  have q5 := sm_tz_le (S a ||| S b)
  have q1 := sm_tz_le (S a)
  have q2 := sm_tz_le (S b)
  have q3 := sm_tz_le (V b ||| S b)
  have q4 := sm_tz_le (V a ||| S a)
  refine lv_aload_n hx hb dX1_op_0 rfl (lv_at hl 0 rfl) ?_
  refine lv_iload_n hx hb dX1_op_1 rfl (lv_at hl 1 rfl) ?_
  refine lv_if_lt (tgt := 11) hx hb dX1_op_2 rfl (fun z => absurd z (by decide)) (fun _ => ?_)
  refine lv_iload_n hx hb dX1_op_5 rfl (lv_at hl 1 rfl) ?_
  refine lv_bipush (v := 12) hx hb dX1_op_6 (by decide) ?_
  refine lv_icmp_le (tgt := 15) hx hb dX1_op_8 rfl (fun _ => ?_) (fun z => absurd (by decide) z)
  refine lv_iconst (v := 0) hx hb dX1_op_15 (by decide) ?_
  refine lv_iconst (v := 1) hx hb dX1_op_16 (by decide) ?_
  refine sm_callV (C := RX1) (As := [.int (sm_bI false), .int 1]) (rest := []) (wr := []) (wn := (sm_wM cZ m0 m1 m2 m3 m4 m5 m6 0 (sm_fb V) (sm_fb S) (sm_fo M) (sm_fl M) (sm_fw O) (sm_fw G))) (st1 := [.int (sm_bI false)]) ⟨hx, hb, hml, hown, hts⟩ (c_fails_f l D cZ m0 m1 m2 m3 m4 m5 m6 err V S M O G 1) (cwV 2 hts (sm_gV (i1 := 266) (i2 := 267) (i3 := 348) (i4 := 2) (i5 := 268) rfl rfl rfl rfl rfl) rfl rfl rfl (by decide +kernel) ⟨Nat.le_of_ble_eq_true rfl, Nat.le_of_ble_eq_true rfl⟩) hK [0] rfl hP hD hS hA 0 rfl rfl [0, 1, 2, 3, 4, 5, 6] [] rfl rfl (by decide) (by decide) (by decide) rfl hl.1 rfl (Nat.le_of_ble_eq_true rfl) dX1_op_17 ⟨Nat.le_of_ble_eq_true rfl, Nat.le_of_ble_eq_true rfl⟩ rfl rfl (fun H locs hP hD hS => ?_)
  refine lv_if_eq (tgt := 24) hx hb dX1_op_20 rfl (fun _ => ?_) (fun z => absurd (by decide) z)
  refine lv_aload_n hx hb dX1_op_24 rfl (lv_at hl 0 rfl) ?_
  refine lv_iload_n hx hb dX1_op_25 rfl (lv_at hl 2 rfl) ?_
  refine sm_callS (As := [.int (nI d)]) (rest := [.ref m0]) (wr := (sm_wM cZ m0 m1 m2 m3 m4 m5 m6 0 (sm_fb V) (sm_fb S) (sm_fo M) (sm_fl M) (sm_fw O) (sm_fw G))) (wn := (sm_wM cZ m0 m1 m2 m3 m4 m5 m6 0 (sm_fb V) (sm_fb S) (sm_fo M) (sm_fl M) (sm_fw O) (sm_fw G))) (st1 := [.int (sm_bI false), .ref m0]) ⟨hx, hb, hml, hown, hts⟩ (c_none_f l D d (by omega)) (va_cwS 1 hts (sm_gS (i1 := 263) (i2 := 264) (i4 := 2) (i5 := 265) rfl rfl rfl rfl) rfl rfl rfl (by decide +kernel) ⟨Nat.le_of_ble_eq_true rfl, Nat.le_of_ble_eq_true rfl⟩) hK [] rfl hP hD hS hA [] [0, 1, 2, 3, 4, 5, 6] rfl rfl (by decide) (by decide) (by decide) rfl hl.1 rfl (Nat.le_of_ble_eq_true rfl) dX1_op_26 ⟨Nat.le_of_ble_eq_true rfl, Nat.le_of_ble_eq_true rfl⟩ rfl rfl (fun H locs hP hD hS => ?_)
  refine lv_if_ne (tgt := 47) hx hb dX1_op_29 rfl (fun z => absurd (by decide) z) (fun _ => ?_)
  refine lv_iload_n hx hb dX1_op_32 rfl (lv_at hl 3 rfl) ?_
  refine sm_callS (As := [.int (nI a)]) (rest := [.ref m0]) (wr := (sm_wM cZ m0 m1 m2 m3 m4 m5 m6 0 (sm_fb V) (sm_fb S) (sm_fo M) (sm_fl M) (sm_fw O) (sm_fw G))) (wn := (sm_wM cZ m0 m1 m2 m3 m4 m5 m6 0 (sm_fb V) (sm_fb S) (sm_fo M) (sm_fl M) (sm_fw O) (sm_fw G))) (st1 := [.int (sm_bI false), .ref m0]) ⟨hx, hb, hml, hown, hts⟩ (c_none_f l D a (by omega)) (va_cwS 1 hts (sm_gS (i1 := 263) (i2 := 264) (i4 := 2) (i5 := 265) rfl rfl rfl rfl) rfl rfl rfl (by decide +kernel) ⟨Nat.le_of_ble_eq_true rfl, Nat.le_of_ble_eq_true rfl⟩) hK [] rfl hP hD hS hA [] [0, 1, 2, 3, 4, 5, 6] rfl rfl (by decide) (by decide) (by decide) rfl hl.1 rfl (Nat.le_of_ble_eq_true rfl) dX1_op_33 ⟨Nat.le_of_ble_eq_true rfl, Nat.le_of_ble_eq_true rfl⟩ rfl rfl (fun H locs hP hD hS => ?_)
  refine lv_if_ne (tgt := 47) hx hb dX1_op_36 rfl (fun z => absurd (by decide) z) (fun _ => ?_)
  refine lv_iload hx hb dX1_op_39 (lv_at hl 4 rfl) ?_
  refine sm_callS (As := [.int (nI b)]) (rest := [.ref m0]) (wr := (sm_wM cZ m0 m1 m2 m3 m4 m5 m6 0 (sm_fb V) (sm_fb S) (sm_fo M) (sm_fl M) (sm_fw O) (sm_fw G))) (wn := (sm_wM cZ m0 m1 m2 m3 m4 m5 m6 0 (sm_fb V) (sm_fb S) (sm_fo M) (sm_fl M) (sm_fw O) (sm_fw G))) (st1 := [.int (sm_bI false), .ref m0]) ⟨hx, hb, hml, hown, hts⟩ (c_none_f l D b (by omega)) (va_cwS 1 hts (sm_gS (i1 := 263) (i2 := 264) (i4 := 2) (i5 := 265) rfl rfl rfl rfl) rfl rfl rfl (by decide +kernel) ⟨Nat.le_of_ble_eq_true rfl, Nat.le_of_ble_eq_true rfl⟩) hK [] rfl hP hD hS hA [] [0, 1, 2, 3, 4, 5, 6] rfl rfl (by decide) (by decide) (by decide) rfl hl.1 rfl (Nat.le_of_ble_eq_true rfl) dX1_op_41 ⟨Nat.le_of_ble_eq_true rfl, Nat.le_of_ble_eq_true rfl⟩ rfl rfl (fun H locs hP hD hS => ?_)
  refine lv_if_eq (tgt := 51) hx hb dX1_op_44 rfl (fun _ => ?_) (fun z => absurd (by decide) z)
  refine lv_iconst (v := 0) hx hb dX1_op_51 (by decide) ?_
  refine lv_iconst (v := 2) hx hb dX1_op_52 (by decide) ?_
  refine sm_callV (C := RX1) (As := [.int (sm_bI false), .int 2]) (rest := []) (wr := []) (wn := (sm_wM cZ m0 m1 m2 m3 m4 m5 m6 0 (sm_fb V) (sm_fb S) (sm_fo M) (sm_fl M) (sm_fw O) (sm_fw G))) (st1 := [.int (sm_bI false)]) ⟨hx, hb, hml, hown, hts⟩ (c_fails_f l D cZ m0 m1 m2 m3 m4 m5 m6 0 V S M O G 2) (cwV 2 hts (sm_gV (i1 := 266) (i2 := 267) (i3 := 348) (i4 := 2) (i5 := 268) rfl rfl rfl rfl rfl) rfl rfl rfl (by decide +kernel) ⟨Nat.le_of_ble_eq_true rfl, Nat.le_of_ble_eq_true rfl⟩) hK [0] rfl hP hD hS hA 0 rfl rfl [0, 1, 2, 3, 4, 5, 6] [] rfl rfl (by decide) (by decide) (by decide) rfl hl.1 rfl (Nat.le_of_ble_eq_true rfl) dX1_op_53 ⟨Nat.le_of_ble_eq_true rfl, Nat.le_of_ble_eq_true rfl⟩ rfl rfl (fun H locs hP hD hS => ?_)
  refine lv_if_eq (tgt := 60) hx hb dX1_op_56 rfl (fun _ => ?_) (fun z => absurd (by decide) z)
  refine lv_aload_n hx hb dX1_op_60 rfl (lv_at hl 0 rfl) ?_
  refine lv_iload_n hx hb dX1_op_61 rfl (lv_at hl 3 rfl) ?_
  refine sm_callV (C := RX1) (As := [.int (nI a)]) (rest := []) (wr := []) (wn := (sm_wM cZ m0 m1 m2 m3 m4 m5 m6 0 (sm_fb V) (sm_fb S) (sm_fo M) (sm_fl M) (sm_fw O) (sm_fw G))) (st1 := [.int (V a)]) ⟨hx, hb, hml, hown, hts⟩ (c_number l D cZ m0 m1 m2 m3 m4 m5 m6 0 V S M O G a (by omega)) (cwV 1 hts (sm_gV (i1 := 279) (i2 := 280) (i3 := 351) (i4 := 2) (i5 := 281) rfl rfl rfl rfl rfl) rfl rfl rfl (by decide +kernel) ⟨Nat.le_of_ble_eq_true rfl, Nat.le_of_ble_eq_true rfl⟩) hK [0] rfl hP hD hS hA 0 rfl rfl [0, 1, 2, 3, 4, 5, 6] [] rfl rfl (by decide) (by decide) (by decide) rfl hl.1 rfl (Nat.le_of_ble_eq_true rfl) dX1_op_62 ⟨Nat.le_of_ble_eq_true rfl, Nat.le_of_ble_eq_true rfl⟩ rfl rfl (fun H locs hP hD hS => ?_)
  refine lv_istore (lv' := [(5, .int (V a)), (0, .ref m0), (1, .int 0), (2, .int (nI d)), (3, .int (nI a)), (4, .int (nI b))]) hx hb dX1_op_65 hl (by decide) rfl (fun ls hl => ?_)
  refine lv_aload_n hx hb dX1_op_67 rfl (lv_at hl 1 rfl) ?_
  refine lv_iload hx hb dX1_op_68 (lv_at hl 5 rfl) ?_
  refine sm_callV (C := RX1) (As := [.int (nI b)]) (rest := []) (wr := []) (wn := (sm_wM cZ m0 m1 m2 m3 m4 m5 m6 0 (sm_fb V) (sm_fb S) (sm_fo M) (sm_fl M) (sm_fw O) (sm_fw G))) (st1 := [.int (V b)]) ⟨hx, hb, hml, hown, hts⟩ (c_number l D cZ m0 m1 m2 m3 m4 m5 m6 0 V S M O G b (by omega)) (cwV 1 hts (sm_gV (i1 := 279) (i2 := 280) (i3 := 351) (i4 := 2) (i5 := 281) rfl rfl rfl rfl rfl) rfl rfl rfl (by decide +kernel) ⟨Nat.le_of_ble_eq_true rfl, Nat.le_of_ble_eq_true rfl⟩) hK [0] rfl hP hD hS hA 0 rfl rfl [0, 1, 2, 3, 4, 5, 6] [] rfl rfl (by decide) (by decide) (by decide) rfl hl.1 rfl (Nat.le_of_ble_eq_true rfl) dX1_op_70 ⟨Nat.le_of_ble_eq_true rfl, Nat.le_of_ble_eq_true rfl⟩ rfl rfl (fun H locs hP hD hS => ?_)
  refine lv_istore (lv' := [(6, .int (V b)), (5, .int (V a)), (0, .ref m0), (1, .int 0), (2, .int (nI d)), (3, .int (nI a)), (4, .int (nI b))]) hx hb dX1_op_73 hl (by decide) rfl (fun ls hl => ?_)
  refine lv_aload_n hx hb dX1_op_75 rfl (lv_at hl 2 rfl) ?_
  refine lv_iload_n hx hb dX1_op_76 rfl (lv_at hl 5 rfl) ?_
  refine sm_callV (C := RX1) (As := [.int (nI a)]) (rest := []) (wr := []) (wn := (sm_wM cZ m0 m1 m2 m3 m4 m5 m6 0 (sm_fb V) (sm_fb S) (sm_fo M) (sm_fl M) (sm_fw O) (sm_fw G))) (st1 := [.int (nI (sm_tz (S a)))]) ⟨hx, hb, hml, hown, hts⟩ (c_lowest l D cZ m0 m1 m2 m3 m4 m5 m6 0 V S M O G a (by omega)) (cwV 1 hts (sm_gV (i1 := 282) (i2 := 283) (i3 := 352) (i4 := 2) (i5 := 284) rfl rfl rfl rfl rfl) rfl rfl rfl (by decide +kernel) ⟨Nat.le_of_ble_eq_true rfl, Nat.le_of_ble_eq_true rfl⟩) hK [0] rfl hP hD hS hA 0 rfl rfl [0, 1, 2, 3, 4, 5, 6] [] rfl rfl (by decide) (by decide) (by decide) rfl hl.1 rfl (Nat.le_of_ble_eq_true rfl) dX1_op_77 ⟨Nat.le_of_ble_eq_true rfl, Nat.le_of_ble_eq_true rfl⟩ rfl rfl (fun H locs hP hD hS => ?_)
  refine lv_aload_n hx hb dX1_op_80 rfl (lv_at hl 2 rfl) ?_
  refine lv_iload hx hb dX1_op_81 (lv_at hl 6 rfl) ?_
  refine sm_callV (C := RX1) (As := [.int (nI b)]) (rest := [.int (nI (sm_tz (S a)))]) (wr := []) (wn := (sm_wM cZ m0 m1 m2 m3 m4 m5 m6 0 (sm_fb V) (sm_fb S) (sm_fo M) (sm_fl M) (sm_fw O) (sm_fw G))) (st1 := [.int (nI (sm_tz (S b))), .int (nI (sm_tz (S a)))]) ⟨hx, hb, hml, hown, hts⟩ (c_lowest l D cZ m0 m1 m2 m3 m4 m5 m6 0 V S M O G b (by omega)) (cwV 1 hts (sm_gV (i1 := 282) (i2 := 283) (i3 := 352) (i4 := 2) (i5 := 284) rfl rfl rfl rfl rfl) rfl rfl rfl (by decide +kernel) ⟨Nat.le_of_ble_eq_true rfl, Nat.le_of_ble_eq_true rfl⟩) hK [0] rfl hP hD hS hA 0 rfl rfl [0, 1, 2, 3, 4, 5, 6] [] rfl rfl (by decide) (by decide) (by decide) rfl hl.1 rfl (Nat.le_of_ble_eq_true rfl) dX1_op_83 ⟨Nat.le_of_ble_eq_true rfl, Nat.le_of_ble_eq_true rfl⟩ rfl rfl (fun H locs hP hD hS => ?_)
  refine sm_joinH (pcJ := 103) (t := nI (sm_tz (S a ||| S b))) (lv := [(0, .ref m0), (1, .int 0), (2, .int (nI d)), (3, .int (nI a)), (4, .int (nI b)), (5, .int (V a)), (6, .int (V b))]) (w := (sm_wM cZ m0 m1 m2 m3 m4 m5 m6 0 (sm_fb V) (sm_fb S) (sm_fo M) (sm_fl M) (sm_fw O) (sm_fw G))) (rest := []) hl hP hD hS (fun j103 => ?_) (fun H locs ls hl hP hD hS => ?_)
  · refine lv_icmp_ge (tgt := 97) hx hb dX1_op_86 rfl (fun h86 => ?_) (fun h86 => ?_)
    · refine lv_aload_n hx hb dX1_op_97 rfl (lv_at hl 2 rfl) ?_
      refine lv_iload hx hb dX1_op_98 (lv_at hl 6 rfl) ?_
      refine sm_callV (C := RX1) (As := [.int (nI b)]) (rest := []) (wr := []) (wn := (sm_wM cZ m0 m1 m2 m3 m4 m5 m6 0 (sm_fb V) (sm_fb S) (sm_fo M) (sm_fl M) (sm_fw O) (sm_fw G))) (st1 := [.int (nI (sm_tz (S b)))]) ⟨hx, hb, hml, hown, hts⟩ (c_lowest l D cZ m0 m1 m2 m3 m4 m5 m6 0 V S M O G b (by omega)) (cwV 1 hts (sm_gV (i1 := 282) (i2 := 283) (i3 := 352) (i4 := 2) (i5 := 284) rfl rfl rfl rfl rfl) rfl rfl rfl (by decide +kernel) ⟨Nat.le_of_ble_eq_true rfl, Nat.le_of_ble_eq_true rfl⟩) hK [0] rfl hP hD hS hA 0 rfl rfl [0, 1, 2, 3, 4, 5, 6] [] rfl rfl (by decide) (by decide) (by decide) rfl hl.1 rfl (Nat.le_of_ble_eq_true rfl) dX1_op_100 ⟨Nat.le_of_ble_eq_true rfl, Nat.le_of_ble_eq_true rfl⟩ rfl rfl (fun H locs hP hD hS => ?_)
      refine sm_eqi (y := nI (sm_tz (S a ||| S b))) (sm_low2 h86) ?_
      exact j103 _ _ _ (lv_sub hl [2, 3, 4, 5, 6, 1, 0] rfl) hP hD hS
    · refine lv_aload_n hx hb dX1_op_89 rfl (lv_at hl 2 rfl) ?_
      refine lv_iload_n hx hb dX1_op_90 rfl (lv_at hl 5 rfl) ?_
      refine sm_callV (C := RX1) (As := [.int (nI a)]) (rest := []) (wr := []) (wn := (sm_wM cZ m0 m1 m2 m3 m4 m5 m6 0 (sm_fb V) (sm_fb S) (sm_fo M) (sm_fl M) (sm_fw O) (sm_fw G))) (st1 := [.int (nI (sm_tz (S a)))]) ⟨hx, hb, hml, hown, hts⟩ (c_lowest l D cZ m0 m1 m2 m3 m4 m5 m6 0 V S M O G a (by omega)) (cwV 1 hts (sm_gV (i1 := 282) (i2 := 283) (i3 := 352) (i4 := 2) (i5 := 284) rfl rfl rfl rfl rfl) rfl rfl rfl (by decide +kernel) ⟨Nat.le_of_ble_eq_true rfl, Nat.le_of_ble_eq_true rfl⟩) hK [0] rfl hP hD hS hA 0 rfl rfl [0, 1, 2, 3, 4, 5, 6] [] rfl rfl (by decide) (by decide) (by decide) rfl hl.1 rfl (Nat.le_of_ble_eq_true rfl) dX1_op_91 ⟨Nat.le_of_ble_eq_true rfl, Nat.le_of_ble_eq_true rfl⟩ rfl rfl (fun H locs hP hD hS => ?_)
      refine lv_goto (tgt := 103) hx hb dX1_op_94 rfl ?_
      refine sm_eqi (y := nI (sm_tz (S a ||| S b))) (sm_low1 h86) ?_
      exact j103 _ _ _ (lv_sub hl [2, 3, 4, 5, 6, 1, 0] rfl) hP hD hS
  refine lv_istore (lv' := [(7, .int (nI (sm_tz (S a ||| S b)))), (0, .ref m0), (1, .int 0), (2, .int (nI d)), (3, .int (nI a)), (4, .int (nI b)), (5, .int (V a)), (6, .int (V b))]) hx hb dX1_op_103 hl (by decide) rfl (fun ls hl => ?_)
  refine lv_iload_n hx hb dX1_op_105 rfl (lv_at hl 2 rfl) ?_
  refine lv_tableIn (off := 62) (tgt := 168) hx hb dX1_op_106 (by decide) (by decide) (by decide) (by decide) ?_
  refine lv_aload_n hx hb dX1_op_168 rfl (lv_at hl 1 rfl) ?_
  refine lv_iload hx hb dX1_op_169 (lv_at hl 6 rfl) ?_
  refine lv_iload hx hb dX1_op_171 (lv_at hl 7 rfl) ?_
  refine lv_iadd hx hb dX1_op_173 ?_
  refine sm_callV (C := RX1) (As := [.int ((V a) + (V b))]) (rest := []) (wr := []) (wn := (sm_wM cZ m0 m1 m2 m3 m4 m5 m6 0 (sm_fb V) (sm_fb S) (sm_fo M) (sm_fl M) (sm_fw ((V a) + (V b))) (sm_fw 0))) (st1 := []) ⟨hx, hb, hml, hown, hts⟩ (c_make l D cZ m0 m1 m2 m3 m4 m5 m6 0 V S M O G ((V a) + (V b))) (cwV 1 hts (sm_gV (i1 := 269) (i2 := 270) (i3 := 349) (i4 := 2) (i5 := 271) rfl rfl rfl rfl rfl) rfl rfl rfl (by decide +kernel) ⟨Nat.le_of_ble_eq_true rfl, Nat.le_of_ble_eq_true rfl⟩) hK [0] rfl hP hD hS hA 0 rfl rfl [0, 1, 2, 3, 4, 5, 6] [] rfl rfl (by decide) (by decide) (by decide) rfl hl.1 rfl (Nat.le_of_ble_eq_true rfl) dX1_op_174 ⟨Nat.le_of_ble_eq_true rfl, Nat.le_of_ble_eq_true rfl⟩ rfl rfl (fun H locs hP hD hS => ?_)
  refine lv_aload_n hx hb dX1_op_177 rfl (lv_at hl 1 rfl) ?_
  refine lv_iload hx hb dX1_op_178 (lv_at hl 0 rfl) ?_
  refine sm_callV (C := RX1) (As := [.int (nI (sm_tz (S a ||| S b)))]) (rest := []) (wr := []) (wn := (sm_wM cZ m0 m1 m2 m3 m4 m5 m6 0 (sm_fb V) (sm_fb S) (sm_fo M) (sm_fl M) (sm_fw ((V a) + (V b))) (sm_fw (sm_fr (sm_tz (S a ||| S b)))))) (st1 := []) ⟨hx, hb, hml, hown, hts⟩ (c_from l D cZ m0 m1 m2 m3 m4 m5 m6 0 V S M ((V a) + (V b)) 0 (sm_tz (S a ||| S b)) (by omega)) (cwV 1 hts (sm_gV (i1 := 288) (i2 := 289) (i3 := 354) (i4 := 2) (i5 := 290) rfl rfl rfl rfl rfl) rfl rfl rfl (by decide +kernel) ⟨Nat.le_of_ble_eq_true rfl, Nat.le_of_ble_eq_true rfl⟩) hK [0] rfl hP hD hS hA 0 rfl rfl [0, 1, 2, 3, 4, 5, 6] [] rfl rfl (by decide) (by decide) (by decide) rfl hl.1 rfl (Nat.le_of_ble_eq_true rfl) dX1_op_180 ⟨Nat.le_of_ble_eq_true rfl, Nat.le_of_ble_eq_true rfl⟩ rfl rfl (fun H locs hP hD hS => ?_)
  refine lv_goto (tgt := 778) hx hb dX1_op_183 rfl ?_
  refine lv_aload_n hx hb dX1_op_778 rfl (lv_at hl 1 rfl) ?_
  refine lv_iload_n hx hb dX1_op_779 rfl (lv_at hl 3 rfl) ?_
  refine sm_callV (C := RX1) (As := [.int (nI d)]) (rest := []) (wr := []) (wn := (sm_wM cZ m0 m1 m2 m3 m4 m5 m6 0 (sm_fb (upd V d ((V a) + (V b)))) (sm_fb (upd S d (sm_fr (sm_tz (S a ||| S b))))) (sm_fo M) (sm_fl M) (sm_fw ((V a) + (V b))) (sm_fw (sm_fr (sm_tz (S a ||| S b)))))) (st1 := []) ⟨hx, hb, hml, hown, hts⟩ (c_give l D cZ m0 m1 m2 m3 m4 m5 m6 0 V S M ((V a) + (V b)) (sm_fr (sm_tz (S a ||| S b))) d (by omega)) (cwV 1 hts (sm_gV (i1 := 272) (i2 := 273) (i3 := 350) (i4 := 2) (i5 := 274) rfl rfl rfl rfl rfl) rfl rfl rfl (by decide +kernel) ⟨Nat.le_of_ble_eq_true rfl, Nat.le_of_ble_eq_true rfl⟩) hK [0] rfl hP hD hS hA 0 rfl rfl [0, 1, 2, 3, 4, 5, 6] [] rfl rfl (by decide) (by decide) (by decide) rfl hl.1 rfl (Nat.le_of_ble_eq_true rfl) dX1_op_780 ⟨Nat.le_of_ble_eq_true rfl, Nat.le_of_ble_eq_true rfl⟩ rfl rfl (fun H locs hP hD hS => ?_)
  exact sm_vret hx hb hrt hlocks hS hP hD dX1_op_783
set_option maxHeartbeats 4000000 in
set_option maxRecDepth 100000 in
theorem c_mop_1 (l : Launch) (D : va_G) (cZ : ClassId) (m0 m1 m2 m3 m4 m5 m6 : Nat) (err : Int32) (V S M : Nat → Int32) (O G : Int32) (d a b : Nat) (hd : d < 16) (ha : a < 16) (hb' : b < 16) : sm_C l yX1_op wsX1_op ({ frames := 5, cells := 0, slots := 0, locals := 140 } : Room) D vwCl [(cZ, .boolean)] [.ref m0, .int 1, .int (nI d), .int (nI a), .int (nI b)] (sm_wM cZ m0 m1 m2 m3 m4 m5 m6 err (sm_fb V) (sm_fb S) (sm_fo M) (sm_fl M) (sm_fw O) (sm_fw G)) none (sm_wM cZ m0 m1 m2 m3 m4 m5 m6 0 (sm_fb (upd V d (V a - V b))) (sm_fb (upd S d (sm_fr (sm_tz (S a ||| S b))))) (sm_fo M) (sm_fl M) (sm_fw (V a - V b)) (sm_fw (sm_fr (sm_tz (S a ||| S b))))) := by
  refine sm_start (cc := cX1_op) (maxL := 11) (ret := none) (lv := [(0, .ref m0), (1, .int 1), (2, .int (nI d)), (3, .int (nI a)), (4, .int (nI b))]) (by decide) rfl (Nat.le_of_ble_eq_true rfl) rfl ?_
  intro p e s m below meth c hx hb hrt hts hown hlocks hml hin hK hP hD hS hA ls hl
  have hw := sm_hw hts
  have q5 := sm_tz_le (S a ||| S b)
  have q1 := sm_tz_le (S a)
  have q2 := sm_tz_le (S b)
  have q3 := sm_tz_le (V b ||| S b)
  have q4 := sm_tz_le (V a ||| S a)
  refine lv_aload_n hx hb dX1_op_0 rfl (lv_at hl 0 rfl) ?_
  refine lv_iload_n hx hb dX1_op_1 rfl (lv_at hl 1 rfl) ?_
  refine lv_if_lt (tgt := 11) hx hb dX1_op_2 rfl (fun z => absurd z (by decide)) (fun _ => ?_)
  refine lv_iload_n hx hb dX1_op_5 rfl (lv_at hl 1 rfl) ?_
  refine lv_bipush (v := 12) hx hb dX1_op_6 (by decide) ?_
  refine lv_icmp_le (tgt := 15) hx hb dX1_op_8 rfl (fun _ => ?_) (fun z => absurd (by decide) z)
  refine lv_iconst (v := 0) hx hb dX1_op_15 (by decide) ?_
  refine lv_iconst (v := 1) hx hb dX1_op_16 (by decide) ?_
  refine sm_callV (C := RX1) (As := [.int (sm_bI false), .int 1]) (rest := []) (wr := []) (wn := (sm_wM cZ m0 m1 m2 m3 m4 m5 m6 0 (sm_fb V) (sm_fb S) (sm_fo M) (sm_fl M) (sm_fw O) (sm_fw G))) (st1 := [.int (sm_bI false)]) ⟨hx, hb, hml, hown, hts⟩ (c_fails_f l D cZ m0 m1 m2 m3 m4 m5 m6 err V S M O G 1) (cwV 2 hts (sm_gV (i1 := 266) (i2 := 267) (i3 := 348) (i4 := 2) (i5 := 268) rfl rfl rfl rfl rfl) rfl rfl rfl (by decide +kernel) ⟨Nat.le_of_ble_eq_true rfl, Nat.le_of_ble_eq_true rfl⟩) hK [0] rfl hP hD hS hA 0 rfl rfl [0, 1, 2, 3, 4, 5, 6] [] rfl rfl (by decide) (by decide) (by decide) rfl hl.1 rfl (Nat.le_of_ble_eq_true rfl) dX1_op_17 ⟨Nat.le_of_ble_eq_true rfl, Nat.le_of_ble_eq_true rfl⟩ rfl rfl (fun H locs hP hD hS => ?_)
  refine lv_if_eq (tgt := 24) hx hb dX1_op_20 rfl (fun _ => ?_) (fun z => absurd (by decide) z)
  refine lv_aload_n hx hb dX1_op_24 rfl (lv_at hl 0 rfl) ?_
  refine lv_iload_n hx hb dX1_op_25 rfl (lv_at hl 2 rfl) ?_
  refine sm_callS (As := [.int (nI d)]) (rest := [.ref m0]) (wr := (sm_wM cZ m0 m1 m2 m3 m4 m5 m6 0 (sm_fb V) (sm_fb S) (sm_fo M) (sm_fl M) (sm_fw O) (sm_fw G))) (wn := (sm_wM cZ m0 m1 m2 m3 m4 m5 m6 0 (sm_fb V) (sm_fb S) (sm_fo M) (sm_fl M) (sm_fw O) (sm_fw G))) (st1 := [.int (sm_bI false), .ref m0]) ⟨hx, hb, hml, hown, hts⟩ (c_none_f l D d (by omega)) (va_cwS 1 hts (sm_gS (i1 := 263) (i2 := 264) (i4 := 2) (i5 := 265) rfl rfl rfl rfl) rfl rfl rfl (by decide +kernel) ⟨Nat.le_of_ble_eq_true rfl, Nat.le_of_ble_eq_true rfl⟩) hK [] rfl hP hD hS hA [] [0, 1, 2, 3, 4, 5, 6] rfl rfl (by decide) (by decide) (by decide) rfl hl.1 rfl (Nat.le_of_ble_eq_true rfl) dX1_op_26 ⟨Nat.le_of_ble_eq_true rfl, Nat.le_of_ble_eq_true rfl⟩ rfl rfl (fun H locs hP hD hS => ?_)
  refine lv_if_ne (tgt := 47) hx hb dX1_op_29 rfl (fun z => absurd (by decide) z) (fun _ => ?_)
  refine lv_iload_n hx hb dX1_op_32 rfl (lv_at hl 3 rfl) ?_
  refine sm_callS (As := [.int (nI a)]) (rest := [.ref m0]) (wr := (sm_wM cZ m0 m1 m2 m3 m4 m5 m6 0 (sm_fb V) (sm_fb S) (sm_fo M) (sm_fl M) (sm_fw O) (sm_fw G))) (wn := (sm_wM cZ m0 m1 m2 m3 m4 m5 m6 0 (sm_fb V) (sm_fb S) (sm_fo M) (sm_fl M) (sm_fw O) (sm_fw G))) (st1 := [.int (sm_bI false), .ref m0]) ⟨hx, hb, hml, hown, hts⟩ (c_none_f l D a (by omega)) (va_cwS 1 hts (sm_gS (i1 := 263) (i2 := 264) (i4 := 2) (i5 := 265) rfl rfl rfl rfl) rfl rfl rfl (by decide +kernel) ⟨Nat.le_of_ble_eq_true rfl, Nat.le_of_ble_eq_true rfl⟩) hK [] rfl hP hD hS hA [] [0, 1, 2, 3, 4, 5, 6] rfl rfl (by decide) (by decide) (by decide) rfl hl.1 rfl (Nat.le_of_ble_eq_true rfl) dX1_op_33 ⟨Nat.le_of_ble_eq_true rfl, Nat.le_of_ble_eq_true rfl⟩ rfl rfl (fun H locs hP hD hS => ?_)
  refine lv_if_ne (tgt := 47) hx hb dX1_op_36 rfl (fun z => absurd (by decide) z) (fun _ => ?_)
  refine lv_iload hx hb dX1_op_39 (lv_at hl 4 rfl) ?_
  refine sm_callS (As := [.int (nI b)]) (rest := [.ref m0]) (wr := (sm_wM cZ m0 m1 m2 m3 m4 m5 m6 0 (sm_fb V) (sm_fb S) (sm_fo M) (sm_fl M) (sm_fw O) (sm_fw G))) (wn := (sm_wM cZ m0 m1 m2 m3 m4 m5 m6 0 (sm_fb V) (sm_fb S) (sm_fo M) (sm_fl M) (sm_fw O) (sm_fw G))) (st1 := [.int (sm_bI false), .ref m0]) ⟨hx, hb, hml, hown, hts⟩ (c_none_f l D b (by omega)) (va_cwS 1 hts (sm_gS (i1 := 263) (i2 := 264) (i4 := 2) (i5 := 265) rfl rfl rfl rfl) rfl rfl rfl (by decide +kernel) ⟨Nat.le_of_ble_eq_true rfl, Nat.le_of_ble_eq_true rfl⟩) hK [] rfl hP hD hS hA [] [0, 1, 2, 3, 4, 5, 6] rfl rfl (by decide) (by decide) (by decide) rfl hl.1 rfl (Nat.le_of_ble_eq_true rfl) dX1_op_41 ⟨Nat.le_of_ble_eq_true rfl, Nat.le_of_ble_eq_true rfl⟩ rfl rfl (fun H locs hP hD hS => ?_)
  refine lv_if_eq (tgt := 51) hx hb dX1_op_44 rfl (fun _ => ?_) (fun z => absurd (by decide) z)
  refine lv_iconst (v := 0) hx hb dX1_op_51 (by decide) ?_
  refine lv_iconst (v := 2) hx hb dX1_op_52 (by decide) ?_
  refine sm_callV (C := RX1) (As := [.int (sm_bI false), .int 2]) (rest := []) (wr := []) (wn := (sm_wM cZ m0 m1 m2 m3 m4 m5 m6 0 (sm_fb V) (sm_fb S) (sm_fo M) (sm_fl M) (sm_fw O) (sm_fw G))) (st1 := [.int (sm_bI false)]) ⟨hx, hb, hml, hown, hts⟩ (c_fails_f l D cZ m0 m1 m2 m3 m4 m5 m6 0 V S M O G 2) (cwV 2 hts (sm_gV (i1 := 266) (i2 := 267) (i3 := 348) (i4 := 2) (i5 := 268) rfl rfl rfl rfl rfl) rfl rfl rfl (by decide +kernel) ⟨Nat.le_of_ble_eq_true rfl, Nat.le_of_ble_eq_true rfl⟩) hK [0] rfl hP hD hS hA 0 rfl rfl [0, 1, 2, 3, 4, 5, 6] [] rfl rfl (by decide) (by decide) (by decide) rfl hl.1 rfl (Nat.le_of_ble_eq_true rfl) dX1_op_53 ⟨Nat.le_of_ble_eq_true rfl, Nat.le_of_ble_eq_true rfl⟩ rfl rfl (fun H locs hP hD hS => ?_)
  refine lv_if_eq (tgt := 60) hx hb dX1_op_56 rfl (fun _ => ?_) (fun z => absurd (by decide) z)
  refine lv_aload_n hx hb dX1_op_60 rfl (lv_at hl 0 rfl) ?_
  refine lv_iload_n hx hb dX1_op_61 rfl (lv_at hl 3 rfl) ?_
  refine sm_callV (C := RX1) (As := [.int (nI a)]) (rest := []) (wr := []) (wn := (sm_wM cZ m0 m1 m2 m3 m4 m5 m6 0 (sm_fb V) (sm_fb S) (sm_fo M) (sm_fl M) (sm_fw O) (sm_fw G))) (st1 := [.int (V a)]) ⟨hx, hb, hml, hown, hts⟩ (c_number l D cZ m0 m1 m2 m3 m4 m5 m6 0 V S M O G a (by omega)) (cwV 1 hts (sm_gV (i1 := 279) (i2 := 280) (i3 := 351) (i4 := 2) (i5 := 281) rfl rfl rfl rfl rfl) rfl rfl rfl (by decide +kernel) ⟨Nat.le_of_ble_eq_true rfl, Nat.le_of_ble_eq_true rfl⟩) hK [0] rfl hP hD hS hA 0 rfl rfl [0, 1, 2, 3, 4, 5, 6] [] rfl rfl (by decide) (by decide) (by decide) rfl hl.1 rfl (Nat.le_of_ble_eq_true rfl) dX1_op_62 ⟨Nat.le_of_ble_eq_true rfl, Nat.le_of_ble_eq_true rfl⟩ rfl rfl (fun H locs hP hD hS => ?_)
  refine lv_istore (lv' := [(5, .int (V a)), (0, .ref m0), (1, .int 1), (2, .int (nI d)), (3, .int (nI a)), (4, .int (nI b))]) hx hb dX1_op_65 hl (by decide) rfl (fun ls hl => ?_)
  refine lv_aload_n hx hb dX1_op_67 rfl (lv_at hl 1 rfl) ?_
  refine lv_iload hx hb dX1_op_68 (lv_at hl 5 rfl) ?_
  refine sm_callV (C := RX1) (As := [.int (nI b)]) (rest := []) (wr := []) (wn := (sm_wM cZ m0 m1 m2 m3 m4 m5 m6 0 (sm_fb V) (sm_fb S) (sm_fo M) (sm_fl M) (sm_fw O) (sm_fw G))) (st1 := [.int (V b)]) ⟨hx, hb, hml, hown, hts⟩ (c_number l D cZ m0 m1 m2 m3 m4 m5 m6 0 V S M O G b (by omega)) (cwV 1 hts (sm_gV (i1 := 279) (i2 := 280) (i3 := 351) (i4 := 2) (i5 := 281) rfl rfl rfl rfl rfl) rfl rfl rfl (by decide +kernel) ⟨Nat.le_of_ble_eq_true rfl, Nat.le_of_ble_eq_true rfl⟩) hK [0] rfl hP hD hS hA 0 rfl rfl [0, 1, 2, 3, 4, 5, 6] [] rfl rfl (by decide) (by decide) (by decide) rfl hl.1 rfl (Nat.le_of_ble_eq_true rfl) dX1_op_70 ⟨Nat.le_of_ble_eq_true rfl, Nat.le_of_ble_eq_true rfl⟩ rfl rfl (fun H locs hP hD hS => ?_)
  refine lv_istore (lv' := [(6, .int (V b)), (5, .int (V a)), (0, .ref m0), (1, .int 1), (2, .int (nI d)), (3, .int (nI a)), (4, .int (nI b))]) hx hb dX1_op_73 hl (by decide) rfl (fun ls hl => ?_)
  refine lv_aload_n hx hb dX1_op_75 rfl (lv_at hl 2 rfl) ?_
  refine lv_iload_n hx hb dX1_op_76 rfl (lv_at hl 5 rfl) ?_
  refine sm_callV (C := RX1) (As := [.int (nI a)]) (rest := []) (wr := []) (wn := (sm_wM cZ m0 m1 m2 m3 m4 m5 m6 0 (sm_fb V) (sm_fb S) (sm_fo M) (sm_fl M) (sm_fw O) (sm_fw G))) (st1 := [.int (nI (sm_tz (S a)))]) ⟨hx, hb, hml, hown, hts⟩ (c_lowest l D cZ m0 m1 m2 m3 m4 m5 m6 0 V S M O G a (by omega)) (cwV 1 hts (sm_gV (i1 := 282) (i2 := 283) (i3 := 352) (i4 := 2) (i5 := 284) rfl rfl rfl rfl rfl) rfl rfl rfl (by decide +kernel) ⟨Nat.le_of_ble_eq_true rfl, Nat.le_of_ble_eq_true rfl⟩) hK [0] rfl hP hD hS hA 0 rfl rfl [0, 1, 2, 3, 4, 5, 6] [] rfl rfl (by decide) (by decide) (by decide) rfl hl.1 rfl (Nat.le_of_ble_eq_true rfl) dX1_op_77 ⟨Nat.le_of_ble_eq_true rfl, Nat.le_of_ble_eq_true rfl⟩ rfl rfl (fun H locs hP hD hS => ?_)
  refine lv_aload_n hx hb dX1_op_80 rfl (lv_at hl 2 rfl) ?_
  refine lv_iload hx hb dX1_op_81 (lv_at hl 6 rfl) ?_
  refine sm_callV (C := RX1) (As := [.int (nI b)]) (rest := [.int (nI (sm_tz (S a)))]) (wr := []) (wn := (sm_wM cZ m0 m1 m2 m3 m4 m5 m6 0 (sm_fb V) (sm_fb S) (sm_fo M) (sm_fl M) (sm_fw O) (sm_fw G))) (st1 := [.int (nI (sm_tz (S b))), .int (nI (sm_tz (S a)))]) ⟨hx, hb, hml, hown, hts⟩ (c_lowest l D cZ m0 m1 m2 m3 m4 m5 m6 0 V S M O G b (by omega)) (cwV 1 hts (sm_gV (i1 := 282) (i2 := 283) (i3 := 352) (i4 := 2) (i5 := 284) rfl rfl rfl rfl rfl) rfl rfl rfl (by decide +kernel) ⟨Nat.le_of_ble_eq_true rfl, Nat.le_of_ble_eq_true rfl⟩) hK [0] rfl hP hD hS hA 0 rfl rfl [0, 1, 2, 3, 4, 5, 6] [] rfl rfl (by decide) (by decide) (by decide) rfl hl.1 rfl (Nat.le_of_ble_eq_true rfl) dX1_op_83 ⟨Nat.le_of_ble_eq_true rfl, Nat.le_of_ble_eq_true rfl⟩ rfl rfl (fun H locs hP hD hS => ?_)
  refine sm_joinH (pcJ := 103) (t := nI (sm_tz (S a ||| S b))) (lv := [(0, .ref m0), (1, .int 1), (2, .int (nI d)), (3, .int (nI a)), (4, .int (nI b)), (5, .int (V a)), (6, .int (V b))]) (w := (sm_wM cZ m0 m1 m2 m3 m4 m5 m6 0 (sm_fb V) (sm_fb S) (sm_fo M) (sm_fl M) (sm_fw O) (sm_fw G))) (rest := []) hl hP hD hS (fun j103 => ?_) (fun H locs ls hl hP hD hS => ?_)
  · refine lv_icmp_ge (tgt := 97) hx hb dX1_op_86 rfl (fun h86 => ?_) (fun h86 => ?_)
    · refine lv_aload_n hx hb dX1_op_97 rfl (lv_at hl 2 rfl) ?_
      refine lv_iload hx hb dX1_op_98 (lv_at hl 6 rfl) ?_
      refine sm_callV (C := RX1) (As := [.int (nI b)]) (rest := []) (wr := []) (wn := (sm_wM cZ m0 m1 m2 m3 m4 m5 m6 0 (sm_fb V) (sm_fb S) (sm_fo M) (sm_fl M) (sm_fw O) (sm_fw G))) (st1 := [.int (nI (sm_tz (S b)))]) ⟨hx, hb, hml, hown, hts⟩ (c_lowest l D cZ m0 m1 m2 m3 m4 m5 m6 0 V S M O G b (by omega)) (cwV 1 hts (sm_gV (i1 := 282) (i2 := 283) (i3 := 352) (i4 := 2) (i5 := 284) rfl rfl rfl rfl rfl) rfl rfl rfl (by decide +kernel) ⟨Nat.le_of_ble_eq_true rfl, Nat.le_of_ble_eq_true rfl⟩) hK [0] rfl hP hD hS hA 0 rfl rfl [0, 1, 2, 3, 4, 5, 6] [] rfl rfl (by decide) (by decide) (by decide) rfl hl.1 rfl (Nat.le_of_ble_eq_true rfl) dX1_op_100 ⟨Nat.le_of_ble_eq_true rfl, Nat.le_of_ble_eq_true rfl⟩ rfl rfl (fun H locs hP hD hS => ?_)
      refine sm_eqi (y := nI (sm_tz (S a ||| S b))) (sm_low2 h86) ?_
      exact j103 _ _ _ (lv_sub hl [2, 3, 4, 5, 6, 1, 0] rfl) hP hD hS
    · refine lv_aload_n hx hb dX1_op_89 rfl (lv_at hl 2 rfl) ?_
      refine lv_iload_n hx hb dX1_op_90 rfl (lv_at hl 5 rfl) ?_
      refine sm_callV (C := RX1) (As := [.int (nI a)]) (rest := []) (wr := []) (wn := (sm_wM cZ m0 m1 m2 m3 m4 m5 m6 0 (sm_fb V) (sm_fb S) (sm_fo M) (sm_fl M) (sm_fw O) (sm_fw G))) (st1 := [.int (nI (sm_tz (S a)))]) ⟨hx, hb, hml, hown, hts⟩ (c_lowest l D cZ m0 m1 m2 m3 m4 m5 m6 0 V S M O G a (by omega)) (cwV 1 hts (sm_gV (i1 := 282) (i2 := 283) (i3 := 352) (i4 := 2) (i5 := 284) rfl rfl rfl rfl rfl) rfl rfl rfl (by decide +kernel) ⟨Nat.le_of_ble_eq_true rfl, Nat.le_of_ble_eq_true rfl⟩) hK [0] rfl hP hD hS hA 0 rfl rfl [0, 1, 2, 3, 4, 5, 6] [] rfl rfl (by decide) (by decide) (by decide) rfl hl.1 rfl (Nat.le_of_ble_eq_true rfl) dX1_op_91 ⟨Nat.le_of_ble_eq_true rfl, Nat.le_of_ble_eq_true rfl⟩ rfl rfl (fun H locs hP hD hS => ?_)
      refine lv_goto (tgt := 103) hx hb dX1_op_94 rfl ?_
      refine sm_eqi (y := nI (sm_tz (S a ||| S b))) (sm_low1 h86) ?_
      exact j103 _ _ _ (lv_sub hl [2, 3, 4, 5, 6, 1, 0] rfl) hP hD hS
  refine lv_istore (lv' := [(7, .int (nI (sm_tz (S a ||| S b)))), (0, .ref m0), (1, .int 1), (2, .int (nI d)), (3, .int (nI a)), (4, .int (nI b)), (5, .int (V a)), (6, .int (V b))]) hx hb dX1_op_103 hl (by decide) rfl (fun ls hl => ?_)
  refine lv_iload_n hx hb dX1_op_105 rfl (lv_at hl 2 rfl) ?_
  refine lv_tableIn (off := 80) (tgt := 186) hx hb dX1_op_106 (by decide) (by decide) (by decide) (by decide) ?_
  refine lv_aload_n hx hb dX1_op_186 rfl (lv_at hl 1 rfl) ?_
  refine lv_iload hx hb dX1_op_187 (lv_at hl 6 rfl) ?_
  refine lv_iload hx hb dX1_op_189 (lv_at hl 7 rfl) ?_
  refine lv_isub hx hb dX1_op_191 ?_
  refine sm_callV (C := RX1) (As := [.int ((V a) - (V b))]) (rest := []) (wr := []) (wn := (sm_wM cZ m0 m1 m2 m3 m4 m5 m6 0 (sm_fb V) (sm_fb S) (sm_fo M) (sm_fl M) (sm_fw ((V a) - (V b))) (sm_fw 0))) (st1 := []) ⟨hx, hb, hml, hown, hts⟩ (c_make l D cZ m0 m1 m2 m3 m4 m5 m6 0 V S M O G ((V a) - (V b))) (cwV 1 hts (sm_gV (i1 := 269) (i2 := 270) (i3 := 349) (i4 := 2) (i5 := 271) rfl rfl rfl rfl rfl) rfl rfl rfl (by decide +kernel) ⟨Nat.le_of_ble_eq_true rfl, Nat.le_of_ble_eq_true rfl⟩) hK [0] rfl hP hD hS hA 0 rfl rfl [0, 1, 2, 3, 4, 5, 6] [] rfl rfl (by decide) (by decide) (by decide) rfl hl.1 rfl (Nat.le_of_ble_eq_true rfl) dX1_op_192 ⟨Nat.le_of_ble_eq_true rfl, Nat.le_of_ble_eq_true rfl⟩ rfl rfl (fun H locs hP hD hS => ?_)
  refine lv_aload_n hx hb dX1_op_195 rfl (lv_at hl 1 rfl) ?_
  refine lv_iload hx hb dX1_op_196 (lv_at hl 0 rfl) ?_
  refine sm_callV (C := RX1) (As := [.int (nI (sm_tz (S a ||| S b)))]) (rest := []) (wr := []) (wn := (sm_wM cZ m0 m1 m2 m3 m4 m5 m6 0 (sm_fb V) (sm_fb S) (sm_fo M) (sm_fl M) (sm_fw ((V a) - (V b))) (sm_fw (sm_fr (sm_tz (S a ||| S b)))))) (st1 := []) ⟨hx, hb, hml, hown, hts⟩ (c_from l D cZ m0 m1 m2 m3 m4 m5 m6 0 V S M ((V a) - (V b)) 0 (sm_tz (S a ||| S b)) (by omega)) (cwV 1 hts (sm_gV (i1 := 288) (i2 := 289) (i3 := 354) (i4 := 2) (i5 := 290) rfl rfl rfl rfl rfl) rfl rfl rfl (by decide +kernel) ⟨Nat.le_of_ble_eq_true rfl, Nat.le_of_ble_eq_true rfl⟩) hK [0] rfl hP hD hS hA 0 rfl rfl [0, 1, 2, 3, 4, 5, 6] [] rfl rfl (by decide) (by decide) (by decide) rfl hl.1 rfl (Nat.le_of_ble_eq_true rfl) dX1_op_198 ⟨Nat.le_of_ble_eq_true rfl, Nat.le_of_ble_eq_true rfl⟩ rfl rfl (fun H locs hP hD hS => ?_)
  refine lv_goto (tgt := 778) hx hb dX1_op_201 rfl ?_
  refine lv_aload_n hx hb dX1_op_778 rfl (lv_at hl 1 rfl) ?_
  refine lv_iload_n hx hb dX1_op_779 rfl (lv_at hl 3 rfl) ?_
  refine sm_callV (C := RX1) (As := [.int (nI d)]) (rest := []) (wr := []) (wn := (sm_wM cZ m0 m1 m2 m3 m4 m5 m6 0 (sm_fb (upd V d ((V a) - (V b)))) (sm_fb (upd S d (sm_fr (sm_tz (S a ||| S b))))) (sm_fo M) (sm_fl M) (sm_fw ((V a) - (V b))) (sm_fw (sm_fr (sm_tz (S a ||| S b)))))) (st1 := []) ⟨hx, hb, hml, hown, hts⟩ (c_give l D cZ m0 m1 m2 m3 m4 m5 m6 0 V S M ((V a) - (V b)) (sm_fr (sm_tz (S a ||| S b))) d (by omega)) (cwV 1 hts (sm_gV (i1 := 272) (i2 := 273) (i3 := 350) (i4 := 2) (i5 := 274) rfl rfl rfl rfl rfl) rfl rfl rfl (by decide +kernel) ⟨Nat.le_of_ble_eq_true rfl, Nat.le_of_ble_eq_true rfl⟩) hK [0] rfl hP hD hS hA 0 rfl rfl [0, 1, 2, 3, 4, 5, 6] [] rfl rfl (by decide) (by decide) (by decide) rfl hl.1 rfl (Nat.le_of_ble_eq_true rfl) dX1_op_780 ⟨Nat.le_of_ble_eq_true rfl, Nat.le_of_ble_eq_true rfl⟩ rfl rfl (fun H locs hP hD hS => ?_)
  exact sm_vret hx hb hrt hlocks hS hP hD dX1_op_783
set_option maxHeartbeats 4000000 in
set_option maxRecDepth 100000 in
theorem c_mop_2 (l : Launch) (D : va_G) (cZ : ClassId) (m0 m1 m2 m3 m4 m5 m6 : Nat) (err : Int32) (V S M : Nat → Int32) (O G : Int32) (d a b : Nat) (hd : d < 16) (ha : a < 16) (hb' : b < 16) : sm_C l yX1_op wsX1_op ({ frames := 5, cells := 0, slots := 0, locals := 140 } : Room) D vwCl [(cZ, .boolean)] [.ref m0, .int 2, .int (nI d), .int (nI a), .int (nI b)] (sm_wM cZ m0 m1 m2 m3 m4 m5 m6 err (sm_fb V) (sm_fb S) (sm_fo M) (sm_fl M) (sm_fw O) (sm_fw G)) none (sm_wM cZ m0 m1 m2 m3 m4 m5 m6 0 (sm_fb (upd V d (V a &&& V b))) (sm_fb (upd S d ((S a ||| S b) &&& (S a ||| V a) &&& (S b ||| V b)))) (sm_fo M) (sm_fl M) (sm_fw (V a &&& V b)) (sm_fw ((S a ||| S b) &&& (S a ||| V a) &&& (S b ||| V b)))) := by
  refine sm_start (cc := cX1_op) (maxL := 11) (ret := none) (lv := [(0, .ref m0), (1, .int 2), (2, .int (nI d)), (3, .int (nI a)), (4, .int (nI b))]) (by decide) rfl (Nat.le_of_ble_eq_true rfl) rfl ?_
  intro p e s m below meth c hx hb hrt hts hown hlocks hml hin hK hP hD hS hA ls hl
  have hw := sm_hw hts
  have q5 := sm_tz_le (S a ||| S b)
  have q1 := sm_tz_le (S a)
  have q2 := sm_tz_le (S b)
  have q3 := sm_tz_le (V b ||| S b)
  have q4 := sm_tz_le (V a ||| S a)
  refine lv_aload_n hx hb dX1_op_0 rfl (lv_at hl 0 rfl) ?_
  refine lv_iload_n hx hb dX1_op_1 rfl (lv_at hl 1 rfl) ?_
  refine lv_if_lt (tgt := 11) hx hb dX1_op_2 rfl (fun z => absurd z (by decide)) (fun _ => ?_)
  refine lv_iload_n hx hb dX1_op_5 rfl (lv_at hl 1 rfl) ?_
  refine lv_bipush (v := 12) hx hb dX1_op_6 (by decide) ?_
  refine lv_icmp_le (tgt := 15) hx hb dX1_op_8 rfl (fun _ => ?_) (fun z => absurd (by decide) z)
  refine lv_iconst (v := 0) hx hb dX1_op_15 (by decide) ?_
  refine lv_iconst (v := 1) hx hb dX1_op_16 (by decide) ?_
  refine sm_callV (C := RX1) (As := [.int (sm_bI false), .int 1]) (rest := []) (wr := []) (wn := (sm_wM cZ m0 m1 m2 m3 m4 m5 m6 0 (sm_fb V) (sm_fb S) (sm_fo M) (sm_fl M) (sm_fw O) (sm_fw G))) (st1 := [.int (sm_bI false)]) ⟨hx, hb, hml, hown, hts⟩ (c_fails_f l D cZ m0 m1 m2 m3 m4 m5 m6 err V S M O G 1) (cwV 2 hts (sm_gV (i1 := 266) (i2 := 267) (i3 := 348) (i4 := 2) (i5 := 268) rfl rfl rfl rfl rfl) rfl rfl rfl (by decide +kernel) ⟨Nat.le_of_ble_eq_true rfl, Nat.le_of_ble_eq_true rfl⟩) hK [0] rfl hP hD hS hA 0 rfl rfl [0, 1, 2, 3, 4, 5, 6] [] rfl rfl (by decide) (by decide) (by decide) rfl hl.1 rfl (Nat.le_of_ble_eq_true rfl) dX1_op_17 ⟨Nat.le_of_ble_eq_true rfl, Nat.le_of_ble_eq_true rfl⟩ rfl rfl (fun H locs hP hD hS => ?_)
  refine lv_if_eq (tgt := 24) hx hb dX1_op_20 rfl (fun _ => ?_) (fun z => absurd (by decide) z)
  refine lv_aload_n hx hb dX1_op_24 rfl (lv_at hl 0 rfl) ?_
  refine lv_iload_n hx hb dX1_op_25 rfl (lv_at hl 2 rfl) ?_
  refine sm_callS (As := [.int (nI d)]) (rest := [.ref m0]) (wr := (sm_wM cZ m0 m1 m2 m3 m4 m5 m6 0 (sm_fb V) (sm_fb S) (sm_fo M) (sm_fl M) (sm_fw O) (sm_fw G))) (wn := (sm_wM cZ m0 m1 m2 m3 m4 m5 m6 0 (sm_fb V) (sm_fb S) (sm_fo M) (sm_fl M) (sm_fw O) (sm_fw G))) (st1 := [.int (sm_bI false), .ref m0]) ⟨hx, hb, hml, hown, hts⟩ (c_none_f l D d (by omega)) (va_cwS 1 hts (sm_gS (i1 := 263) (i2 := 264) (i4 := 2) (i5 := 265) rfl rfl rfl rfl) rfl rfl rfl (by decide +kernel) ⟨Nat.le_of_ble_eq_true rfl, Nat.le_of_ble_eq_true rfl⟩) hK [] rfl hP hD hS hA [] [0, 1, 2, 3, 4, 5, 6] rfl rfl (by decide) (by decide) (by decide) rfl hl.1 rfl (Nat.le_of_ble_eq_true rfl) dX1_op_26 ⟨Nat.le_of_ble_eq_true rfl, Nat.le_of_ble_eq_true rfl⟩ rfl rfl (fun H locs hP hD hS => ?_)
  refine lv_if_ne (tgt := 47) hx hb dX1_op_29 rfl (fun z => absurd (by decide) z) (fun _ => ?_)
  refine lv_iload_n hx hb dX1_op_32 rfl (lv_at hl 3 rfl) ?_
  refine sm_callS (As := [.int (nI a)]) (rest := [.ref m0]) (wr := (sm_wM cZ m0 m1 m2 m3 m4 m5 m6 0 (sm_fb V) (sm_fb S) (sm_fo M) (sm_fl M) (sm_fw O) (sm_fw G))) (wn := (sm_wM cZ m0 m1 m2 m3 m4 m5 m6 0 (sm_fb V) (sm_fb S) (sm_fo M) (sm_fl M) (sm_fw O) (sm_fw G))) (st1 := [.int (sm_bI false), .ref m0]) ⟨hx, hb, hml, hown, hts⟩ (c_none_f l D a (by omega)) (va_cwS 1 hts (sm_gS (i1 := 263) (i2 := 264) (i4 := 2) (i5 := 265) rfl rfl rfl rfl) rfl rfl rfl (by decide +kernel) ⟨Nat.le_of_ble_eq_true rfl, Nat.le_of_ble_eq_true rfl⟩) hK [] rfl hP hD hS hA [] [0, 1, 2, 3, 4, 5, 6] rfl rfl (by decide) (by decide) (by decide) rfl hl.1 rfl (Nat.le_of_ble_eq_true rfl) dX1_op_33 ⟨Nat.le_of_ble_eq_true rfl, Nat.le_of_ble_eq_true rfl⟩ rfl rfl (fun H locs hP hD hS => ?_)
  refine lv_if_ne (tgt := 47) hx hb dX1_op_36 rfl (fun z => absurd (by decide) z) (fun _ => ?_)
  refine lv_iload hx hb dX1_op_39 (lv_at hl 4 rfl) ?_
  refine sm_callS (As := [.int (nI b)]) (rest := [.ref m0]) (wr := (sm_wM cZ m0 m1 m2 m3 m4 m5 m6 0 (sm_fb V) (sm_fb S) (sm_fo M) (sm_fl M) (sm_fw O) (sm_fw G))) (wn := (sm_wM cZ m0 m1 m2 m3 m4 m5 m6 0 (sm_fb V) (sm_fb S) (sm_fo M) (sm_fl M) (sm_fw O) (sm_fw G))) (st1 := [.int (sm_bI false), .ref m0]) ⟨hx, hb, hml, hown, hts⟩ (c_none_f l D b (by omega)) (va_cwS 1 hts (sm_gS (i1 := 263) (i2 := 264) (i4 := 2) (i5 := 265) rfl rfl rfl rfl) rfl rfl rfl (by decide +kernel) ⟨Nat.le_of_ble_eq_true rfl, Nat.le_of_ble_eq_true rfl⟩) hK [] rfl hP hD hS hA [] [0, 1, 2, 3, 4, 5, 6] rfl rfl (by decide) (by decide) (by decide) rfl hl.1 rfl (Nat.le_of_ble_eq_true rfl) dX1_op_41 ⟨Nat.le_of_ble_eq_true rfl, Nat.le_of_ble_eq_true rfl⟩ rfl rfl (fun H locs hP hD hS => ?_)
  refine lv_if_eq (tgt := 51) hx hb dX1_op_44 rfl (fun _ => ?_) (fun z => absurd (by decide) z)
  refine lv_iconst (v := 0) hx hb dX1_op_51 (by decide) ?_
  refine lv_iconst (v := 2) hx hb dX1_op_52 (by decide) ?_
  refine sm_callV (C := RX1) (As := [.int (sm_bI false), .int 2]) (rest := []) (wr := []) (wn := (sm_wM cZ m0 m1 m2 m3 m4 m5 m6 0 (sm_fb V) (sm_fb S) (sm_fo M) (sm_fl M) (sm_fw O) (sm_fw G))) (st1 := [.int (sm_bI false)]) ⟨hx, hb, hml, hown, hts⟩ (c_fails_f l D cZ m0 m1 m2 m3 m4 m5 m6 0 V S M O G 2) (cwV 2 hts (sm_gV (i1 := 266) (i2 := 267) (i3 := 348) (i4 := 2) (i5 := 268) rfl rfl rfl rfl rfl) rfl rfl rfl (by decide +kernel) ⟨Nat.le_of_ble_eq_true rfl, Nat.le_of_ble_eq_true rfl⟩) hK [0] rfl hP hD hS hA 0 rfl rfl [0, 1, 2, 3, 4, 5, 6] [] rfl rfl (by decide) (by decide) (by decide) rfl hl.1 rfl (Nat.le_of_ble_eq_true rfl) dX1_op_53 ⟨Nat.le_of_ble_eq_true rfl, Nat.le_of_ble_eq_true rfl⟩ rfl rfl (fun H locs hP hD hS => ?_)
  refine lv_if_eq (tgt := 60) hx hb dX1_op_56 rfl (fun _ => ?_) (fun z => absurd (by decide) z)
  refine lv_aload_n hx hb dX1_op_60 rfl (lv_at hl 0 rfl) ?_
  refine lv_iload_n hx hb dX1_op_61 rfl (lv_at hl 3 rfl) ?_
  refine sm_callV (C := RX1) (As := [.int (nI a)]) (rest := []) (wr := []) (wn := (sm_wM cZ m0 m1 m2 m3 m4 m5 m6 0 (sm_fb V) (sm_fb S) (sm_fo M) (sm_fl M) (sm_fw O) (sm_fw G))) (st1 := [.int (V a)]) ⟨hx, hb, hml, hown, hts⟩ (c_number l D cZ m0 m1 m2 m3 m4 m5 m6 0 V S M O G a (by omega)) (cwV 1 hts (sm_gV (i1 := 279) (i2 := 280) (i3 := 351) (i4 := 2) (i5 := 281) rfl rfl rfl rfl rfl) rfl rfl rfl (by decide +kernel) ⟨Nat.le_of_ble_eq_true rfl, Nat.le_of_ble_eq_true rfl⟩) hK [0] rfl hP hD hS hA 0 rfl rfl [0, 1, 2, 3, 4, 5, 6] [] rfl rfl (by decide) (by decide) (by decide) rfl hl.1 rfl (Nat.le_of_ble_eq_true rfl) dX1_op_62 ⟨Nat.le_of_ble_eq_true rfl, Nat.le_of_ble_eq_true rfl⟩ rfl rfl (fun H locs hP hD hS => ?_)
  refine lv_istore (lv' := [(5, .int (V a)), (0, .ref m0), (1, .int 2), (2, .int (nI d)), (3, .int (nI a)), (4, .int (nI b))]) hx hb dX1_op_65 hl (by decide) rfl (fun ls hl => ?_)
  refine lv_aload_n hx hb dX1_op_67 rfl (lv_at hl 1 rfl) ?_
  refine lv_iload hx hb dX1_op_68 (lv_at hl 5 rfl) ?_
  refine sm_callV (C := RX1) (As := [.int (nI b)]) (rest := []) (wr := []) (wn := (sm_wM cZ m0 m1 m2 m3 m4 m5 m6 0 (sm_fb V) (sm_fb S) (sm_fo M) (sm_fl M) (sm_fw O) (sm_fw G))) (st1 := [.int (V b)]) ⟨hx, hb, hml, hown, hts⟩ (c_number l D cZ m0 m1 m2 m3 m4 m5 m6 0 V S M O G b (by omega)) (cwV 1 hts (sm_gV (i1 := 279) (i2 := 280) (i3 := 351) (i4 := 2) (i5 := 281) rfl rfl rfl rfl rfl) rfl rfl rfl (by decide +kernel) ⟨Nat.le_of_ble_eq_true rfl, Nat.le_of_ble_eq_true rfl⟩) hK [0] rfl hP hD hS hA 0 rfl rfl [0, 1, 2, 3, 4, 5, 6] [] rfl rfl (by decide) (by decide) (by decide) rfl hl.1 rfl (Nat.le_of_ble_eq_true rfl) dX1_op_70 ⟨Nat.le_of_ble_eq_true rfl, Nat.le_of_ble_eq_true rfl⟩ rfl rfl (fun H locs hP hD hS => ?_)
  refine lv_istore (lv' := [(6, .int (V b)), (5, .int (V a)), (0, .ref m0), (1, .int 2), (2, .int (nI d)), (3, .int (nI a)), (4, .int (nI b))]) hx hb dX1_op_73 hl (by decide) rfl (fun ls hl => ?_)
  refine lv_aload_n hx hb dX1_op_75 rfl (lv_at hl 2 rfl) ?_
  refine lv_iload_n hx hb dX1_op_76 rfl (lv_at hl 5 rfl) ?_
  refine sm_callV (C := RX1) (As := [.int (nI a)]) (rest := []) (wr := []) (wn := (sm_wM cZ m0 m1 m2 m3 m4 m5 m6 0 (sm_fb V) (sm_fb S) (sm_fo M) (sm_fl M) (sm_fw O) (sm_fw G))) (st1 := [.int (nI (sm_tz (S a)))]) ⟨hx, hb, hml, hown, hts⟩ (c_lowest l D cZ m0 m1 m2 m3 m4 m5 m6 0 V S M O G a (by omega)) (cwV 1 hts (sm_gV (i1 := 282) (i2 := 283) (i3 := 352) (i4 := 2) (i5 := 284) rfl rfl rfl rfl rfl) rfl rfl rfl (by decide +kernel) ⟨Nat.le_of_ble_eq_true rfl, Nat.le_of_ble_eq_true rfl⟩) hK [0] rfl hP hD hS hA 0 rfl rfl [0, 1, 2, 3, 4, 5, 6] [] rfl rfl (by decide) (by decide) (by decide) rfl hl.1 rfl (Nat.le_of_ble_eq_true rfl) dX1_op_77 ⟨Nat.le_of_ble_eq_true rfl, Nat.le_of_ble_eq_true rfl⟩ rfl rfl (fun H locs hP hD hS => ?_)
  refine lv_aload_n hx hb dX1_op_80 rfl (lv_at hl 2 rfl) ?_
  refine lv_iload hx hb dX1_op_81 (lv_at hl 6 rfl) ?_
  refine sm_callV (C := RX1) (As := [.int (nI b)]) (rest := [.int (nI (sm_tz (S a)))]) (wr := []) (wn := (sm_wM cZ m0 m1 m2 m3 m4 m5 m6 0 (sm_fb V) (sm_fb S) (sm_fo M) (sm_fl M) (sm_fw O) (sm_fw G))) (st1 := [.int (nI (sm_tz (S b))), .int (nI (sm_tz (S a)))]) ⟨hx, hb, hml, hown, hts⟩ (c_lowest l D cZ m0 m1 m2 m3 m4 m5 m6 0 V S M O G b (by omega)) (cwV 1 hts (sm_gV (i1 := 282) (i2 := 283) (i3 := 352) (i4 := 2) (i5 := 284) rfl rfl rfl rfl rfl) rfl rfl rfl (by decide +kernel) ⟨Nat.le_of_ble_eq_true rfl, Nat.le_of_ble_eq_true rfl⟩) hK [0] rfl hP hD hS hA 0 rfl rfl [0, 1, 2, 3, 4, 5, 6] [] rfl rfl (by decide) (by decide) (by decide) rfl hl.1 rfl (Nat.le_of_ble_eq_true rfl) dX1_op_83 ⟨Nat.le_of_ble_eq_true rfl, Nat.le_of_ble_eq_true rfl⟩ rfl rfl (fun H locs hP hD hS => ?_)
  refine sm_joinH (pcJ := 103) (t := nI (sm_tz (S a ||| S b))) (lv := [(0, .ref m0), (1, .int 2), (2, .int (nI d)), (3, .int (nI a)), (4, .int (nI b)), (5, .int (V a)), (6, .int (V b))]) (w := (sm_wM cZ m0 m1 m2 m3 m4 m5 m6 0 (sm_fb V) (sm_fb S) (sm_fo M) (sm_fl M) (sm_fw O) (sm_fw G))) (rest := []) hl hP hD hS (fun j103 => ?_) (fun H locs ls hl hP hD hS => ?_)
  · refine lv_icmp_ge (tgt := 97) hx hb dX1_op_86 rfl (fun h86 => ?_) (fun h86 => ?_)
    · refine lv_aload_n hx hb dX1_op_97 rfl (lv_at hl 2 rfl) ?_
      refine lv_iload hx hb dX1_op_98 (lv_at hl 6 rfl) ?_
      refine sm_callV (C := RX1) (As := [.int (nI b)]) (rest := []) (wr := []) (wn := (sm_wM cZ m0 m1 m2 m3 m4 m5 m6 0 (sm_fb V) (sm_fb S) (sm_fo M) (sm_fl M) (sm_fw O) (sm_fw G))) (st1 := [.int (nI (sm_tz (S b)))]) ⟨hx, hb, hml, hown, hts⟩ (c_lowest l D cZ m0 m1 m2 m3 m4 m5 m6 0 V S M O G b (by omega)) (cwV 1 hts (sm_gV (i1 := 282) (i2 := 283) (i3 := 352) (i4 := 2) (i5 := 284) rfl rfl rfl rfl rfl) rfl rfl rfl (by decide +kernel) ⟨Nat.le_of_ble_eq_true rfl, Nat.le_of_ble_eq_true rfl⟩) hK [0] rfl hP hD hS hA 0 rfl rfl [0, 1, 2, 3, 4, 5, 6] [] rfl rfl (by decide) (by decide) (by decide) rfl hl.1 rfl (Nat.le_of_ble_eq_true rfl) dX1_op_100 ⟨Nat.le_of_ble_eq_true rfl, Nat.le_of_ble_eq_true rfl⟩ rfl rfl (fun H locs hP hD hS => ?_)
      refine sm_eqi (y := nI (sm_tz (S a ||| S b))) (sm_low2 h86) ?_
      exact j103 _ _ _ (lv_sub hl [2, 3, 4, 5, 6, 1, 0] rfl) hP hD hS
    · refine lv_aload_n hx hb dX1_op_89 rfl (lv_at hl 2 rfl) ?_
      refine lv_iload_n hx hb dX1_op_90 rfl (lv_at hl 5 rfl) ?_
      refine sm_callV (C := RX1) (As := [.int (nI a)]) (rest := []) (wr := []) (wn := (sm_wM cZ m0 m1 m2 m3 m4 m5 m6 0 (sm_fb V) (sm_fb S) (sm_fo M) (sm_fl M) (sm_fw O) (sm_fw G))) (st1 := [.int (nI (sm_tz (S a)))]) ⟨hx, hb, hml, hown, hts⟩ (c_lowest l D cZ m0 m1 m2 m3 m4 m5 m6 0 V S M O G a (by omega)) (cwV 1 hts (sm_gV (i1 := 282) (i2 := 283) (i3 := 352) (i4 := 2) (i5 := 284) rfl rfl rfl rfl rfl) rfl rfl rfl (by decide +kernel) ⟨Nat.le_of_ble_eq_true rfl, Nat.le_of_ble_eq_true rfl⟩) hK [0] rfl hP hD hS hA 0 rfl rfl [0, 1, 2, 3, 4, 5, 6] [] rfl rfl (by decide) (by decide) (by decide) rfl hl.1 rfl (Nat.le_of_ble_eq_true rfl) dX1_op_91 ⟨Nat.le_of_ble_eq_true rfl, Nat.le_of_ble_eq_true rfl⟩ rfl rfl (fun H locs hP hD hS => ?_)
      refine lv_goto (tgt := 103) hx hb dX1_op_94 rfl ?_
      refine sm_eqi (y := nI (sm_tz (S a ||| S b))) (sm_low1 h86) ?_
      exact j103 _ _ _ (lv_sub hl [2, 3, 4, 5, 6, 1, 0] rfl) hP hD hS
  refine lv_istore (lv' := [(7, .int (nI (sm_tz (S a ||| S b)))), (0, .ref m0), (1, .int 2), (2, .int (nI d)), (3, .int (nI a)), (4, .int (nI b)), (5, .int (V a)), (6, .int (V b))]) hx hb dX1_op_103 hl (by decide) rfl (fun ls hl => ?_)
  refine lv_iload_n hx hb dX1_op_105 rfl (lv_at hl 2 rfl) ?_
  refine lv_tableIn (off := 98) (tgt := 204) hx hb dX1_op_106 (by decide) (by decide) (by decide) (by decide) ?_
  refine lv_aload_n hx hb dX1_op_204 rfl (lv_at hl 1 rfl) ?_
  refine lv_iload_n hx hb dX1_op_205 rfl (lv_at hl 2 rfl) ?_
  refine lv_iconst (v := 2) hx hb dX1_op_206 (by decide) ?_
  refine lv_icmp_ne (tgt := 218) hx hb dX1_op_207 rfl (fun z => absurd (by decide) z) (fun _ => ?_)
  refine lv_iload hx hb dX1_op_210 (lv_at hl 6 rfl) ?_
  refine lv_iload hx hb dX1_op_212 (lv_at hl 7 rfl) ?_
  refine lv_iand hx hb dX1_op_214 ?_
  refine lv_goto (tgt := 236) hx hb dX1_op_215 rfl ?_
  refine sm_callV (C := RX1) (As := [.int ((V a) &&& (V b))]) (rest := []) (wr := []) (wn := (sm_wM cZ m0 m1 m2 m3 m4 m5 m6 0 (sm_fb V) (sm_fb S) (sm_fo M) (sm_fl M) (sm_fw ((V a) &&& (V b))) (sm_fw 0))) (st1 := []) ⟨hx, hb, hml, hown, hts⟩ (c_make l D cZ m0 m1 m2 m3 m4 m5 m6 0 V S M O G ((V a) &&& (V b))) (cwV 1 hts (sm_gV (i1 := 269) (i2 := 270) (i3 := 349) (i4 := 2) (i5 := 271) rfl rfl rfl rfl rfl) rfl rfl rfl (by decide +kernel) ⟨Nat.le_of_ble_eq_true rfl, Nat.le_of_ble_eq_true rfl⟩) hK [0] rfl hP hD hS hA 0 rfl rfl [0, 1, 2, 3, 4, 5, 6] [] rfl rfl (by decide) (by decide) (by decide) rfl hl.1 rfl (Nat.le_of_ble_eq_true rfl) dX1_op_236 ⟨Nat.le_of_ble_eq_true rfl, Nat.le_of_ble_eq_true rfl⟩ rfl rfl (fun H locs hP hD hS => ?_)
  refine lv_iconst (v := 0) hx hb dX1_op_239 (by decide) ?_
  refine lv_istore (lv' := [(8, .int 0), (7, .int (nI (sm_tz (S a ||| S b)))), (0, .ref m0), (1, .int 2), (2, .int (nI d)), (3, .int (nI a)), (4, .int (nI b)), (5, .int (V a)), (6, .int (V b))]) hx hb dX1_op_240 hl (by decide) rfl (fun ls hl => ?_)
  refine sm_loopW (nL := 11) (lv := fun k => [(0, .ref m0), (1, .int 2), (2, .int (nI d)), (3, .int (nI a)), (4, .int (nI b)), (8, .int (nI k))]) (w := fun k => (sm_wM cZ m0 m1 m2 m3 m4 m5 m6 0 (sm_fb V) (sm_fb S) (sm_fo M) (sm_fl M) (sm_fw (V a &&& V b)) (sm_fill (sm_fw 0) (fun i => bt ((S a ||| S b) &&& (S a ||| V a) &&& (S b ||| V b)) i) 0 k))) 32 (fun H locs ls hl hP hD hS => ?_) (fun k hk ih H locs ls hl hP hD hS => ?_) (lv_sub hl [2, 3, 4, 5, 6, 0] rfl) (sm_cP (by simp only [sm_fill0]) hP) (sm_cD (by simp only [sm_fill0]) hD) hS
  · have hl : lv_has ls 11 [(0, .ref m0), (1, .int 2), (2, .int (nI d)), (3, .int (nI a)), (4, .int (nI b)), (8, .int (nI 32))] := hl
    have hP : va_P D vwCl (sm_wM cZ m0 m1 m2 m3 m4 m5 m6 0 (sm_fb V) (sm_fb S) (sm_fo M) (sm_fl M) (sm_fw (V a &&& V b)) (sm_fill (sm_fw 0) (fun i => bt ((S a ||| S b) &&& (S a ||| V a) &&& (S b ||| V b)) i) 0 32)) H := hP
    have hD : va_D _ (sm_wM cZ m0 m1 m2 m3 m4 m5 m6 0 (sm_fb V) (sm_fb S) (sm_fo M) (sm_fl M) (sm_fw (V a &&& V b)) (sm_fill (sm_fw 0) (fun i => bt ((S a ||| S b) &&& (S a ||| V a) &&& (S b ||| V b)) i) 0 32)) := hD
    refine lv_iload hx hb dX1_op_242 (lv_at hl 5 rfl) ?_
    refine lv_bipush (v := 32) hx hb dX1_op_244 (by decide) ?_
    refine lv_icmp_ge (tgt := 384) hx hb dX1_op_246 rfl (fun _ => ?_) (fun z => absurd (by decide) z)
    have hP : va_P D vwCl (sm_wM cZ m0 m1 m2 m3 m4 m5 m6 0 (sm_fb V) (sm_fb S) (sm_fo M) (sm_fl M) (sm_fw (V a &&& V b)) (sm_fw ((S a ||| S b) &&& (S a ||| V a) &&& (S b ||| V b)))) H := sm_cP (by rw [sm_fill_w, sm_mkx (x := (S a ||| S b) &&& (S a ||| V a) &&& (S b ||| V b)) (fun _ _ => rfl)]) hP
    have hD : va_D _ (sm_wM cZ m0 m1 m2 m3 m4 m5 m6 0 (sm_fb V) (sm_fb S) (sm_fo M) (sm_fl M) (sm_fw (V a &&& V b)) (sm_fw ((S a ||| S b) &&& (S a ||| V a) &&& (S b ||| V b)))) := sm_cD (by rw [sm_fill_w, sm_mkx (x := (S a ||| S b) &&& (S a ||| V a) &&& (S b ||| V b)) (fun _ _ => rfl)]) hD
    refine lv_goto (tgt := 778) hx hb dX1_op_384 rfl ?_
    refine lv_aload_n hx hb dX1_op_778 rfl (lv_at hl 0 rfl) ?_
    refine lv_iload_n hx hb dX1_op_779 rfl (lv_at hl 2 rfl) ?_
    refine sm_callV (C := RX1) (As := [.int (nI d)]) (rest := []) (wr := []) (wn := (sm_wM cZ m0 m1 m2 m3 m4 m5 m6 0 (sm_fb (upd V d (V a &&& V b))) (sm_fb (upd S d ((S a ||| S b) &&& (S a ||| V a) &&& (S b ||| V b)))) (sm_fo M) (sm_fl M) (sm_fw (V a &&& V b)) (sm_fw ((S a ||| S b) &&& (S a ||| V a) &&& (S b ||| V b))))) (st1 := []) ⟨hx, hb, hml, hown, hts⟩ (c_give l D cZ m0 m1 m2 m3 m4 m5 m6 0 V S M (V a &&& V b) ((S a ||| S b) &&& (S a ||| V a) &&& (S b ||| V b)) d (by omega)) (cwV 1 hts (sm_gV (i1 := 272) (i2 := 273) (i3 := 350) (i4 := 2) (i5 := 274) rfl rfl rfl rfl rfl) rfl rfl rfl (by decide +kernel) ⟨Nat.le_of_ble_eq_true rfl, Nat.le_of_ble_eq_true rfl⟩) hK [0] rfl hP hD hS hA 0 rfl rfl [0, 1, 2, 3, 4, 5, 6] [] rfl rfl (by decide) (by decide) (by decide) rfl hl.1 rfl (Nat.le_of_ble_eq_true rfl) dX1_op_780 ⟨Nat.le_of_ble_eq_true rfl, Nat.le_of_ble_eq_true rfl⟩ rfl rfl (fun H locs hP hD hS => ?_)
    exact sm_vret hx hb hrt hlocks hS hP hD dX1_op_783
  · have hl : lv_has ls 11 [(0, .ref m0), (1, .int 2), (2, .int (nI d)), (3, .int (nI a)), (4, .int (nI b)), (8, .int (nI k))] := hl
    have hP : va_P D vwCl (sm_wM cZ m0 m1 m2 m3 m4 m5 m6 0 (sm_fb V) (sm_fb S) (sm_fo M) (sm_fl M) (sm_fw (V a &&& V b)) (sm_fill (sm_fw 0) (fun i => bt ((S a ||| S b) &&& (S a ||| V a) &&& (S b ||| V b)) i) 0 k)) H := hP
    have hD : va_D _ (sm_wM cZ m0 m1 m2 m3 m4 m5 m6 0 (sm_fb V) (sm_fb S) (sm_fo M) (sm_fl M) (sm_fw (V a &&& V b)) (sm_fill (sm_fw 0) (fun i => bt ((S a ||| S b) &&& (S a ||| V a) &&& (S b ||| V b)) i) 0 k)) := hD
    refine lv_iload hx hb dX1_op_242 (lv_at hl 5 rfl) ?_
    refine lv_bipush (v := 32) hx hb dX1_op_244 (by decide) ?_
    refine lv_icmp_ge (tgt := 384) hx hb dX1_op_246 rfl (fun z => absurd z (nI_ge (b := 32) hk (by decide))) (fun _ => ?_)
    refine sm_joinH (pcJ := 289) (t := sm_bI (!bt (S a) k && !bt (V a) k)) (lv := [(0, .ref m0), (1, .int 2), (2, .int (nI d)), (3, .int (nI a)), (4, .int (nI b)), (8, .int (nI k))]) (w := (sm_wM cZ m0 m1 m2 m3 m4 m5 m6 0 (sm_fb V) (sm_fb S) (sm_fo M) (sm_fl M) (sm_fw (V a &&& V b)) (sm_fill (sm_fw 0) (fun i => bt ((S a ||| S b) &&& (S a ||| V a) &&& (S b ||| V b)) i) 0 k))) (rest := []) hl hP hD hS (fun j289 => ?_) (fun H locs ls hl hP hD hS => ?_)
    · refine lv_iload_n hx hb dX1_op_249 rfl (lv_at hl 1 rfl) ?_
      refine lv_iconst (v := 4) hx hb dX1_op_250 (by decide) ?_
      refine lv_icmp_ge (tgt := 288) hx hb dX1_op_251 rfl (fun z => absurd z (by decide)) (fun _ => ?_)
      refine lv_aload_n hx hb dX1_op_254 rfl (lv_at hl 0 rfl) ?_
      refine lv_iload_n hx hb dX1_op_255 rfl (lv_at hl 3 rfl) ?_
      refine lv_iload hx hb dX1_op_256 (lv_at hl 5 rfl) ?_
      refine sm_callV (C := RX1) (As := [.int (nI a), .int (nI k)]) (rest := []) (wr := []) (wn := (sm_wM cZ m0 m1 m2 m3 m4 m5 m6 0 (sm_fb V) (sm_fb S) (sm_fo M) (sm_fl M) (sm_fw (V a &&& V b)) (sm_fill (sm_fw 0) (fun i => bt ((S a ||| S b) &&& (S a ||| V a) &&& (S b ||| V b)) i) 0 k))) (st1 := [.int (sm_bI (bt (S a) k))]) ⟨hx, hb, hml, hown, hts⟩ (c_un l D cZ m0 m1 m2 m3 m4 m5 m6 0 (sm_fb V) (sm_fo M) (sm_fl M) (sm_fw (V a &&& V b)) (sm_fill (sm_fw 0) (fun i => bt ((S a ||| S b) &&& (S a ||| V a) &&& (S b ||| V b)) i) 0 k) S a k (by omega) (by omega)) (cwV 2 hts (sm_gV (i1 := 285) (i2 := 286) (i3 := 353) (i4 := 2) (i5 := 287) rfl rfl rfl rfl rfl) rfl rfl rfl (by decide +kernel) ⟨Nat.le_of_ble_eq_true rfl, Nat.le_of_ble_eq_true rfl⟩) hK [0] rfl hP hD hS hA 0 rfl rfl [0, 1, 2, 3, 4, 5, 6] [] rfl rfl (by decide) (by decide) (by decide) rfl hl.1 rfl (Nat.le_of_ble_eq_true rfl) dX1_op_258 ⟨Nat.le_of_ble_eq_true rfl, Nat.le_of_ble_eq_true rfl⟩ rfl rfl (fun H locs hP hD hS => ?_)
      refine sm_ifb_ne (tgt := 288) hx hb dX1_op_261 rfl (fun h261 => ?_) (fun h261 => ?_)
      · refine lv_iconst (v := 0) hx hb dX1_op_288 (by decide) ?_
        refine sm_eqi (y := sm_bI (!bt (S a) k && !bt (V a) k)) (by simp [sm_bI, h261]) ?_
        exact j289 _ _ _ (lv_sub hl [0, 1, 2, 3, 4, 5] rfl) hP hD hS
      · refine lv_aload_n hx hb dX1_op_264 rfl (lv_at hl 0 rfl) ?_
        refine lv_iload_n hx hb dX1_op_265 rfl (lv_at hl 3 rfl) ?_
        refine lv_iload hx hb dX1_op_266 (lv_at hl 5 rfl) ?_
        refine sm_callV (C := RX1) (As := [.int (nI a), .int (nI k)]) (rest := []) (wr := []) (wn := (sm_wM cZ m0 m1 m2 m3 m4 m5 m6 0 (sm_fb V) (sm_fb S) (sm_fo M) (sm_fl M) (sm_fw (V a &&& V b)) (sm_fill (sm_fw 0) (fun i => bt ((S a ||| S b) &&& (S a ||| V a) &&& (S b ||| V b)) i) 0 k))) (st1 := [.int (sm_bI (bt (V a) k))]) ⟨hx, hb, hml, hown, hts⟩ (c_is l D cZ m0 m1 m2 m3 m4 m5 m6 0 (sm_fb S) (sm_fo M) (sm_fl M) (sm_fw (V a &&& V b)) (sm_fill (sm_fw 0) (fun i => bt ((S a ||| S b) &&& (S a ||| V a) &&& (S b ||| V b)) i) 0 k) V a k (by omega) (by omega)) (cwV 2 hts (sm_gV (i1 := 291) (i2 := 292) (i3 := 355) (i4 := 2) (i5 := 293) rfl rfl rfl rfl rfl) rfl rfl rfl (by decide +kernel) ⟨Nat.le_of_ble_eq_true rfl, Nat.le_of_ble_eq_true rfl⟩) hK [0] rfl hP hD hS hA 0 rfl rfl [0, 1, 2, 3, 4, 5, 6] [] rfl rfl (by decide) (by decide) (by decide) rfl hl.1 rfl (Nat.le_of_ble_eq_true rfl) dX1_op_268 ⟨Nat.le_of_ble_eq_true rfl, Nat.le_of_ble_eq_true rfl⟩ rfl rfl (fun H locs hP hD hS => ?_)
        refine lv_iload_n hx hb dX1_op_271 rfl (lv_at hl 1 rfl) ?_
        refine lv_iconst (v := 3) hx hb dX1_op_272 (by decide) ?_
        refine lv_icmp_ne (tgt := 280) hx hb dX1_op_273 rfl (fun _ => ?_) (fun z => absurd z (by decide))
        refine lv_iconst (v := 0) hx hb dX1_op_280 (by decide) ?_
        refine lv_icmp_ne (tgt := 288) hx hb dX1_op_281 rfl (fun h281 => ?_) (fun h281 => ?_)
        · refine lv_iconst (v := 0) hx hb dX1_op_288 (by decide) ?_
          refine sm_eqi (y := sm_bI (!bt (S a) k && !bt (V a) k)) (sm_by2f h261 h281) ?_
          exact j289 _ _ _ (lv_sub hl [0, 1, 2, 3, 4, 5] rfl) hP hD hS
        · refine lv_iconst (v := 1) hx hb dX1_op_284 (by decide) ?_
          refine lv_goto (tgt := 289) hx hb dX1_op_285 rfl ?_
          refine sm_eqi (y := sm_bI (!bt (S a) k && !bt (V a) k)) (sm_by2t h261 h281) ?_
          exact j289 _ _ _ (lv_sub hl [0, 1, 2, 3, 4, 5] rfl) hP hD hS
    refine lv_istore (lv' := [(9, .int (sm_bI (!bt (S a) k && !bt (V a) k))), (0, .ref m0), (1, .int 2), (2, .int (nI d)), (3, .int (nI a)), (4, .int (nI b)), (8, .int (nI k))]) hx hb dX1_op_289 hl (by decide) rfl (fun ls hl => ?_)
    refine sm_joinH (pcJ := 333) (t := sm_bI (!bt (S b) k && !bt (V b) k)) (lv := [(0, .ref m0), (1, .int 2), (2, .int (nI d)), (3, .int (nI a)), (4, .int (nI b)), (8, .int (nI k)), (9, .int (sm_bI (!bt (S a) k && !bt (V a) k)))]) (w := (sm_wM cZ m0 m1 m2 m3 m4 m5 m6 0 (sm_fb V) (sm_fb S) (sm_fo M) (sm_fl M) (sm_fw (V a &&& V b)) (sm_fill (sm_fw 0) (fun i => bt ((S a ||| S b) &&& (S a ||| V a) &&& (S b ||| V b)) i) 0 k))) (rest := []) hl hP hD hS (fun j333 => ?_) (fun H locs ls hl hP hD hS => ?_)
    · refine lv_iload_n hx hb dX1_op_291 rfl (lv_at hl 2 rfl) ?_
      refine lv_iconst (v := 4) hx hb dX1_op_292 (by decide) ?_
      refine lv_icmp_ge (tgt := 332) hx hb dX1_op_293 rfl (fun z => absurd z (by decide)) (fun _ => ?_)
      refine lv_aload_n hx hb dX1_op_296 rfl (lv_at hl 1 rfl) ?_
      refine lv_iload hx hb dX1_op_297 (lv_at hl 5 rfl) ?_
      refine lv_iload hx hb dX1_op_299 (lv_at hl 6 rfl) ?_
      refine sm_callV (C := RX1) (As := [.int (nI b), .int (nI k)]) (rest := []) (wr := []) (wn := (sm_wM cZ m0 m1 m2 m3 m4 m5 m6 0 (sm_fb V) (sm_fb S) (sm_fo M) (sm_fl M) (sm_fw (V a &&& V b)) (sm_fill (sm_fw 0) (fun i => bt ((S a ||| S b) &&& (S a ||| V a) &&& (S b ||| V b)) i) 0 k))) (st1 := [.int (sm_bI (bt (S b) k))]) ⟨hx, hb, hml, hown, hts⟩ (c_un l D cZ m0 m1 m2 m3 m4 m5 m6 0 (sm_fb V) (sm_fo M) (sm_fl M) (sm_fw (V a &&& V b)) (sm_fill (sm_fw 0) (fun i => bt ((S a ||| S b) &&& (S a ||| V a) &&& (S b ||| V b)) i) 0 k) S b k (by omega) (by omega)) (cwV 2 hts (sm_gV (i1 := 285) (i2 := 286) (i3 := 353) (i4 := 2) (i5 := 287) rfl rfl rfl rfl rfl) rfl rfl rfl (by decide +kernel) ⟨Nat.le_of_ble_eq_true rfl, Nat.le_of_ble_eq_true rfl⟩) hK [0] rfl hP hD hS hA 0 rfl rfl [0, 1, 2, 3, 4, 5, 6] [] rfl rfl (by decide) (by decide) (by decide) rfl hl.1 rfl (Nat.le_of_ble_eq_true rfl) dX1_op_301 ⟨Nat.le_of_ble_eq_true rfl, Nat.le_of_ble_eq_true rfl⟩ rfl rfl (fun H locs hP hD hS => ?_)
      refine sm_ifb_ne (tgt := 332) hx hb dX1_op_304 rfl (fun h304 => ?_) (fun h304 => ?_)
      · refine lv_iconst (v := 0) hx hb dX1_op_332 (by decide) ?_
        refine sm_eqi (y := sm_bI (!bt (S b) k && !bt (V b) k)) (by simp [sm_bI, h304]) ?_
        exact j333 _ _ _ (lv_sub hl [1, 2, 3, 4, 5, 6, 0] rfl) hP hD hS
      · refine lv_aload_n hx hb dX1_op_307 rfl (lv_at hl 1 rfl) ?_
        refine lv_iload hx hb dX1_op_308 (lv_at hl 5 rfl) ?_
        refine lv_iload hx hb dX1_op_310 (lv_at hl 6 rfl) ?_
        refine sm_callV (C := RX1) (As := [.int (nI b), .int (nI k)]) (rest := []) (wr := []) (wn := (sm_wM cZ m0 m1 m2 m3 m4 m5 m6 0 (sm_fb V) (sm_fb S) (sm_fo M) (sm_fl M) (sm_fw (V a &&& V b)) (sm_fill (sm_fw 0) (fun i => bt ((S a ||| S b) &&& (S a ||| V a) &&& (S b ||| V b)) i) 0 k))) (st1 := [.int (sm_bI (bt (V b) k))]) ⟨hx, hb, hml, hown, hts⟩ (c_is l D cZ m0 m1 m2 m3 m4 m5 m6 0 (sm_fb S) (sm_fo M) (sm_fl M) (sm_fw (V a &&& V b)) (sm_fill (sm_fw 0) (fun i => bt ((S a ||| S b) &&& (S a ||| V a) &&& (S b ||| V b)) i) 0 k) V b k (by omega) (by omega)) (cwV 2 hts (sm_gV (i1 := 291) (i2 := 292) (i3 := 355) (i4 := 2) (i5 := 293) rfl rfl rfl rfl rfl) rfl rfl rfl (by decide +kernel) ⟨Nat.le_of_ble_eq_true rfl, Nat.le_of_ble_eq_true rfl⟩) hK [0] rfl hP hD hS hA 0 rfl rfl [0, 1, 2, 3, 4, 5, 6] [] rfl rfl (by decide) (by decide) (by decide) rfl hl.1 rfl (Nat.le_of_ble_eq_true rfl) dX1_op_312 ⟨Nat.le_of_ble_eq_true rfl, Nat.le_of_ble_eq_true rfl⟩ rfl rfl (fun H locs hP hD hS => ?_)
        refine lv_iload_n hx hb dX1_op_315 rfl (lv_at hl 2 rfl) ?_
        refine lv_iconst (v := 3) hx hb dX1_op_316 (by decide) ?_
        refine lv_icmp_ne (tgt := 324) hx hb dX1_op_317 rfl (fun _ => ?_) (fun z => absurd z (by decide))
        refine lv_iconst (v := 0) hx hb dX1_op_324 (by decide) ?_
        refine lv_icmp_ne (tgt := 332) hx hb dX1_op_325 rfl (fun h325 => ?_) (fun h325 => ?_)
        · refine lv_iconst (v := 0) hx hb dX1_op_332 (by decide) ?_
          refine sm_eqi (y := sm_bI (!bt (S b) k && !bt (V b) k)) (sm_by2f h304 h325) ?_
          exact j333 _ _ _ (lv_sub hl [1, 2, 3, 4, 5, 6, 0] rfl) hP hD hS
        · refine lv_iconst (v := 1) hx hb dX1_op_328 (by decide) ?_
          refine lv_goto (tgt := 333) hx hb dX1_op_329 rfl ?_
          refine sm_eqi (y := sm_bI (!bt (S b) k && !bt (V b) k)) (sm_by2t h304 h325) ?_
          exact j333 _ _ _ (lv_sub hl [1, 2, 3, 4, 5, 6, 0] rfl) hP hD hS
    refine lv_istore (lv' := [(10, .int (sm_bI (!bt (S b) k && !bt (V b) k))), (0, .ref m0), (1, .int 2), (2, .int (nI d)), (3, .int (nI a)), (4, .int (nI b)), (8, .int (nI k)), (9, .int (sm_bI (!bt (S a) k && !bt (V a) k)))]) hx hb dX1_op_333 hl (by decide) rfl (fun ls hl => ?_)
    refine lv_aload_n hx hb dX1_op_335 rfl (lv_at hl 1 rfl) ?_
    refine va_get (D := D) (ci := 1) (v := .ref m6) (C := RX1) (T := TX1) (N := 7) hx hb hts inX1 hown hK hP 0 rfl rfl 6 (by decide) (hw 238 rfl) (fun _ h9 => h9) rfl dX1_op_336 ?_
    refine lv_iload hx hb dX1_op_339 (lv_at hl 6 rfl) ?_
    refine lv_aload_n hx hb dX1_op_341 rfl (lv_at hl 1 rfl) ?_
    refine lv_iload_n hx hb dX1_op_342 rfl (lv_at hl 4 rfl) ?_
    refine lv_iload hx hb dX1_op_343 (lv_at hl 6 rfl) ?_
    refine sm_callV (C := RX1) (As := [.int (nI a), .int (nI k)]) (rest := [.int (nI k), .ref m6]) (wr := []) (wn := (sm_wM cZ m0 m1 m2 m3 m4 m5 m6 0 (sm_fb V) (sm_fb S) (sm_fo M) (sm_fl M) (sm_fw (V a &&& V b)) (sm_fill (sm_fw 0) (fun i => bt ((S a ||| S b) &&& (S a ||| V a) &&& (S b ||| V b)) i) 0 k))) (st1 := [.int (sm_bI (bt (S a) k)), .int (nI k), .ref m6]) ⟨hx, hb, hml, hown, hts⟩ (c_un l D cZ m0 m1 m2 m3 m4 m5 m6 0 (sm_fb V) (sm_fo M) (sm_fl M) (sm_fw (V a &&& V b)) (sm_fill (sm_fw 0) (fun i => bt ((S a ||| S b) &&& (S a ||| V a) &&& (S b ||| V b)) i) 0 k) S a k (by omega) (by omega)) (cwV 2 hts (sm_gV (i1 := 285) (i2 := 286) (i3 := 353) (i4 := 2) (i5 := 287) rfl rfl rfl rfl rfl) rfl rfl rfl (by decide +kernel) ⟨Nat.le_of_ble_eq_true rfl, Nat.le_of_ble_eq_true rfl⟩) hK [0] rfl hP hD hS hA 0 rfl rfl [0, 1, 2, 3, 4, 5, 6] [] rfl rfl (by decide) (by decide) (by decide) rfl hl.1 rfl (Nat.le_of_ble_eq_true rfl) dX1_op_345 ⟨Nat.le_of_ble_eq_true rfl, Nat.le_of_ble_eq_true rfl⟩ rfl rfl (fun H locs hP hD hS => ?_)
    refine sm_ifb_ne (tgt := 362) hx hb dX1_op_348 rfl (fun h348 => ?_) (fun h348 => ?_)
    · refine lv_iload hx hb dX1_op_362 (lv_at hl 7 rfl) ?_
      refine sm_ifb_ne (tgt := 376) hx hb dX1_op_364 rfl (fun h364 => ?_) (fun h364 => ?_)
      · refine lv_iconst (v := 0) hx hb dX1_op_376 (by decide) ?_
        refine sm_eqi (y := sm_bI (bt ((S a ||| S b) &&& (S a ||| V a) &&& (S b ||| V b)) k)) (by rw [sm_gb2 _ _ _ _ hk]; revert h348 h364; cases bt (S a) k <;> cases bt (V a) k <;> cases bt (S b) k <;> cases bt (V b) k <;> decide) ?_
        refine sm_zast (f' := sm_fill (sm_fw 0) (fun i => bt ((S a ||| S b) &&& (S a ||| V a) &&& (S b ||| V b)) i) 0 (k + 1)) (ws' := (sm_wM cZ m0 m1 m2 m3 m4 m5 m6 0 (sm_fb V) (sm_fb S) (sm_fo M) (sm_fl M) (sm_fw (V a &&& V b)) (sm_fill (sm_fw 0) (fun i => bt ((S a ||| S b) &&& (S a ||| V a) &&& (S b ||| V b)) i) 0 (k + 1)))) hx hb hK hP hD hS 6 0 rfl rfl (vp_in_nI (n := k) (by omega) (by decide)) dX1_op_377 (by rw [nI_clamp (by omega)]; exact sm_fillS0 (sm_fw 0) (fun i => bt ((S a ||| S b) &&& (S a ||| V a) &&& (S b ||| V b)) i) k) rfl (fun H locs hP hD hS => ?_)
        refine lv_iinc (k := 6) (v := nI (k + 1)) (lv' := [(8, .int (nI (k + 1))), (10, .int (sm_bI (!bt (S b) k && !bt (V b) k))), (0, .ref m0), (1, .int 2), (2, .int (nI d)), (3, .int (nI a)), (4, .int (nI b)), (9, .int (sm_bI (!bt (S a) k && !bt (V a) k)))]) hx hb dX1_op_378 hl rfl (sm_inc k) (by decide) rfl (fun ls hl => ?_)
        refine lv_goto (tgt := 242) hx hb dX1_op_381 rfl ?_
        exact ih _ _ _ (lv_sub hl [2, 3, 4, 5, 6, 0] rfl) (sm_cP (rfl) hP) (sm_cD (rfl) hD) hS
      · refine lv_iload hx hb dX1_op_367 (lv_at hl 0 rfl) ?_
        refine sm_ifb_ne (tgt := 376) hx hb dX1_op_369 rfl (fun h369 => ?_) (fun h369 => ?_)
        · refine lv_iconst (v := 0) hx hb dX1_op_376 (by decide) ?_
          refine sm_eqi (y := sm_bI (bt ((S a ||| S b) &&& (S a ||| V a) &&& (S b ||| V b)) k)) (by rw [sm_gb2 _ _ _ _ hk]; revert h348 h364 h369; cases bt (S a) k <;> cases bt (V a) k <;> cases bt (S b) k <;> cases bt (V b) k <;> decide) ?_
          refine sm_zast (f' := sm_fill (sm_fw 0) (fun i => bt ((S a ||| S b) &&& (S a ||| V a) &&& (S b ||| V b)) i) 0 (k + 1)) (ws' := (sm_wM cZ m0 m1 m2 m3 m4 m5 m6 0 (sm_fb V) (sm_fb S) (sm_fo M) (sm_fl M) (sm_fw (V a &&& V b)) (sm_fill (sm_fw 0) (fun i => bt ((S a ||| S b) &&& (S a ||| V a) &&& (S b ||| V b)) i) 0 (k + 1)))) hx hb hK hP hD hS 6 0 rfl rfl (vp_in_nI (n := k) (by omega) (by decide)) dX1_op_377 (by rw [nI_clamp (by omega)]; exact sm_fillS0 (sm_fw 0) (fun i => bt ((S a ||| S b) &&& (S a ||| V a) &&& (S b ||| V b)) i) k) rfl (fun H locs hP hD hS => ?_)
          refine lv_iinc (k := 6) (v := nI (k + 1)) (lv' := [(8, .int (nI (k + 1))), (10, .int (sm_bI (!bt (S b) k && !bt (V b) k))), (0, .ref m0), (1, .int 2), (2, .int (nI d)), (3, .int (nI a)), (4, .int (nI b)), (9, .int (sm_bI (!bt (S a) k && !bt (V a) k)))]) hx hb dX1_op_378 hl rfl (sm_inc k) (by decide) rfl (fun ls hl => ?_)
          refine lv_goto (tgt := 242) hx hb dX1_op_381 rfl ?_
          exact ih _ _ _ (lv_sub hl [2, 3, 4, 5, 6, 0] rfl) (sm_cP (rfl) hP) (sm_cD (rfl) hD) hS
        · refine lv_iconst (v := 1) hx hb dX1_op_372 (by decide) ?_
          refine lv_goto (tgt := 377) hx hb dX1_op_373 rfl ?_
          refine sm_eqi (y := sm_bI (bt ((S a ||| S b) &&& (S a ||| V a) &&& (S b ||| V b)) k)) (by rw [sm_gb2 _ _ _ _ hk]; revert h348 h364 h369; cases bt (S a) k <;> cases bt (V a) k <;> cases bt (S b) k <;> cases bt (V b) k <;> decide) ?_
          refine sm_zast (f' := sm_fill (sm_fw 0) (fun i => bt ((S a ||| S b) &&& (S a ||| V a) &&& (S b ||| V b)) i) 0 (k + 1)) (ws' := (sm_wM cZ m0 m1 m2 m3 m4 m5 m6 0 (sm_fb V) (sm_fb S) (sm_fo M) (sm_fl M) (sm_fw (V a &&& V b)) (sm_fill (sm_fw 0) (fun i => bt ((S a ||| S b) &&& (S a ||| V a) &&& (S b ||| V b)) i) 0 (k + 1)))) hx hb hK hP hD hS 6 0 rfl rfl (vp_in_nI (n := k) (by omega) (by decide)) dX1_op_377 (by rw [nI_clamp (by omega)]; exact sm_fillS0 (sm_fw 0) (fun i => bt ((S a ||| S b) &&& (S a ||| V a) &&& (S b ||| V b)) i) k) rfl (fun H locs hP hD hS => ?_)
          refine lv_iinc (k := 6) (v := nI (k + 1)) (lv' := [(8, .int (nI (k + 1))), (10, .int (sm_bI (!bt (S b) k && !bt (V b) k))), (0, .ref m0), (1, .int 2), (2, .int (nI d)), (3, .int (nI a)), (4, .int (nI b)), (9, .int (sm_bI (!bt (S a) k && !bt (V a) k)))]) hx hb dX1_op_378 hl rfl (sm_inc k) (by decide) rfl (fun ls hl => ?_)
          refine lv_goto (tgt := 242) hx hb dX1_op_381 rfl ?_
          exact ih _ _ _ (lv_sub hl [2, 3, 4, 5, 6, 0] rfl) (sm_cP (rfl) hP) (sm_cD (rfl) hD) hS
    · refine lv_aload_n hx hb dX1_op_351 rfl (lv_at hl 1 rfl) ?_
      refine lv_iload hx hb dX1_op_352 (lv_at hl 5 rfl) ?_
      refine lv_iload hx hb dX1_op_354 (lv_at hl 6 rfl) ?_
      refine sm_callV (C := RX1) (As := [.int (nI b), .int (nI k)]) (rest := [.int (nI k), .ref m6]) (wr := []) (wn := (sm_wM cZ m0 m1 m2 m3 m4 m5 m6 0 (sm_fb V) (sm_fb S) (sm_fo M) (sm_fl M) (sm_fw (V a &&& V b)) (sm_fill (sm_fw 0) (fun i => bt ((S a ||| S b) &&& (S a ||| V a) &&& (S b ||| V b)) i) 0 k))) (st1 := [.int (sm_bI (bt (S b) k)), .int (nI k), .ref m6]) ⟨hx, hb, hml, hown, hts⟩ (c_un l D cZ m0 m1 m2 m3 m4 m5 m6 0 (sm_fb V) (sm_fo M) (sm_fl M) (sm_fw (V a &&& V b)) (sm_fill (sm_fw 0) (fun i => bt ((S a ||| S b) &&& (S a ||| V a) &&& (S b ||| V b)) i) 0 k) S b k (by omega) (by omega)) (cwV 2 hts (sm_gV (i1 := 285) (i2 := 286) (i3 := 353) (i4 := 2) (i5 := 287) rfl rfl rfl rfl rfl) rfl rfl rfl (by decide +kernel) ⟨Nat.le_of_ble_eq_true rfl, Nat.le_of_ble_eq_true rfl⟩) hK [0] rfl hP hD hS hA 0 rfl rfl [0, 1, 2, 3, 4, 5, 6] [] rfl rfl (by decide) (by decide) (by decide) rfl hl.1 rfl (Nat.le_of_ble_eq_true rfl) dX1_op_356 ⟨Nat.le_of_ble_eq_true rfl, Nat.le_of_ble_eq_true rfl⟩ rfl rfl (fun H locs hP hD hS => ?_)
      refine sm_ifb_eq (tgt := 376) hx hb dX1_op_359 rfl (fun h359 => ?_) (fun h359 => ?_)
      · refine lv_iconst (v := 0) hx hb dX1_op_376 (by decide) ?_
        refine sm_eqi (y := sm_bI (bt ((S a ||| S b) &&& (S a ||| V a) &&& (S b ||| V b)) k)) (by rw [sm_gb2 _ _ _ _ hk]; revert h348 h359; cases bt (S a) k <;> cases bt (V a) k <;> cases bt (S b) k <;> cases bt (V b) k <;> decide) ?_
        refine sm_zast (f' := sm_fill (sm_fw 0) (fun i => bt ((S a ||| S b) &&& (S a ||| V a) &&& (S b ||| V b)) i) 0 (k + 1)) (ws' := (sm_wM cZ m0 m1 m2 m3 m4 m5 m6 0 (sm_fb V) (sm_fb S) (sm_fo M) (sm_fl M) (sm_fw (V a &&& V b)) (sm_fill (sm_fw 0) (fun i => bt ((S a ||| S b) &&& (S a ||| V a) &&& (S b ||| V b)) i) 0 (k + 1)))) hx hb hK hP hD hS 6 0 rfl rfl (vp_in_nI (n := k) (by omega) (by decide)) dX1_op_377 (by rw [nI_clamp (by omega)]; exact sm_fillS0 (sm_fw 0) (fun i => bt ((S a ||| S b) &&& (S a ||| V a) &&& (S b ||| V b)) i) k) rfl (fun H locs hP hD hS => ?_)
        refine lv_iinc (k := 6) (v := nI (k + 1)) (lv' := [(8, .int (nI (k + 1))), (10, .int (sm_bI (!bt (S b) k && !bt (V b) k))), (0, .ref m0), (1, .int 2), (2, .int (nI d)), (3, .int (nI a)), (4, .int (nI b)), (9, .int (sm_bI (!bt (S a) k && !bt (V a) k)))]) hx hb dX1_op_378 hl rfl (sm_inc k) (by decide) rfl (fun ls hl => ?_)
        refine lv_goto (tgt := 242) hx hb dX1_op_381 rfl ?_
        exact ih _ _ _ (lv_sub hl [2, 3, 4, 5, 6, 0] rfl) (sm_cP (rfl) hP) (sm_cD (rfl) hD) hS
      · refine lv_iload hx hb dX1_op_362 (lv_at hl 7 rfl) ?_
        refine sm_ifb_ne (tgt := 376) hx hb dX1_op_364 rfl (fun h364 => ?_) (fun h364 => ?_)
        · refine lv_iconst (v := 0) hx hb dX1_op_376 (by decide) ?_
          refine sm_eqi (y := sm_bI (bt ((S a ||| S b) &&& (S a ||| V a) &&& (S b ||| V b)) k)) (by rw [sm_gb2 _ _ _ _ hk]; revert h348 h359 h364; cases bt (S a) k <;> cases bt (V a) k <;> cases bt (S b) k <;> cases bt (V b) k <;> decide) ?_
          refine sm_zast (f' := sm_fill (sm_fw 0) (fun i => bt ((S a ||| S b) &&& (S a ||| V a) &&& (S b ||| V b)) i) 0 (k + 1)) (ws' := (sm_wM cZ m0 m1 m2 m3 m4 m5 m6 0 (sm_fb V) (sm_fb S) (sm_fo M) (sm_fl M) (sm_fw (V a &&& V b)) (sm_fill (sm_fw 0) (fun i => bt ((S a ||| S b) &&& (S a ||| V a) &&& (S b ||| V b)) i) 0 (k + 1)))) hx hb hK hP hD hS 6 0 rfl rfl (vp_in_nI (n := k) (by omega) (by decide)) dX1_op_377 (by rw [nI_clamp (by omega)]; exact sm_fillS0 (sm_fw 0) (fun i => bt ((S a ||| S b) &&& (S a ||| V a) &&& (S b ||| V b)) i) k) rfl (fun H locs hP hD hS => ?_)
          refine lv_iinc (k := 6) (v := nI (k + 1)) (lv' := [(8, .int (nI (k + 1))), (10, .int (sm_bI (!bt (S b) k && !bt (V b) k))), (0, .ref m0), (1, .int 2), (2, .int (nI d)), (3, .int (nI a)), (4, .int (nI b)), (9, .int (sm_bI (!bt (S a) k && !bt (V a) k)))]) hx hb dX1_op_378 hl rfl (sm_inc k) (by decide) rfl (fun ls hl => ?_)
          refine lv_goto (tgt := 242) hx hb dX1_op_381 rfl ?_
          exact ih _ _ _ (lv_sub hl [2, 3, 4, 5, 6, 0] rfl) (sm_cP (rfl) hP) (sm_cD (rfl) hD) hS
        · refine lv_iload hx hb dX1_op_367 (lv_at hl 0 rfl) ?_
          refine sm_ifb_ne (tgt := 376) hx hb dX1_op_369 rfl (fun h369 => ?_) (fun h369 => ?_)
          · refine lv_iconst (v := 0) hx hb dX1_op_376 (by decide) ?_
            refine sm_eqi (y := sm_bI (bt ((S a ||| S b) &&& (S a ||| V a) &&& (S b ||| V b)) k)) (by rw [sm_gb2 _ _ _ _ hk]; revert h348 h359 h364 h369; cases bt (S a) k <;> cases bt (V a) k <;> cases bt (S b) k <;> cases bt (V b) k <;> decide) ?_
            refine sm_zast (f' := sm_fill (sm_fw 0) (fun i => bt ((S a ||| S b) &&& (S a ||| V a) &&& (S b ||| V b)) i) 0 (k + 1)) (ws' := (sm_wM cZ m0 m1 m2 m3 m4 m5 m6 0 (sm_fb V) (sm_fb S) (sm_fo M) (sm_fl M) (sm_fw (V a &&& V b)) (sm_fill (sm_fw 0) (fun i => bt ((S a ||| S b) &&& (S a ||| V a) &&& (S b ||| V b)) i) 0 (k + 1)))) hx hb hK hP hD hS 6 0 rfl rfl (vp_in_nI (n := k) (by omega) (by decide)) dX1_op_377 (by rw [nI_clamp (by omega)]; exact sm_fillS0 (sm_fw 0) (fun i => bt ((S a ||| S b) &&& (S a ||| V a) &&& (S b ||| V b)) i) k) rfl (fun H locs hP hD hS => ?_)
            refine lv_iinc (k := 6) (v := nI (k + 1)) (lv' := [(8, .int (nI (k + 1))), (10, .int (sm_bI (!bt (S b) k && !bt (V b) k))), (0, .ref m0), (1, .int 2), (2, .int (nI d)), (3, .int (nI a)), (4, .int (nI b)), (9, .int (sm_bI (!bt (S a) k && !bt (V a) k)))]) hx hb dX1_op_378 hl rfl (sm_inc k) (by decide) rfl (fun ls hl => ?_)
            refine lv_goto (tgt := 242) hx hb dX1_op_381 rfl ?_
            exact ih _ _ _ (lv_sub hl [2, 3, 4, 5, 6, 0] rfl) (sm_cP (rfl) hP) (sm_cD (rfl) hD) hS
          · refine lv_iconst (v := 1) hx hb dX1_op_372 (by decide) ?_
            refine lv_goto (tgt := 377) hx hb dX1_op_373 rfl ?_
            refine sm_eqi (y := sm_bI (bt ((S a ||| S b) &&& (S a ||| V a) &&& (S b ||| V b)) k)) (by rw [sm_gb2 _ _ _ _ hk]; revert h348 h359 h364 h369; cases bt (S a) k <;> cases bt (V a) k <;> cases bt (S b) k <;> cases bt (V b) k <;> decide) ?_
            refine sm_zast (f' := sm_fill (sm_fw 0) (fun i => bt ((S a ||| S b) &&& (S a ||| V a) &&& (S b ||| V b)) i) 0 (k + 1)) (ws' := (sm_wM cZ m0 m1 m2 m3 m4 m5 m6 0 (sm_fb V) (sm_fb S) (sm_fo M) (sm_fl M) (sm_fw (V a &&& V b)) (sm_fill (sm_fw 0) (fun i => bt ((S a ||| S b) &&& (S a ||| V a) &&& (S b ||| V b)) i) 0 (k + 1)))) hx hb hK hP hD hS 6 0 rfl rfl (vp_in_nI (n := k) (by omega) (by decide)) dX1_op_377 (by rw [nI_clamp (by omega)]; exact sm_fillS0 (sm_fw 0) (fun i => bt ((S a ||| S b) &&& (S a ||| V a) &&& (S b ||| V b)) i) k) rfl (fun H locs hP hD hS => ?_)
            refine lv_iinc (k := 6) (v := nI (k + 1)) (lv' := [(8, .int (nI (k + 1))), (10, .int (sm_bI (!bt (S b) k && !bt (V b) k))), (0, .ref m0), (1, .int 2), (2, .int (nI d)), (3, .int (nI a)), (4, .int (nI b)), (9, .int (sm_bI (!bt (S a) k && !bt (V a) k)))]) hx hb dX1_op_378 hl rfl (sm_inc k) (by decide) rfl (fun ls hl => ?_)
            refine lv_goto (tgt := 242) hx hb dX1_op_381 rfl ?_
            exact ih _ _ _ (lv_sub hl [2, 3, 4, 5, 6, 0] rfl) (sm_cP (rfl) hP) (sm_cD (rfl) hD) hS
set_option maxHeartbeats 4000000 in
set_option maxRecDepth 100000 in
theorem c_mop_3 (l : Launch) (D : va_G) (cZ : ClassId) (m0 m1 m2 m3 m4 m5 m6 : Nat) (err : Int32) (V S M : Nat → Int32) (O G : Int32) (d a b : Nat) (hd : d < 16) (ha : a < 16) (hb' : b < 16) : sm_C l yX1_op wsX1_op ({ frames := 5, cells := 0, slots := 0, locals := 140 } : Room) D vwCl [(cZ, .boolean)] [.ref m0, .int 3, .int (nI d), .int (nI a), .int (nI b)] (sm_wM cZ m0 m1 m2 m3 m4 m5 m6 err (sm_fb V) (sm_fb S) (sm_fo M) (sm_fl M) (sm_fw O) (sm_fw G)) none (sm_wM cZ m0 m1 m2 m3 m4 m5 m6 0 (sm_fb (upd V d (V a ||| V b))) (sm_fb (upd S d ((S a ||| S b) &&& (S a ||| (V a ^^^ (-1))) &&& (S b ||| (V b ^^^ (-1)))))) (sm_fo M) (sm_fl M) (sm_fw (V a ||| V b)) (sm_fw ((S a ||| S b) &&& (S a ||| (V a ^^^ (-1))) &&& (S b ||| (V b ^^^ (-1)))))) := by
  refine sm_start (cc := cX1_op) (maxL := 11) (ret := none) (lv := [(0, .ref m0), (1, .int 3), (2, .int (nI d)), (3, .int (nI a)), (4, .int (nI b))]) (by decide) rfl (Nat.le_of_ble_eq_true rfl) rfl ?_
  intro p e s m below meth c hx hb hrt hts hown hlocks hml hin hK hP hD hS hA ls hl
  have hw := sm_hw hts
  have q5 := sm_tz_le (S a ||| S b)
  have q1 := sm_tz_le (S a)
  have q2 := sm_tz_le (S b)
  have q3 := sm_tz_le (V b ||| S b)
  have q4 := sm_tz_le (V a ||| S a)
  refine lv_aload_n hx hb dX1_op_0 rfl (lv_at hl 0 rfl) ?_
  refine lv_iload_n hx hb dX1_op_1 rfl (lv_at hl 1 rfl) ?_
  refine lv_if_lt (tgt := 11) hx hb dX1_op_2 rfl (fun z => absurd z (by decide)) (fun _ => ?_)
  refine lv_iload_n hx hb dX1_op_5 rfl (lv_at hl 1 rfl) ?_
  refine lv_bipush (v := 12) hx hb dX1_op_6 (by decide) ?_
  refine lv_icmp_le (tgt := 15) hx hb dX1_op_8 rfl (fun _ => ?_) (fun z => absurd (by decide) z)
  refine lv_iconst (v := 0) hx hb dX1_op_15 (by decide) ?_
  refine lv_iconst (v := 1) hx hb dX1_op_16 (by decide) ?_
  refine sm_callV (C := RX1) (As := [.int (sm_bI false), .int 1]) (rest := []) (wr := []) (wn := (sm_wM cZ m0 m1 m2 m3 m4 m5 m6 0 (sm_fb V) (sm_fb S) (sm_fo M) (sm_fl M) (sm_fw O) (sm_fw G))) (st1 := [.int (sm_bI false)]) ⟨hx, hb, hml, hown, hts⟩ (c_fails_f l D cZ m0 m1 m2 m3 m4 m5 m6 err V S M O G 1) (cwV 2 hts (sm_gV (i1 := 266) (i2 := 267) (i3 := 348) (i4 := 2) (i5 := 268) rfl rfl rfl rfl rfl) rfl rfl rfl (by decide +kernel) ⟨Nat.le_of_ble_eq_true rfl, Nat.le_of_ble_eq_true rfl⟩) hK [0] rfl hP hD hS hA 0 rfl rfl [0, 1, 2, 3, 4, 5, 6] [] rfl rfl (by decide) (by decide) (by decide) rfl hl.1 rfl (Nat.le_of_ble_eq_true rfl) dX1_op_17 ⟨Nat.le_of_ble_eq_true rfl, Nat.le_of_ble_eq_true rfl⟩ rfl rfl (fun H locs hP hD hS => ?_)
  refine lv_if_eq (tgt := 24) hx hb dX1_op_20 rfl (fun _ => ?_) (fun z => absurd (by decide) z)
  refine lv_aload_n hx hb dX1_op_24 rfl (lv_at hl 0 rfl) ?_
  refine lv_iload_n hx hb dX1_op_25 rfl (lv_at hl 2 rfl) ?_
  refine sm_callS (As := [.int (nI d)]) (rest := [.ref m0]) (wr := (sm_wM cZ m0 m1 m2 m3 m4 m5 m6 0 (sm_fb V) (sm_fb S) (sm_fo M) (sm_fl M) (sm_fw O) (sm_fw G))) (wn := (sm_wM cZ m0 m1 m2 m3 m4 m5 m6 0 (sm_fb V) (sm_fb S) (sm_fo M) (sm_fl M) (sm_fw O) (sm_fw G))) (st1 := [.int (sm_bI false), .ref m0]) ⟨hx, hb, hml, hown, hts⟩ (c_none_f l D d (by omega)) (va_cwS 1 hts (sm_gS (i1 := 263) (i2 := 264) (i4 := 2) (i5 := 265) rfl rfl rfl rfl) rfl rfl rfl (by decide +kernel) ⟨Nat.le_of_ble_eq_true rfl, Nat.le_of_ble_eq_true rfl⟩) hK [] rfl hP hD hS hA [] [0, 1, 2, 3, 4, 5, 6] rfl rfl (by decide) (by decide) (by decide) rfl hl.1 rfl (Nat.le_of_ble_eq_true rfl) dX1_op_26 ⟨Nat.le_of_ble_eq_true rfl, Nat.le_of_ble_eq_true rfl⟩ rfl rfl (fun H locs hP hD hS => ?_)
  refine lv_if_ne (tgt := 47) hx hb dX1_op_29 rfl (fun z => absurd (by decide) z) (fun _ => ?_)
  refine lv_iload_n hx hb dX1_op_32 rfl (lv_at hl 3 rfl) ?_
  refine sm_callS (As := [.int (nI a)]) (rest := [.ref m0]) (wr := (sm_wM cZ m0 m1 m2 m3 m4 m5 m6 0 (sm_fb V) (sm_fb S) (sm_fo M) (sm_fl M) (sm_fw O) (sm_fw G))) (wn := (sm_wM cZ m0 m1 m2 m3 m4 m5 m6 0 (sm_fb V) (sm_fb S) (sm_fo M) (sm_fl M) (sm_fw O) (sm_fw G))) (st1 := [.int (sm_bI false), .ref m0]) ⟨hx, hb, hml, hown, hts⟩ (c_none_f l D a (by omega)) (va_cwS 1 hts (sm_gS (i1 := 263) (i2 := 264) (i4 := 2) (i5 := 265) rfl rfl rfl rfl) rfl rfl rfl (by decide +kernel) ⟨Nat.le_of_ble_eq_true rfl, Nat.le_of_ble_eq_true rfl⟩) hK [] rfl hP hD hS hA [] [0, 1, 2, 3, 4, 5, 6] rfl rfl (by decide) (by decide) (by decide) rfl hl.1 rfl (Nat.le_of_ble_eq_true rfl) dX1_op_33 ⟨Nat.le_of_ble_eq_true rfl, Nat.le_of_ble_eq_true rfl⟩ rfl rfl (fun H locs hP hD hS => ?_)
  refine lv_if_ne (tgt := 47) hx hb dX1_op_36 rfl (fun z => absurd (by decide) z) (fun _ => ?_)
  refine lv_iload hx hb dX1_op_39 (lv_at hl 4 rfl) ?_
  refine sm_callS (As := [.int (nI b)]) (rest := [.ref m0]) (wr := (sm_wM cZ m0 m1 m2 m3 m4 m5 m6 0 (sm_fb V) (sm_fb S) (sm_fo M) (sm_fl M) (sm_fw O) (sm_fw G))) (wn := (sm_wM cZ m0 m1 m2 m3 m4 m5 m6 0 (sm_fb V) (sm_fb S) (sm_fo M) (sm_fl M) (sm_fw O) (sm_fw G))) (st1 := [.int (sm_bI false), .ref m0]) ⟨hx, hb, hml, hown, hts⟩ (c_none_f l D b (by omega)) (va_cwS 1 hts (sm_gS (i1 := 263) (i2 := 264) (i4 := 2) (i5 := 265) rfl rfl rfl rfl) rfl rfl rfl (by decide +kernel) ⟨Nat.le_of_ble_eq_true rfl, Nat.le_of_ble_eq_true rfl⟩) hK [] rfl hP hD hS hA [] [0, 1, 2, 3, 4, 5, 6] rfl rfl (by decide) (by decide) (by decide) rfl hl.1 rfl (Nat.le_of_ble_eq_true rfl) dX1_op_41 ⟨Nat.le_of_ble_eq_true rfl, Nat.le_of_ble_eq_true rfl⟩ rfl rfl (fun H locs hP hD hS => ?_)
  refine lv_if_eq (tgt := 51) hx hb dX1_op_44 rfl (fun _ => ?_) (fun z => absurd (by decide) z)
  refine lv_iconst (v := 0) hx hb dX1_op_51 (by decide) ?_
  refine lv_iconst (v := 2) hx hb dX1_op_52 (by decide) ?_
  refine sm_callV (C := RX1) (As := [.int (sm_bI false), .int 2]) (rest := []) (wr := []) (wn := (sm_wM cZ m0 m1 m2 m3 m4 m5 m6 0 (sm_fb V) (sm_fb S) (sm_fo M) (sm_fl M) (sm_fw O) (sm_fw G))) (st1 := [.int (sm_bI false)]) ⟨hx, hb, hml, hown, hts⟩ (c_fails_f l D cZ m0 m1 m2 m3 m4 m5 m6 0 V S M O G 2) (cwV 2 hts (sm_gV (i1 := 266) (i2 := 267) (i3 := 348) (i4 := 2) (i5 := 268) rfl rfl rfl rfl rfl) rfl rfl rfl (by decide +kernel) ⟨Nat.le_of_ble_eq_true rfl, Nat.le_of_ble_eq_true rfl⟩) hK [0] rfl hP hD hS hA 0 rfl rfl [0, 1, 2, 3, 4, 5, 6] [] rfl rfl (by decide) (by decide) (by decide) rfl hl.1 rfl (Nat.le_of_ble_eq_true rfl) dX1_op_53 ⟨Nat.le_of_ble_eq_true rfl, Nat.le_of_ble_eq_true rfl⟩ rfl rfl (fun H locs hP hD hS => ?_)
  refine lv_if_eq (tgt := 60) hx hb dX1_op_56 rfl (fun _ => ?_) (fun z => absurd (by decide) z)
  refine lv_aload_n hx hb dX1_op_60 rfl (lv_at hl 0 rfl) ?_
  refine lv_iload_n hx hb dX1_op_61 rfl (lv_at hl 3 rfl) ?_
  refine sm_callV (C := RX1) (As := [.int (nI a)]) (rest := []) (wr := []) (wn := (sm_wM cZ m0 m1 m2 m3 m4 m5 m6 0 (sm_fb V) (sm_fb S) (sm_fo M) (sm_fl M) (sm_fw O) (sm_fw G))) (st1 := [.int (V a)]) ⟨hx, hb, hml, hown, hts⟩ (c_number l D cZ m0 m1 m2 m3 m4 m5 m6 0 V S M O G a (by omega)) (cwV 1 hts (sm_gV (i1 := 279) (i2 := 280) (i3 := 351) (i4 := 2) (i5 := 281) rfl rfl rfl rfl rfl) rfl rfl rfl (by decide +kernel) ⟨Nat.le_of_ble_eq_true rfl, Nat.le_of_ble_eq_true rfl⟩) hK [0] rfl hP hD hS hA 0 rfl rfl [0, 1, 2, 3, 4, 5, 6] [] rfl rfl (by decide) (by decide) (by decide) rfl hl.1 rfl (Nat.le_of_ble_eq_true rfl) dX1_op_62 ⟨Nat.le_of_ble_eq_true rfl, Nat.le_of_ble_eq_true rfl⟩ rfl rfl (fun H locs hP hD hS => ?_)
  refine lv_istore (lv' := [(5, .int (V a)), (0, .ref m0), (1, .int 3), (2, .int (nI d)), (3, .int (nI a)), (4, .int (nI b))]) hx hb dX1_op_65 hl (by decide) rfl (fun ls hl => ?_)
  refine lv_aload_n hx hb dX1_op_67 rfl (lv_at hl 1 rfl) ?_
  refine lv_iload hx hb dX1_op_68 (lv_at hl 5 rfl) ?_
  refine sm_callV (C := RX1) (As := [.int (nI b)]) (rest := []) (wr := []) (wn := (sm_wM cZ m0 m1 m2 m3 m4 m5 m6 0 (sm_fb V) (sm_fb S) (sm_fo M) (sm_fl M) (sm_fw O) (sm_fw G))) (st1 := [.int (V b)]) ⟨hx, hb, hml, hown, hts⟩ (c_number l D cZ m0 m1 m2 m3 m4 m5 m6 0 V S M O G b (by omega)) (cwV 1 hts (sm_gV (i1 := 279) (i2 := 280) (i3 := 351) (i4 := 2) (i5 := 281) rfl rfl rfl rfl rfl) rfl rfl rfl (by decide +kernel) ⟨Nat.le_of_ble_eq_true rfl, Nat.le_of_ble_eq_true rfl⟩) hK [0] rfl hP hD hS hA 0 rfl rfl [0, 1, 2, 3, 4, 5, 6] [] rfl rfl (by decide) (by decide) (by decide) rfl hl.1 rfl (Nat.le_of_ble_eq_true rfl) dX1_op_70 ⟨Nat.le_of_ble_eq_true rfl, Nat.le_of_ble_eq_true rfl⟩ rfl rfl (fun H locs hP hD hS => ?_)
  refine lv_istore (lv' := [(6, .int (V b)), (5, .int (V a)), (0, .ref m0), (1, .int 3), (2, .int (nI d)), (3, .int (nI a)), (4, .int (nI b))]) hx hb dX1_op_73 hl (by decide) rfl (fun ls hl => ?_)
  refine lv_aload_n hx hb dX1_op_75 rfl (lv_at hl 2 rfl) ?_
  refine lv_iload_n hx hb dX1_op_76 rfl (lv_at hl 5 rfl) ?_
  refine sm_callV (C := RX1) (As := [.int (nI a)]) (rest := []) (wr := []) (wn := (sm_wM cZ m0 m1 m2 m3 m4 m5 m6 0 (sm_fb V) (sm_fb S) (sm_fo M) (sm_fl M) (sm_fw O) (sm_fw G))) (st1 := [.int (nI (sm_tz (S a)))]) ⟨hx, hb, hml, hown, hts⟩ (c_lowest l D cZ m0 m1 m2 m3 m4 m5 m6 0 V S M O G a (by omega)) (cwV 1 hts (sm_gV (i1 := 282) (i2 := 283) (i3 := 352) (i4 := 2) (i5 := 284) rfl rfl rfl rfl rfl) rfl rfl rfl (by decide +kernel) ⟨Nat.le_of_ble_eq_true rfl, Nat.le_of_ble_eq_true rfl⟩) hK [0] rfl hP hD hS hA 0 rfl rfl [0, 1, 2, 3, 4, 5, 6] [] rfl rfl (by decide) (by decide) (by decide) rfl hl.1 rfl (Nat.le_of_ble_eq_true rfl) dX1_op_77 ⟨Nat.le_of_ble_eq_true rfl, Nat.le_of_ble_eq_true rfl⟩ rfl rfl (fun H locs hP hD hS => ?_)
  refine lv_aload_n hx hb dX1_op_80 rfl (lv_at hl 2 rfl) ?_
  refine lv_iload hx hb dX1_op_81 (lv_at hl 6 rfl) ?_
  refine sm_callV (C := RX1) (As := [.int (nI b)]) (rest := [.int (nI (sm_tz (S a)))]) (wr := []) (wn := (sm_wM cZ m0 m1 m2 m3 m4 m5 m6 0 (sm_fb V) (sm_fb S) (sm_fo M) (sm_fl M) (sm_fw O) (sm_fw G))) (st1 := [.int (nI (sm_tz (S b))), .int (nI (sm_tz (S a)))]) ⟨hx, hb, hml, hown, hts⟩ (c_lowest l D cZ m0 m1 m2 m3 m4 m5 m6 0 V S M O G b (by omega)) (cwV 1 hts (sm_gV (i1 := 282) (i2 := 283) (i3 := 352) (i4 := 2) (i5 := 284) rfl rfl rfl rfl rfl) rfl rfl rfl (by decide +kernel) ⟨Nat.le_of_ble_eq_true rfl, Nat.le_of_ble_eq_true rfl⟩) hK [0] rfl hP hD hS hA 0 rfl rfl [0, 1, 2, 3, 4, 5, 6] [] rfl rfl (by decide) (by decide) (by decide) rfl hl.1 rfl (Nat.le_of_ble_eq_true rfl) dX1_op_83 ⟨Nat.le_of_ble_eq_true rfl, Nat.le_of_ble_eq_true rfl⟩ rfl rfl (fun H locs hP hD hS => ?_)
  refine sm_joinH (pcJ := 103) (t := nI (sm_tz (S a ||| S b))) (lv := [(0, .ref m0), (1, .int 3), (2, .int (nI d)), (3, .int (nI a)), (4, .int (nI b)), (5, .int (V a)), (6, .int (V b))]) (w := (sm_wM cZ m0 m1 m2 m3 m4 m5 m6 0 (sm_fb V) (sm_fb S) (sm_fo M) (sm_fl M) (sm_fw O) (sm_fw G))) (rest := []) hl hP hD hS (fun j103 => ?_) (fun H locs ls hl hP hD hS => ?_)
  · refine lv_icmp_ge (tgt := 97) hx hb dX1_op_86 rfl (fun h86 => ?_) (fun h86 => ?_)
    · refine lv_aload_n hx hb dX1_op_97 rfl (lv_at hl 2 rfl) ?_
      refine lv_iload hx hb dX1_op_98 (lv_at hl 6 rfl) ?_
      refine sm_callV (C := RX1) (As := [.int (nI b)]) (rest := []) (wr := []) (wn := (sm_wM cZ m0 m1 m2 m3 m4 m5 m6 0 (sm_fb V) (sm_fb S) (sm_fo M) (sm_fl M) (sm_fw O) (sm_fw G))) (st1 := [.int (nI (sm_tz (S b)))]) ⟨hx, hb, hml, hown, hts⟩ (c_lowest l D cZ m0 m1 m2 m3 m4 m5 m6 0 V S M O G b (by omega)) (cwV 1 hts (sm_gV (i1 := 282) (i2 := 283) (i3 := 352) (i4 := 2) (i5 := 284) rfl rfl rfl rfl rfl) rfl rfl rfl (by decide +kernel) ⟨Nat.le_of_ble_eq_true rfl, Nat.le_of_ble_eq_true rfl⟩) hK [0] rfl hP hD hS hA 0 rfl rfl [0, 1, 2, 3, 4, 5, 6] [] rfl rfl (by decide) (by decide) (by decide) rfl hl.1 rfl (Nat.le_of_ble_eq_true rfl) dX1_op_100 ⟨Nat.le_of_ble_eq_true rfl, Nat.le_of_ble_eq_true rfl⟩ rfl rfl (fun H locs hP hD hS => ?_)
      refine sm_eqi (y := nI (sm_tz (S a ||| S b))) (sm_low2 h86) ?_
      exact j103 _ _ _ (lv_sub hl [2, 3, 4, 5, 6, 1, 0] rfl) hP hD hS
    · refine lv_aload_n hx hb dX1_op_89 rfl (lv_at hl 2 rfl) ?_
      refine lv_iload_n hx hb dX1_op_90 rfl (lv_at hl 5 rfl) ?_
      refine sm_callV (C := RX1) (As := [.int (nI a)]) (rest := []) (wr := []) (wn := (sm_wM cZ m0 m1 m2 m3 m4 m5 m6 0 (sm_fb V) (sm_fb S) (sm_fo M) (sm_fl M) (sm_fw O) (sm_fw G))) (st1 := [.int (nI (sm_tz (S a)))]) ⟨hx, hb, hml, hown, hts⟩ (c_lowest l D cZ m0 m1 m2 m3 m4 m5 m6 0 V S M O G a (by omega)) (cwV 1 hts (sm_gV (i1 := 282) (i2 := 283) (i3 := 352) (i4 := 2) (i5 := 284) rfl rfl rfl rfl rfl) rfl rfl rfl (by decide +kernel) ⟨Nat.le_of_ble_eq_true rfl, Nat.le_of_ble_eq_true rfl⟩) hK [0] rfl hP hD hS hA 0 rfl rfl [0, 1, 2, 3, 4, 5, 6] [] rfl rfl (by decide) (by decide) (by decide) rfl hl.1 rfl (Nat.le_of_ble_eq_true rfl) dX1_op_91 ⟨Nat.le_of_ble_eq_true rfl, Nat.le_of_ble_eq_true rfl⟩ rfl rfl (fun H locs hP hD hS => ?_)
      refine lv_goto (tgt := 103) hx hb dX1_op_94 rfl ?_
      refine sm_eqi (y := nI (sm_tz (S a ||| S b))) (sm_low1 h86) ?_
      exact j103 _ _ _ (lv_sub hl [2, 3, 4, 5, 6, 1, 0] rfl) hP hD hS
  refine lv_istore (lv' := [(7, .int (nI (sm_tz (S a ||| S b)))), (0, .ref m0), (1, .int 3), (2, .int (nI d)), (3, .int (nI a)), (4, .int (nI b)), (5, .int (V a)), (6, .int (V b))]) hx hb dX1_op_103 hl (by decide) rfl (fun ls hl => ?_)
  refine lv_iload_n hx hb dX1_op_105 rfl (lv_at hl 2 rfl) ?_
  refine lv_tableIn (off := 98) (tgt := 204) hx hb dX1_op_106 (by decide) (by decide) (by decide) (by decide) ?_
  refine lv_aload_n hx hb dX1_op_204 rfl (lv_at hl 1 rfl) ?_
  refine lv_iload_n hx hb dX1_op_205 rfl (lv_at hl 2 rfl) ?_
  refine lv_iconst (v := 2) hx hb dX1_op_206 (by decide) ?_
  refine lv_icmp_ne (tgt := 218) hx hb dX1_op_207 rfl (fun _ => ?_) (fun z => absurd z (by decide))
  refine lv_iload_n hx hb dX1_op_218 rfl (lv_at hl 2 rfl) ?_
  refine lv_iconst (v := 3) hx hb dX1_op_219 (by decide) ?_
  refine lv_icmp_ne (tgt := 231) hx hb dX1_op_220 rfl (fun z => absurd (by decide) z) (fun _ => ?_)
  refine lv_iload hx hb dX1_op_223 (lv_at hl 6 rfl) ?_
  refine lv_iload hx hb dX1_op_225 (lv_at hl 7 rfl) ?_
  refine lv_ior hx hb dX1_op_227 ?_
  refine lv_goto (tgt := 236) hx hb dX1_op_228 rfl ?_
  refine sm_callV (C := RX1) (As := [.int ((V a) ||| (V b))]) (rest := []) (wr := []) (wn := (sm_wM cZ m0 m1 m2 m3 m4 m5 m6 0 (sm_fb V) (sm_fb S) (sm_fo M) (sm_fl M) (sm_fw ((V a) ||| (V b))) (sm_fw 0))) (st1 := []) ⟨hx, hb, hml, hown, hts⟩ (c_make l D cZ m0 m1 m2 m3 m4 m5 m6 0 V S M O G ((V a) ||| (V b))) (cwV 1 hts (sm_gV (i1 := 269) (i2 := 270) (i3 := 349) (i4 := 2) (i5 := 271) rfl rfl rfl rfl rfl) rfl rfl rfl (by decide +kernel) ⟨Nat.le_of_ble_eq_true rfl, Nat.le_of_ble_eq_true rfl⟩) hK [0] rfl hP hD hS hA 0 rfl rfl [0, 1, 2, 3, 4, 5, 6] [] rfl rfl (by decide) (by decide) (by decide) rfl hl.1 rfl (Nat.le_of_ble_eq_true rfl) dX1_op_236 ⟨Nat.le_of_ble_eq_true rfl, Nat.le_of_ble_eq_true rfl⟩ rfl rfl (fun H locs hP hD hS => ?_)
  refine lv_iconst (v := 0) hx hb dX1_op_239 (by decide) ?_
  refine lv_istore (lv' := [(8, .int 0), (7, .int (nI (sm_tz (S a ||| S b)))), (0, .ref m0), (1, .int 3), (2, .int (nI d)), (3, .int (nI a)), (4, .int (nI b)), (5, .int (V a)), (6, .int (V b))]) hx hb dX1_op_240 hl (by decide) rfl (fun ls hl => ?_)
  refine sm_loopW (nL := 11) (lv := fun k => [(0, .ref m0), (1, .int 3), (2, .int (nI d)), (3, .int (nI a)), (4, .int (nI b)), (8, .int (nI k))]) (w := fun k => (sm_wM cZ m0 m1 m2 m3 m4 m5 m6 0 (sm_fb V) (sm_fb S) (sm_fo M) (sm_fl M) (sm_fw (V a ||| V b)) (sm_fill (sm_fw 0) (fun i => bt ((S a ||| S b) &&& (S a ||| (V a ^^^ (-1))) &&& (S b ||| (V b ^^^ (-1)))) i) 0 k))) 32 (fun H locs ls hl hP hD hS => ?_) (fun k hk ih H locs ls hl hP hD hS => ?_) (lv_sub hl [2, 3, 4, 5, 6, 0] rfl) (sm_cP (by simp only [sm_fill0]) hP) (sm_cD (by simp only [sm_fill0]) hD) hS
  · have hl : lv_has ls 11 [(0, .ref m0), (1, .int 3), (2, .int (nI d)), (3, .int (nI a)), (4, .int (nI b)), (8, .int (nI 32))] := hl
    have hP : va_P D vwCl (sm_wM cZ m0 m1 m2 m3 m4 m5 m6 0 (sm_fb V) (sm_fb S) (sm_fo M) (sm_fl M) (sm_fw (V a ||| V b)) (sm_fill (sm_fw 0) (fun i => bt ((S a ||| S b) &&& (S a ||| (V a ^^^ (-1))) &&& (S b ||| (V b ^^^ (-1)))) i) 0 32)) H := hP
    have hD : va_D _ (sm_wM cZ m0 m1 m2 m3 m4 m5 m6 0 (sm_fb V) (sm_fb S) (sm_fo M) (sm_fl M) (sm_fw (V a ||| V b)) (sm_fill (sm_fw 0) (fun i => bt ((S a ||| S b) &&& (S a ||| (V a ^^^ (-1))) &&& (S b ||| (V b ^^^ (-1)))) i) 0 32)) := hD
    refine lv_iload hx hb dX1_op_242 (lv_at hl 5 rfl) ?_
    refine lv_bipush (v := 32) hx hb dX1_op_244 (by decide) ?_
    refine lv_icmp_ge (tgt := 384) hx hb dX1_op_246 rfl (fun _ => ?_) (fun z => absurd (by decide) z)
    have hP : va_P D vwCl (sm_wM cZ m0 m1 m2 m3 m4 m5 m6 0 (sm_fb V) (sm_fb S) (sm_fo M) (sm_fl M) (sm_fw (V a ||| V b)) (sm_fw ((S a ||| S b) &&& (S a ||| (V a ^^^ (-1))) &&& (S b ||| (V b ^^^ (-1)))))) H := sm_cP (by rw [sm_fill_w, sm_mkx (x := (S a ||| S b) &&& (S a ||| (V a ^^^ (-1))) &&& (S b ||| (V b ^^^ (-1)))) (fun _ _ => rfl)]) hP
    have hD : va_D _ (sm_wM cZ m0 m1 m2 m3 m4 m5 m6 0 (sm_fb V) (sm_fb S) (sm_fo M) (sm_fl M) (sm_fw (V a ||| V b)) (sm_fw ((S a ||| S b) &&& (S a ||| (V a ^^^ (-1))) &&& (S b ||| (V b ^^^ (-1)))))) := sm_cD (by rw [sm_fill_w, sm_mkx (x := (S a ||| S b) &&& (S a ||| (V a ^^^ (-1))) &&& (S b ||| (V b ^^^ (-1)))) (fun _ _ => rfl)]) hD
    refine lv_goto (tgt := 778) hx hb dX1_op_384 rfl ?_
    refine lv_aload_n hx hb dX1_op_778 rfl (lv_at hl 0 rfl) ?_
    refine lv_iload_n hx hb dX1_op_779 rfl (lv_at hl 2 rfl) ?_
    refine sm_callV (C := RX1) (As := [.int (nI d)]) (rest := []) (wr := []) (wn := (sm_wM cZ m0 m1 m2 m3 m4 m5 m6 0 (sm_fb (upd V d (V a ||| V b))) (sm_fb (upd S d ((S a ||| S b) &&& (S a ||| (V a ^^^ (-1))) &&& (S b ||| (V b ^^^ (-1)))))) (sm_fo M) (sm_fl M) (sm_fw (V a ||| V b)) (sm_fw ((S a ||| S b) &&& (S a ||| (V a ^^^ (-1))) &&& (S b ||| (V b ^^^ (-1))))))) (st1 := []) ⟨hx, hb, hml, hown, hts⟩ (c_give l D cZ m0 m1 m2 m3 m4 m5 m6 0 V S M (V a ||| V b) ((S a ||| S b) &&& (S a ||| (V a ^^^ (-1))) &&& (S b ||| (V b ^^^ (-1)))) d (by omega)) (cwV 1 hts (sm_gV (i1 := 272) (i2 := 273) (i3 := 350) (i4 := 2) (i5 := 274) rfl rfl rfl rfl rfl) rfl rfl rfl (by decide +kernel) ⟨Nat.le_of_ble_eq_true rfl, Nat.le_of_ble_eq_true rfl⟩) hK [0] rfl hP hD hS hA 0 rfl rfl [0, 1, 2, 3, 4, 5, 6] [] rfl rfl (by decide) (by decide) (by decide) rfl hl.1 rfl (Nat.le_of_ble_eq_true rfl) dX1_op_780 ⟨Nat.le_of_ble_eq_true rfl, Nat.le_of_ble_eq_true rfl⟩ rfl rfl (fun H locs hP hD hS => ?_)
    exact sm_vret hx hb hrt hlocks hS hP hD dX1_op_783
  · have hl : lv_has ls 11 [(0, .ref m0), (1, .int 3), (2, .int (nI d)), (3, .int (nI a)), (4, .int (nI b)), (8, .int (nI k))] := hl
    have hP : va_P D vwCl (sm_wM cZ m0 m1 m2 m3 m4 m5 m6 0 (sm_fb V) (sm_fb S) (sm_fo M) (sm_fl M) (sm_fw (V a ||| V b)) (sm_fill (sm_fw 0) (fun i => bt ((S a ||| S b) &&& (S a ||| (V a ^^^ (-1))) &&& (S b ||| (V b ^^^ (-1)))) i) 0 k)) H := hP
    have hD : va_D _ (sm_wM cZ m0 m1 m2 m3 m4 m5 m6 0 (sm_fb V) (sm_fb S) (sm_fo M) (sm_fl M) (sm_fw (V a ||| V b)) (sm_fill (sm_fw 0) (fun i => bt ((S a ||| S b) &&& (S a ||| (V a ^^^ (-1))) &&& (S b ||| (V b ^^^ (-1)))) i) 0 k)) := hD
    refine lv_iload hx hb dX1_op_242 (lv_at hl 5 rfl) ?_
    refine lv_bipush (v := 32) hx hb dX1_op_244 (by decide) ?_
    refine lv_icmp_ge (tgt := 384) hx hb dX1_op_246 rfl (fun z => absurd z (nI_ge (b := 32) hk (by decide))) (fun _ => ?_)
    refine sm_joinH (pcJ := 289) (t := sm_bI (!bt (S a) k && bt (V a) k)) (lv := [(0, .ref m0), (1, .int 3), (2, .int (nI d)), (3, .int (nI a)), (4, .int (nI b)), (8, .int (nI k))]) (w := (sm_wM cZ m0 m1 m2 m3 m4 m5 m6 0 (sm_fb V) (sm_fb S) (sm_fo M) (sm_fl M) (sm_fw (V a ||| V b)) (sm_fill (sm_fw 0) (fun i => bt ((S a ||| S b) &&& (S a ||| (V a ^^^ (-1))) &&& (S b ||| (V b ^^^ (-1)))) i) 0 k))) (rest := []) hl hP hD hS (fun j289 => ?_) (fun H locs ls hl hP hD hS => ?_)
    · refine lv_iload_n hx hb dX1_op_249 rfl (lv_at hl 1 rfl) ?_
      refine lv_iconst (v := 4) hx hb dX1_op_250 (by decide) ?_
      refine lv_icmp_ge (tgt := 288) hx hb dX1_op_251 rfl (fun z => absurd z (by decide)) (fun _ => ?_)
      refine lv_aload_n hx hb dX1_op_254 rfl (lv_at hl 0 rfl) ?_
      refine lv_iload_n hx hb dX1_op_255 rfl (lv_at hl 3 rfl) ?_
      refine lv_iload hx hb dX1_op_256 (lv_at hl 5 rfl) ?_
      refine sm_callV (C := RX1) (As := [.int (nI a), .int (nI k)]) (rest := []) (wr := []) (wn := (sm_wM cZ m0 m1 m2 m3 m4 m5 m6 0 (sm_fb V) (sm_fb S) (sm_fo M) (sm_fl M) (sm_fw (V a ||| V b)) (sm_fill (sm_fw 0) (fun i => bt ((S a ||| S b) &&& (S a ||| (V a ^^^ (-1))) &&& (S b ||| (V b ^^^ (-1)))) i) 0 k))) (st1 := [.int (sm_bI (bt (S a) k))]) ⟨hx, hb, hml, hown, hts⟩ (c_un l D cZ m0 m1 m2 m3 m4 m5 m6 0 (sm_fb V) (sm_fo M) (sm_fl M) (sm_fw (V a ||| V b)) (sm_fill (sm_fw 0) (fun i => bt ((S a ||| S b) &&& (S a ||| (V a ^^^ (-1))) &&& (S b ||| (V b ^^^ (-1)))) i) 0 k) S a k (by omega) (by omega)) (cwV 2 hts (sm_gV (i1 := 285) (i2 := 286) (i3 := 353) (i4 := 2) (i5 := 287) rfl rfl rfl rfl rfl) rfl rfl rfl (by decide +kernel) ⟨Nat.le_of_ble_eq_true rfl, Nat.le_of_ble_eq_true rfl⟩) hK [0] rfl hP hD hS hA 0 rfl rfl [0, 1, 2, 3, 4, 5, 6] [] rfl rfl (by decide) (by decide) (by decide) rfl hl.1 rfl (Nat.le_of_ble_eq_true rfl) dX1_op_258 ⟨Nat.le_of_ble_eq_true rfl, Nat.le_of_ble_eq_true rfl⟩ rfl rfl (fun H locs hP hD hS => ?_)
      refine sm_ifb_ne (tgt := 288) hx hb dX1_op_261 rfl (fun h261 => ?_) (fun h261 => ?_)
      · refine lv_iconst (v := 0) hx hb dX1_op_288 (by decide) ?_
        refine sm_eqi (y := sm_bI (!bt (S a) k && bt (V a) k)) (by simp [sm_bI, h261]) ?_
        exact j289 _ _ _ (lv_sub hl [0, 1, 2, 3, 4, 5] rfl) hP hD hS
      · refine lv_aload_n hx hb dX1_op_264 rfl (lv_at hl 0 rfl) ?_
        refine lv_iload_n hx hb dX1_op_265 rfl (lv_at hl 3 rfl) ?_
        refine lv_iload hx hb dX1_op_266 (lv_at hl 5 rfl) ?_
        refine sm_callV (C := RX1) (As := [.int (nI a), .int (nI k)]) (rest := []) (wr := []) (wn := (sm_wM cZ m0 m1 m2 m3 m4 m5 m6 0 (sm_fb V) (sm_fb S) (sm_fo M) (sm_fl M) (sm_fw (V a ||| V b)) (sm_fill (sm_fw 0) (fun i => bt ((S a ||| S b) &&& (S a ||| (V a ^^^ (-1))) &&& (S b ||| (V b ^^^ (-1)))) i) 0 k))) (st1 := [.int (sm_bI (bt (V a) k))]) ⟨hx, hb, hml, hown, hts⟩ (c_is l D cZ m0 m1 m2 m3 m4 m5 m6 0 (sm_fb S) (sm_fo M) (sm_fl M) (sm_fw (V a ||| V b)) (sm_fill (sm_fw 0) (fun i => bt ((S a ||| S b) &&& (S a ||| (V a ^^^ (-1))) &&& (S b ||| (V b ^^^ (-1)))) i) 0 k) V a k (by omega) (by omega)) (cwV 2 hts (sm_gV (i1 := 291) (i2 := 292) (i3 := 355) (i4 := 2) (i5 := 293) rfl rfl rfl rfl rfl) rfl rfl rfl (by decide +kernel) ⟨Nat.le_of_ble_eq_true rfl, Nat.le_of_ble_eq_true rfl⟩) hK [0] rfl hP hD hS hA 0 rfl rfl [0, 1, 2, 3, 4, 5, 6] [] rfl rfl (by decide) (by decide) (by decide) rfl hl.1 rfl (Nat.le_of_ble_eq_true rfl) dX1_op_268 ⟨Nat.le_of_ble_eq_true rfl, Nat.le_of_ble_eq_true rfl⟩ rfl rfl (fun H locs hP hD hS => ?_)
        refine lv_iload_n hx hb dX1_op_271 rfl (lv_at hl 1 rfl) ?_
        refine lv_iconst (v := 3) hx hb dX1_op_272 (by decide) ?_
        refine lv_icmp_ne (tgt := 280) hx hb dX1_op_273 rfl (fun z => absurd (by decide) z) (fun _ => ?_)
        refine lv_iconst (v := 1) hx hb dX1_op_276 (by decide) ?_
        refine lv_goto (tgt := 281) hx hb dX1_op_277 rfl ?_
        refine lv_icmp_ne (tgt := 288) hx hb dX1_op_281 rfl (fun h281 => ?_) (fun h281 => ?_)
        · refine lv_iconst (v := 0) hx hb dX1_op_288 (by decide) ?_
          refine sm_eqi (y := sm_bI (!bt (S a) k && bt (V a) k)) (sm_by3f h261 h281) ?_
          exact j289 _ _ _ (lv_sub hl [0, 1, 2, 3, 4, 5] rfl) hP hD hS
        · refine lv_iconst (v := 1) hx hb dX1_op_284 (by decide) ?_
          refine lv_goto (tgt := 289) hx hb dX1_op_285 rfl ?_
          refine sm_eqi (y := sm_bI (!bt (S a) k && bt (V a) k)) (sm_by3t h261 h281) ?_
          exact j289 _ _ _ (lv_sub hl [0, 1, 2, 3, 4, 5] rfl) hP hD hS
    refine lv_istore (lv' := [(9, .int (sm_bI (!bt (S a) k && bt (V a) k))), (0, .ref m0), (1, .int 3), (2, .int (nI d)), (3, .int (nI a)), (4, .int (nI b)), (8, .int (nI k))]) hx hb dX1_op_289 hl (by decide) rfl (fun ls hl => ?_)
    refine sm_joinH (pcJ := 333) (t := sm_bI (!bt (S b) k && bt (V b) k)) (lv := [(0, .ref m0), (1, .int 3), (2, .int (nI d)), (3, .int (nI a)), (4, .int (nI b)), (8, .int (nI k)), (9, .int (sm_bI (!bt (S a) k && bt (V a) k)))]) (w := (sm_wM cZ m0 m1 m2 m3 m4 m5 m6 0 (sm_fb V) (sm_fb S) (sm_fo M) (sm_fl M) (sm_fw (V a ||| V b)) (sm_fill (sm_fw 0) (fun i => bt ((S a ||| S b) &&& (S a ||| (V a ^^^ (-1))) &&& (S b ||| (V b ^^^ (-1)))) i) 0 k))) (rest := []) hl hP hD hS (fun j333 => ?_) (fun H locs ls hl hP hD hS => ?_)
    · refine lv_iload_n hx hb dX1_op_291 rfl (lv_at hl 2 rfl) ?_
      refine lv_iconst (v := 4) hx hb dX1_op_292 (by decide) ?_
      refine lv_icmp_ge (tgt := 332) hx hb dX1_op_293 rfl (fun z => absurd z (by decide)) (fun _ => ?_)
      refine lv_aload_n hx hb dX1_op_296 rfl (lv_at hl 1 rfl) ?_
      refine lv_iload hx hb dX1_op_297 (lv_at hl 5 rfl) ?_
      refine lv_iload hx hb dX1_op_299 (lv_at hl 6 rfl) ?_
      refine sm_callV (C := RX1) (As := [.int (nI b), .int (nI k)]) (rest := []) (wr := []) (wn := (sm_wM cZ m0 m1 m2 m3 m4 m5 m6 0 (sm_fb V) (sm_fb S) (sm_fo M) (sm_fl M) (sm_fw (V a ||| V b)) (sm_fill (sm_fw 0) (fun i => bt ((S a ||| S b) &&& (S a ||| (V a ^^^ (-1))) &&& (S b ||| (V b ^^^ (-1)))) i) 0 k))) (st1 := [.int (sm_bI (bt (S b) k))]) ⟨hx, hb, hml, hown, hts⟩ (c_un l D cZ m0 m1 m2 m3 m4 m5 m6 0 (sm_fb V) (sm_fo M) (sm_fl M) (sm_fw (V a ||| V b)) (sm_fill (sm_fw 0) (fun i => bt ((S a ||| S b) &&& (S a ||| (V a ^^^ (-1))) &&& (S b ||| (V b ^^^ (-1)))) i) 0 k) S b k (by omega) (by omega)) (cwV 2 hts (sm_gV (i1 := 285) (i2 := 286) (i3 := 353) (i4 := 2) (i5 := 287) rfl rfl rfl rfl rfl) rfl rfl rfl (by decide +kernel) ⟨Nat.le_of_ble_eq_true rfl, Nat.le_of_ble_eq_true rfl⟩) hK [0] rfl hP hD hS hA 0 rfl rfl [0, 1, 2, 3, 4, 5, 6] [] rfl rfl (by decide) (by decide) (by decide) rfl hl.1 rfl (Nat.le_of_ble_eq_true rfl) dX1_op_301 ⟨Nat.le_of_ble_eq_true rfl, Nat.le_of_ble_eq_true rfl⟩ rfl rfl (fun H locs hP hD hS => ?_)
      refine sm_ifb_ne (tgt := 332) hx hb dX1_op_304 rfl (fun h304 => ?_) (fun h304 => ?_)
      · refine lv_iconst (v := 0) hx hb dX1_op_332 (by decide) ?_
        refine sm_eqi (y := sm_bI (!bt (S b) k && bt (V b) k)) (by simp [sm_bI, h304]) ?_
        exact j333 _ _ _ (lv_sub hl [1, 2, 3, 4, 5, 6, 0] rfl) hP hD hS
      · refine lv_aload_n hx hb dX1_op_307 rfl (lv_at hl 1 rfl) ?_
        refine lv_iload hx hb dX1_op_308 (lv_at hl 5 rfl) ?_
        refine lv_iload hx hb dX1_op_310 (lv_at hl 6 rfl) ?_
        refine sm_callV (C := RX1) (As := [.int (nI b), .int (nI k)]) (rest := []) (wr := []) (wn := (sm_wM cZ m0 m1 m2 m3 m4 m5 m6 0 (sm_fb V) (sm_fb S) (sm_fo M) (sm_fl M) (sm_fw (V a ||| V b)) (sm_fill (sm_fw 0) (fun i => bt ((S a ||| S b) &&& (S a ||| (V a ^^^ (-1))) &&& (S b ||| (V b ^^^ (-1)))) i) 0 k))) (st1 := [.int (sm_bI (bt (V b) k))]) ⟨hx, hb, hml, hown, hts⟩ (c_is l D cZ m0 m1 m2 m3 m4 m5 m6 0 (sm_fb S) (sm_fo M) (sm_fl M) (sm_fw (V a ||| V b)) (sm_fill (sm_fw 0) (fun i => bt ((S a ||| S b) &&& (S a ||| (V a ^^^ (-1))) &&& (S b ||| (V b ^^^ (-1)))) i) 0 k) V b k (by omega) (by omega)) (cwV 2 hts (sm_gV (i1 := 291) (i2 := 292) (i3 := 355) (i4 := 2) (i5 := 293) rfl rfl rfl rfl rfl) rfl rfl rfl (by decide +kernel) ⟨Nat.le_of_ble_eq_true rfl, Nat.le_of_ble_eq_true rfl⟩) hK [0] rfl hP hD hS hA 0 rfl rfl [0, 1, 2, 3, 4, 5, 6] [] rfl rfl (by decide) (by decide) (by decide) rfl hl.1 rfl (Nat.le_of_ble_eq_true rfl) dX1_op_312 ⟨Nat.le_of_ble_eq_true rfl, Nat.le_of_ble_eq_true rfl⟩ rfl rfl (fun H locs hP hD hS => ?_)
        refine lv_iload_n hx hb dX1_op_315 rfl (lv_at hl 2 rfl) ?_
        refine lv_iconst (v := 3) hx hb dX1_op_316 (by decide) ?_
        refine lv_icmp_ne (tgt := 324) hx hb dX1_op_317 rfl (fun z => absurd (by decide) z) (fun _ => ?_)
        refine lv_iconst (v := 1) hx hb dX1_op_320 (by decide) ?_
        refine lv_goto (tgt := 325) hx hb dX1_op_321 rfl ?_
        refine lv_icmp_ne (tgt := 332) hx hb dX1_op_325 rfl (fun h325 => ?_) (fun h325 => ?_)
        · refine lv_iconst (v := 0) hx hb dX1_op_332 (by decide) ?_
          refine sm_eqi (y := sm_bI (!bt (S b) k && bt (V b) k)) (sm_by3f h304 h325) ?_
          exact j333 _ _ _ (lv_sub hl [1, 2, 3, 4, 5, 6, 0] rfl) hP hD hS
        · refine lv_iconst (v := 1) hx hb dX1_op_328 (by decide) ?_
          refine lv_goto (tgt := 333) hx hb dX1_op_329 rfl ?_
          refine sm_eqi (y := sm_bI (!bt (S b) k && bt (V b) k)) (sm_by3t h304 h325) ?_
          exact j333 _ _ _ (lv_sub hl [1, 2, 3, 4, 5, 6, 0] rfl) hP hD hS
    refine lv_istore (lv' := [(10, .int (sm_bI (!bt (S b) k && bt (V b) k))), (0, .ref m0), (1, .int 3), (2, .int (nI d)), (3, .int (nI a)), (4, .int (nI b)), (8, .int (nI k)), (9, .int (sm_bI (!bt (S a) k && bt (V a) k)))]) hx hb dX1_op_333 hl (by decide) rfl (fun ls hl => ?_)
    refine lv_aload_n hx hb dX1_op_335 rfl (lv_at hl 1 rfl) ?_
    refine va_get (D := D) (ci := 1) (v := .ref m6) (C := RX1) (T := TX1) (N := 7) hx hb hts inX1 hown hK hP 0 rfl rfl 6 (by decide) (hw 238 rfl) (fun _ h9 => h9) rfl dX1_op_336 ?_
    refine lv_iload hx hb dX1_op_339 (lv_at hl 6 rfl) ?_
    refine lv_aload_n hx hb dX1_op_341 rfl (lv_at hl 1 rfl) ?_
    refine lv_iload_n hx hb dX1_op_342 rfl (lv_at hl 4 rfl) ?_
    refine lv_iload hx hb dX1_op_343 (lv_at hl 6 rfl) ?_
    refine sm_callV (C := RX1) (As := [.int (nI a), .int (nI k)]) (rest := [.int (nI k), .ref m6]) (wr := []) (wn := (sm_wM cZ m0 m1 m2 m3 m4 m5 m6 0 (sm_fb V) (sm_fb S) (sm_fo M) (sm_fl M) (sm_fw (V a ||| V b)) (sm_fill (sm_fw 0) (fun i => bt ((S a ||| S b) &&& (S a ||| (V a ^^^ (-1))) &&& (S b ||| (V b ^^^ (-1)))) i) 0 k))) (st1 := [.int (sm_bI (bt (S a) k)), .int (nI k), .ref m6]) ⟨hx, hb, hml, hown, hts⟩ (c_un l D cZ m0 m1 m2 m3 m4 m5 m6 0 (sm_fb V) (sm_fo M) (sm_fl M) (sm_fw (V a ||| V b)) (sm_fill (sm_fw 0) (fun i => bt ((S a ||| S b) &&& (S a ||| (V a ^^^ (-1))) &&& (S b ||| (V b ^^^ (-1)))) i) 0 k) S a k (by omega) (by omega)) (cwV 2 hts (sm_gV (i1 := 285) (i2 := 286) (i3 := 353) (i4 := 2) (i5 := 287) rfl rfl rfl rfl rfl) rfl rfl rfl (by decide +kernel) ⟨Nat.le_of_ble_eq_true rfl, Nat.le_of_ble_eq_true rfl⟩) hK [0] rfl hP hD hS hA 0 rfl rfl [0, 1, 2, 3, 4, 5, 6] [] rfl rfl (by decide) (by decide) (by decide) rfl hl.1 rfl (Nat.le_of_ble_eq_true rfl) dX1_op_345 ⟨Nat.le_of_ble_eq_true rfl, Nat.le_of_ble_eq_true rfl⟩ rfl rfl (fun H locs hP hD hS => ?_)
    refine sm_ifb_ne (tgt := 362) hx hb dX1_op_348 rfl (fun h348 => ?_) (fun h348 => ?_)
    · refine lv_iload hx hb dX1_op_362 (lv_at hl 7 rfl) ?_
      refine sm_ifb_ne (tgt := 376) hx hb dX1_op_364 rfl (fun h364 => ?_) (fun h364 => ?_)
      · refine lv_iconst (v := 0) hx hb dX1_op_376 (by decide) ?_
        refine sm_eqi (y := sm_bI (bt ((S a ||| S b) &&& (S a ||| (V a ^^^ (-1))) &&& (S b ||| (V b ^^^ (-1)))) k)) (by rw [sm_gb3 _ _ _ _ hk]; revert h348 h364; cases bt (S a) k <;> cases bt (V a) k <;> cases bt (S b) k <;> cases bt (V b) k <;> decide) ?_
        refine sm_zast (f' := sm_fill (sm_fw 0) (fun i => bt ((S a ||| S b) &&& (S a ||| (V a ^^^ (-1))) &&& (S b ||| (V b ^^^ (-1)))) i) 0 (k + 1)) (ws' := (sm_wM cZ m0 m1 m2 m3 m4 m5 m6 0 (sm_fb V) (sm_fb S) (sm_fo M) (sm_fl M) (sm_fw (V a ||| V b)) (sm_fill (sm_fw 0) (fun i => bt ((S a ||| S b) &&& (S a ||| (V a ^^^ (-1))) &&& (S b ||| (V b ^^^ (-1)))) i) 0 (k + 1)))) hx hb hK hP hD hS 6 0 rfl rfl (vp_in_nI (n := k) (by omega) (by decide)) dX1_op_377 (by rw [nI_clamp (by omega)]; exact sm_fillS0 (sm_fw 0) (fun i => bt ((S a ||| S b) &&& (S a ||| (V a ^^^ (-1))) &&& (S b ||| (V b ^^^ (-1)))) i) k) rfl (fun H locs hP hD hS => ?_)
        refine lv_iinc (k := 6) (v := nI (k + 1)) (lv' := [(8, .int (nI (k + 1))), (10, .int (sm_bI (!bt (S b) k && bt (V b) k))), (0, .ref m0), (1, .int 3), (2, .int (nI d)), (3, .int (nI a)), (4, .int (nI b)), (9, .int (sm_bI (!bt (S a) k && bt (V a) k)))]) hx hb dX1_op_378 hl rfl (sm_inc k) (by decide) rfl (fun ls hl => ?_)
        refine lv_goto (tgt := 242) hx hb dX1_op_381 rfl ?_
        exact ih _ _ _ (lv_sub hl [2, 3, 4, 5, 6, 0] rfl) (sm_cP (rfl) hP) (sm_cD (rfl) hD) hS
      · refine lv_iload hx hb dX1_op_367 (lv_at hl 0 rfl) ?_
        refine sm_ifb_ne (tgt := 376) hx hb dX1_op_369 rfl (fun h369 => ?_) (fun h369 => ?_)
        · refine lv_iconst (v := 0) hx hb dX1_op_376 (by decide) ?_
          refine sm_eqi (y := sm_bI (bt ((S a ||| S b) &&& (S a ||| (V a ^^^ (-1))) &&& (S b ||| (V b ^^^ (-1)))) k)) (by rw [sm_gb3 _ _ _ _ hk]; revert h348 h364 h369; cases bt (S a) k <;> cases bt (V a) k <;> cases bt (S b) k <;> cases bt (V b) k <;> decide) ?_
          refine sm_zast (f' := sm_fill (sm_fw 0) (fun i => bt ((S a ||| S b) &&& (S a ||| (V a ^^^ (-1))) &&& (S b ||| (V b ^^^ (-1)))) i) 0 (k + 1)) (ws' := (sm_wM cZ m0 m1 m2 m3 m4 m5 m6 0 (sm_fb V) (sm_fb S) (sm_fo M) (sm_fl M) (sm_fw (V a ||| V b)) (sm_fill (sm_fw 0) (fun i => bt ((S a ||| S b) &&& (S a ||| (V a ^^^ (-1))) &&& (S b ||| (V b ^^^ (-1)))) i) 0 (k + 1)))) hx hb hK hP hD hS 6 0 rfl rfl (vp_in_nI (n := k) (by omega) (by decide)) dX1_op_377 (by rw [nI_clamp (by omega)]; exact sm_fillS0 (sm_fw 0) (fun i => bt ((S a ||| S b) &&& (S a ||| (V a ^^^ (-1))) &&& (S b ||| (V b ^^^ (-1)))) i) k) rfl (fun H locs hP hD hS => ?_)
          refine lv_iinc (k := 6) (v := nI (k + 1)) (lv' := [(8, .int (nI (k + 1))), (10, .int (sm_bI (!bt (S b) k && bt (V b) k))), (0, .ref m0), (1, .int 3), (2, .int (nI d)), (3, .int (nI a)), (4, .int (nI b)), (9, .int (sm_bI (!bt (S a) k && bt (V a) k)))]) hx hb dX1_op_378 hl rfl (sm_inc k) (by decide) rfl (fun ls hl => ?_)
          refine lv_goto (tgt := 242) hx hb dX1_op_381 rfl ?_
          exact ih _ _ _ (lv_sub hl [2, 3, 4, 5, 6, 0] rfl) (sm_cP (rfl) hP) (sm_cD (rfl) hD) hS
        · refine lv_iconst (v := 1) hx hb dX1_op_372 (by decide) ?_
          refine lv_goto (tgt := 377) hx hb dX1_op_373 rfl ?_
          refine sm_eqi (y := sm_bI (bt ((S a ||| S b) &&& (S a ||| (V a ^^^ (-1))) &&& (S b ||| (V b ^^^ (-1)))) k)) (by rw [sm_gb3 _ _ _ _ hk]; revert h348 h364 h369; cases bt (S a) k <;> cases bt (V a) k <;> cases bt (S b) k <;> cases bt (V b) k <;> decide) ?_
          refine sm_zast (f' := sm_fill (sm_fw 0) (fun i => bt ((S a ||| S b) &&& (S a ||| (V a ^^^ (-1))) &&& (S b ||| (V b ^^^ (-1)))) i) 0 (k + 1)) (ws' := (sm_wM cZ m0 m1 m2 m3 m4 m5 m6 0 (sm_fb V) (sm_fb S) (sm_fo M) (sm_fl M) (sm_fw (V a ||| V b)) (sm_fill (sm_fw 0) (fun i => bt ((S a ||| S b) &&& (S a ||| (V a ^^^ (-1))) &&& (S b ||| (V b ^^^ (-1)))) i) 0 (k + 1)))) hx hb hK hP hD hS 6 0 rfl rfl (vp_in_nI (n := k) (by omega) (by decide)) dX1_op_377 (by rw [nI_clamp (by omega)]; exact sm_fillS0 (sm_fw 0) (fun i => bt ((S a ||| S b) &&& (S a ||| (V a ^^^ (-1))) &&& (S b ||| (V b ^^^ (-1)))) i) k) rfl (fun H locs hP hD hS => ?_)
          refine lv_iinc (k := 6) (v := nI (k + 1)) (lv' := [(8, .int (nI (k + 1))), (10, .int (sm_bI (!bt (S b) k && bt (V b) k))), (0, .ref m0), (1, .int 3), (2, .int (nI d)), (3, .int (nI a)), (4, .int (nI b)), (9, .int (sm_bI (!bt (S a) k && bt (V a) k)))]) hx hb dX1_op_378 hl rfl (sm_inc k) (by decide) rfl (fun ls hl => ?_)
          refine lv_goto (tgt := 242) hx hb dX1_op_381 rfl ?_
          exact ih _ _ _ (lv_sub hl [2, 3, 4, 5, 6, 0] rfl) (sm_cP (rfl) hP) (sm_cD (rfl) hD) hS
    · refine lv_aload_n hx hb dX1_op_351 rfl (lv_at hl 1 rfl) ?_
      refine lv_iload hx hb dX1_op_352 (lv_at hl 5 rfl) ?_
      refine lv_iload hx hb dX1_op_354 (lv_at hl 6 rfl) ?_
      refine sm_callV (C := RX1) (As := [.int (nI b), .int (nI k)]) (rest := [.int (nI k), .ref m6]) (wr := []) (wn := (sm_wM cZ m0 m1 m2 m3 m4 m5 m6 0 (sm_fb V) (sm_fb S) (sm_fo M) (sm_fl M) (sm_fw (V a ||| V b)) (sm_fill (sm_fw 0) (fun i => bt ((S a ||| S b) &&& (S a ||| (V a ^^^ (-1))) &&& (S b ||| (V b ^^^ (-1)))) i) 0 k))) (st1 := [.int (sm_bI (bt (S b) k)), .int (nI k), .ref m6]) ⟨hx, hb, hml, hown, hts⟩ (c_un l D cZ m0 m1 m2 m3 m4 m5 m6 0 (sm_fb V) (sm_fo M) (sm_fl M) (sm_fw (V a ||| V b)) (sm_fill (sm_fw 0) (fun i => bt ((S a ||| S b) &&& (S a ||| (V a ^^^ (-1))) &&& (S b ||| (V b ^^^ (-1)))) i) 0 k) S b k (by omega) (by omega)) (cwV 2 hts (sm_gV (i1 := 285) (i2 := 286) (i3 := 353) (i4 := 2) (i5 := 287) rfl rfl rfl rfl rfl) rfl rfl rfl (by decide +kernel) ⟨Nat.le_of_ble_eq_true rfl, Nat.le_of_ble_eq_true rfl⟩) hK [0] rfl hP hD hS hA 0 rfl rfl [0, 1, 2, 3, 4, 5, 6] [] rfl rfl (by decide) (by decide) (by decide) rfl hl.1 rfl (Nat.le_of_ble_eq_true rfl) dX1_op_356 ⟨Nat.le_of_ble_eq_true rfl, Nat.le_of_ble_eq_true rfl⟩ rfl rfl (fun H locs hP hD hS => ?_)
      refine sm_ifb_eq (tgt := 376) hx hb dX1_op_359 rfl (fun h359 => ?_) (fun h359 => ?_)
      · refine lv_iconst (v := 0) hx hb dX1_op_376 (by decide) ?_
        refine sm_eqi (y := sm_bI (bt ((S a ||| S b) &&& (S a ||| (V a ^^^ (-1))) &&& (S b ||| (V b ^^^ (-1)))) k)) (by rw [sm_gb3 _ _ _ _ hk]; revert h348 h359; cases bt (S a) k <;> cases bt (V a) k <;> cases bt (S b) k <;> cases bt (V b) k <;> decide) ?_
        refine sm_zast (f' := sm_fill (sm_fw 0) (fun i => bt ((S a ||| S b) &&& (S a ||| (V a ^^^ (-1))) &&& (S b ||| (V b ^^^ (-1)))) i) 0 (k + 1)) (ws' := (sm_wM cZ m0 m1 m2 m3 m4 m5 m6 0 (sm_fb V) (sm_fb S) (sm_fo M) (sm_fl M) (sm_fw (V a ||| V b)) (sm_fill (sm_fw 0) (fun i => bt ((S a ||| S b) &&& (S a ||| (V a ^^^ (-1))) &&& (S b ||| (V b ^^^ (-1)))) i) 0 (k + 1)))) hx hb hK hP hD hS 6 0 rfl rfl (vp_in_nI (n := k) (by omega) (by decide)) dX1_op_377 (by rw [nI_clamp (by omega)]; exact sm_fillS0 (sm_fw 0) (fun i => bt ((S a ||| S b) &&& (S a ||| (V a ^^^ (-1))) &&& (S b ||| (V b ^^^ (-1)))) i) k) rfl (fun H locs hP hD hS => ?_)
        refine lv_iinc (k := 6) (v := nI (k + 1)) (lv' := [(8, .int (nI (k + 1))), (10, .int (sm_bI (!bt (S b) k && bt (V b) k))), (0, .ref m0), (1, .int 3), (2, .int (nI d)), (3, .int (nI a)), (4, .int (nI b)), (9, .int (sm_bI (!bt (S a) k && bt (V a) k)))]) hx hb dX1_op_378 hl rfl (sm_inc k) (by decide) rfl (fun ls hl => ?_)
        refine lv_goto (tgt := 242) hx hb dX1_op_381 rfl ?_
        exact ih _ _ _ (lv_sub hl [2, 3, 4, 5, 6, 0] rfl) (sm_cP (rfl) hP) (sm_cD (rfl) hD) hS
      · refine lv_iload hx hb dX1_op_362 (lv_at hl 7 rfl) ?_
        refine sm_ifb_ne (tgt := 376) hx hb dX1_op_364 rfl (fun h364 => ?_) (fun h364 => ?_)
        · refine lv_iconst (v := 0) hx hb dX1_op_376 (by decide) ?_
          refine sm_eqi (y := sm_bI (bt ((S a ||| S b) &&& (S a ||| (V a ^^^ (-1))) &&& (S b ||| (V b ^^^ (-1)))) k)) (by rw [sm_gb3 _ _ _ _ hk]; revert h348 h359 h364; cases bt (S a) k <;> cases bt (V a) k <;> cases bt (S b) k <;> cases bt (V b) k <;> decide) ?_
          refine sm_zast (f' := sm_fill (sm_fw 0) (fun i => bt ((S a ||| S b) &&& (S a ||| (V a ^^^ (-1))) &&& (S b ||| (V b ^^^ (-1)))) i) 0 (k + 1)) (ws' := (sm_wM cZ m0 m1 m2 m3 m4 m5 m6 0 (sm_fb V) (sm_fb S) (sm_fo M) (sm_fl M) (sm_fw (V a ||| V b)) (sm_fill (sm_fw 0) (fun i => bt ((S a ||| S b) &&& (S a ||| (V a ^^^ (-1))) &&& (S b ||| (V b ^^^ (-1)))) i) 0 (k + 1)))) hx hb hK hP hD hS 6 0 rfl rfl (vp_in_nI (n := k) (by omega) (by decide)) dX1_op_377 (by rw [nI_clamp (by omega)]; exact sm_fillS0 (sm_fw 0) (fun i => bt ((S a ||| S b) &&& (S a ||| (V a ^^^ (-1))) &&& (S b ||| (V b ^^^ (-1)))) i) k) rfl (fun H locs hP hD hS => ?_)
          refine lv_iinc (k := 6) (v := nI (k + 1)) (lv' := [(8, .int (nI (k + 1))), (10, .int (sm_bI (!bt (S b) k && bt (V b) k))), (0, .ref m0), (1, .int 3), (2, .int (nI d)), (3, .int (nI a)), (4, .int (nI b)), (9, .int (sm_bI (!bt (S a) k && bt (V a) k)))]) hx hb dX1_op_378 hl rfl (sm_inc k) (by decide) rfl (fun ls hl => ?_)
          refine lv_goto (tgt := 242) hx hb dX1_op_381 rfl ?_
          exact ih _ _ _ (lv_sub hl [2, 3, 4, 5, 6, 0] rfl) (sm_cP (rfl) hP) (sm_cD (rfl) hD) hS
        · refine lv_iload hx hb dX1_op_367 (lv_at hl 0 rfl) ?_
          refine sm_ifb_ne (tgt := 376) hx hb dX1_op_369 rfl (fun h369 => ?_) (fun h369 => ?_)
          · refine lv_iconst (v := 0) hx hb dX1_op_376 (by decide) ?_
            refine sm_eqi (y := sm_bI (bt ((S a ||| S b) &&& (S a ||| (V a ^^^ (-1))) &&& (S b ||| (V b ^^^ (-1)))) k)) (by rw [sm_gb3 _ _ _ _ hk]; revert h348 h359 h364 h369; cases bt (S a) k <;> cases bt (V a) k <;> cases bt (S b) k <;> cases bt (V b) k <;> decide) ?_
            refine sm_zast (f' := sm_fill (sm_fw 0) (fun i => bt ((S a ||| S b) &&& (S a ||| (V a ^^^ (-1))) &&& (S b ||| (V b ^^^ (-1)))) i) 0 (k + 1)) (ws' := (sm_wM cZ m0 m1 m2 m3 m4 m5 m6 0 (sm_fb V) (sm_fb S) (sm_fo M) (sm_fl M) (sm_fw (V a ||| V b)) (sm_fill (sm_fw 0) (fun i => bt ((S a ||| S b) &&& (S a ||| (V a ^^^ (-1))) &&& (S b ||| (V b ^^^ (-1)))) i) 0 (k + 1)))) hx hb hK hP hD hS 6 0 rfl rfl (vp_in_nI (n := k) (by omega) (by decide)) dX1_op_377 (by rw [nI_clamp (by omega)]; exact sm_fillS0 (sm_fw 0) (fun i => bt ((S a ||| S b) &&& (S a ||| (V a ^^^ (-1))) &&& (S b ||| (V b ^^^ (-1)))) i) k) rfl (fun H locs hP hD hS => ?_)
            refine lv_iinc (k := 6) (v := nI (k + 1)) (lv' := [(8, .int (nI (k + 1))), (10, .int (sm_bI (!bt (S b) k && bt (V b) k))), (0, .ref m0), (1, .int 3), (2, .int (nI d)), (3, .int (nI a)), (4, .int (nI b)), (9, .int (sm_bI (!bt (S a) k && bt (V a) k)))]) hx hb dX1_op_378 hl rfl (sm_inc k) (by decide) rfl (fun ls hl => ?_)
            refine lv_goto (tgt := 242) hx hb dX1_op_381 rfl ?_
            exact ih _ _ _ (lv_sub hl [2, 3, 4, 5, 6, 0] rfl) (sm_cP (rfl) hP) (sm_cD (rfl) hD) hS
          · refine lv_iconst (v := 1) hx hb dX1_op_372 (by decide) ?_
            refine lv_goto (tgt := 377) hx hb dX1_op_373 rfl ?_
            refine sm_eqi (y := sm_bI (bt ((S a ||| S b) &&& (S a ||| (V a ^^^ (-1))) &&& (S b ||| (V b ^^^ (-1)))) k)) (by rw [sm_gb3 _ _ _ _ hk]; revert h348 h359 h364 h369; cases bt (S a) k <;> cases bt (V a) k <;> cases bt (S b) k <;> cases bt (V b) k <;> decide) ?_
            refine sm_zast (f' := sm_fill (sm_fw 0) (fun i => bt ((S a ||| S b) &&& (S a ||| (V a ^^^ (-1))) &&& (S b ||| (V b ^^^ (-1)))) i) 0 (k + 1)) (ws' := (sm_wM cZ m0 m1 m2 m3 m4 m5 m6 0 (sm_fb V) (sm_fb S) (sm_fo M) (sm_fl M) (sm_fw (V a ||| V b)) (sm_fill (sm_fw 0) (fun i => bt ((S a ||| S b) &&& (S a ||| (V a ^^^ (-1))) &&& (S b ||| (V b ^^^ (-1)))) i) 0 (k + 1)))) hx hb hK hP hD hS 6 0 rfl rfl (vp_in_nI (n := k) (by omega) (by decide)) dX1_op_377 (by rw [nI_clamp (by omega)]; exact sm_fillS0 (sm_fw 0) (fun i => bt ((S a ||| S b) &&& (S a ||| (V a ^^^ (-1))) &&& (S b ||| (V b ^^^ (-1)))) i) k) rfl (fun H locs hP hD hS => ?_)
            refine lv_iinc (k := 6) (v := nI (k + 1)) (lv' := [(8, .int (nI (k + 1))), (10, .int (sm_bI (!bt (S b) k && bt (V b) k))), (0, .ref m0), (1, .int 3), (2, .int (nI d)), (3, .int (nI a)), (4, .int (nI b)), (9, .int (sm_bI (!bt (S a) k && bt (V a) k)))]) hx hb dX1_op_378 hl rfl (sm_inc k) (by decide) rfl (fun ls hl => ?_)
            refine lv_goto (tgt := 242) hx hb dX1_op_381 rfl ?_
            exact ih _ _ _ (lv_sub hl [2, 3, 4, 5, 6, 0] rfl) (sm_cP (rfl) hP) (sm_cD (rfl) hD) hS
set_option maxHeartbeats 4000000 in
set_option maxRecDepth 100000 in
theorem c_mop_4 (l : Launch) (D : va_G) (cZ : ClassId) (m0 m1 m2 m3 m4 m5 m6 : Nat) (err : Int32) (V S M : Nat → Int32) (O G : Int32) (d a b : Nat) (hd : d < 16) (ha : a < 16) (hb' : b < 16) : sm_C l yX1_op wsX1_op ({ frames := 5, cells := 0, slots := 0, locals := 140 } : Room) D vwCl [(cZ, .boolean)] [.ref m0, .int 4, .int (nI d), .int (nI a), .int (nI b)] (sm_wM cZ m0 m1 m2 m3 m4 m5 m6 err (sm_fb V) (sm_fb S) (sm_fo M) (sm_fl M) (sm_fw O) (sm_fw G)) none (sm_wM cZ m0 m1 m2 m3 m4 m5 m6 0 (sm_fb (upd V d (V a ^^^ V b))) (sm_fb (upd S d (S a ||| S b))) (sm_fo M) (sm_fl M) (sm_fw (V a ^^^ V b)) (sm_fw (S a ||| S b))) := by
  refine sm_start (cc := cX1_op) (maxL := 11) (ret := none) (lv := [(0, .ref m0), (1, .int 4), (2, .int (nI d)), (3, .int (nI a)), (4, .int (nI b))]) (by decide) rfl (Nat.le_of_ble_eq_true rfl) rfl ?_
  intro p e s m below meth c hx hb hrt hts hown hlocks hml hin hK hP hD hS hA ls hl
  have hw := sm_hw hts
  have q5 := sm_tz_le (S a ||| S b)
  have q1 := sm_tz_le (S a)
  have q2 := sm_tz_le (S b)
  have q3 := sm_tz_le (V b ||| S b)
  have q4 := sm_tz_le (V a ||| S a)
  refine lv_aload_n hx hb dX1_op_0 rfl (lv_at hl 0 rfl) ?_
  refine lv_iload_n hx hb dX1_op_1 rfl (lv_at hl 1 rfl) ?_
  refine lv_if_lt (tgt := 11) hx hb dX1_op_2 rfl (fun z => absurd z (by decide)) (fun _ => ?_)
  refine lv_iload_n hx hb dX1_op_5 rfl (lv_at hl 1 rfl) ?_
  refine lv_bipush (v := 12) hx hb dX1_op_6 (by decide) ?_
  refine lv_icmp_le (tgt := 15) hx hb dX1_op_8 rfl (fun _ => ?_) (fun z => absurd (by decide) z)
  refine lv_iconst (v := 0) hx hb dX1_op_15 (by decide) ?_
  refine lv_iconst (v := 1) hx hb dX1_op_16 (by decide) ?_
  refine sm_callV (C := RX1) (As := [.int (sm_bI false), .int 1]) (rest := []) (wr := []) (wn := (sm_wM cZ m0 m1 m2 m3 m4 m5 m6 0 (sm_fb V) (sm_fb S) (sm_fo M) (sm_fl M) (sm_fw O) (sm_fw G))) (st1 := [.int (sm_bI false)]) ⟨hx, hb, hml, hown, hts⟩ (c_fails_f l D cZ m0 m1 m2 m3 m4 m5 m6 err V S M O G 1) (cwV 2 hts (sm_gV (i1 := 266) (i2 := 267) (i3 := 348) (i4 := 2) (i5 := 268) rfl rfl rfl rfl rfl) rfl rfl rfl (by decide +kernel) ⟨Nat.le_of_ble_eq_true rfl, Nat.le_of_ble_eq_true rfl⟩) hK [0] rfl hP hD hS hA 0 rfl rfl [0, 1, 2, 3, 4, 5, 6] [] rfl rfl (by decide) (by decide) (by decide) rfl hl.1 rfl (Nat.le_of_ble_eq_true rfl) dX1_op_17 ⟨Nat.le_of_ble_eq_true rfl, Nat.le_of_ble_eq_true rfl⟩ rfl rfl (fun H locs hP hD hS => ?_)
  refine lv_if_eq (tgt := 24) hx hb dX1_op_20 rfl (fun _ => ?_) (fun z => absurd (by decide) z)
  refine lv_aload_n hx hb dX1_op_24 rfl (lv_at hl 0 rfl) ?_
  refine lv_iload_n hx hb dX1_op_25 rfl (lv_at hl 2 rfl) ?_
  refine sm_callS (As := [.int (nI d)]) (rest := [.ref m0]) (wr := (sm_wM cZ m0 m1 m2 m3 m4 m5 m6 0 (sm_fb V) (sm_fb S) (sm_fo M) (sm_fl M) (sm_fw O) (sm_fw G))) (wn := (sm_wM cZ m0 m1 m2 m3 m4 m5 m6 0 (sm_fb V) (sm_fb S) (sm_fo M) (sm_fl M) (sm_fw O) (sm_fw G))) (st1 := [.int (sm_bI false), .ref m0]) ⟨hx, hb, hml, hown, hts⟩ (c_none_f l D d (by omega)) (va_cwS 1 hts (sm_gS (i1 := 263) (i2 := 264) (i4 := 2) (i5 := 265) rfl rfl rfl rfl) rfl rfl rfl (by decide +kernel) ⟨Nat.le_of_ble_eq_true rfl, Nat.le_of_ble_eq_true rfl⟩) hK [] rfl hP hD hS hA [] [0, 1, 2, 3, 4, 5, 6] rfl rfl (by decide) (by decide) (by decide) rfl hl.1 rfl (Nat.le_of_ble_eq_true rfl) dX1_op_26 ⟨Nat.le_of_ble_eq_true rfl, Nat.le_of_ble_eq_true rfl⟩ rfl rfl (fun H locs hP hD hS => ?_)
  refine lv_if_ne (tgt := 47) hx hb dX1_op_29 rfl (fun z => absurd (by decide) z) (fun _ => ?_)
  refine lv_iload_n hx hb dX1_op_32 rfl (lv_at hl 3 rfl) ?_
  refine sm_callS (As := [.int (nI a)]) (rest := [.ref m0]) (wr := (sm_wM cZ m0 m1 m2 m3 m4 m5 m6 0 (sm_fb V) (sm_fb S) (sm_fo M) (sm_fl M) (sm_fw O) (sm_fw G))) (wn := (sm_wM cZ m0 m1 m2 m3 m4 m5 m6 0 (sm_fb V) (sm_fb S) (sm_fo M) (sm_fl M) (sm_fw O) (sm_fw G))) (st1 := [.int (sm_bI false), .ref m0]) ⟨hx, hb, hml, hown, hts⟩ (c_none_f l D a (by omega)) (va_cwS 1 hts (sm_gS (i1 := 263) (i2 := 264) (i4 := 2) (i5 := 265) rfl rfl rfl rfl) rfl rfl rfl (by decide +kernel) ⟨Nat.le_of_ble_eq_true rfl, Nat.le_of_ble_eq_true rfl⟩) hK [] rfl hP hD hS hA [] [0, 1, 2, 3, 4, 5, 6] rfl rfl (by decide) (by decide) (by decide) rfl hl.1 rfl (Nat.le_of_ble_eq_true rfl) dX1_op_33 ⟨Nat.le_of_ble_eq_true rfl, Nat.le_of_ble_eq_true rfl⟩ rfl rfl (fun H locs hP hD hS => ?_)
  refine lv_if_ne (tgt := 47) hx hb dX1_op_36 rfl (fun z => absurd (by decide) z) (fun _ => ?_)
  refine lv_iload hx hb dX1_op_39 (lv_at hl 4 rfl) ?_
  refine sm_callS (As := [.int (nI b)]) (rest := [.ref m0]) (wr := (sm_wM cZ m0 m1 m2 m3 m4 m5 m6 0 (sm_fb V) (sm_fb S) (sm_fo M) (sm_fl M) (sm_fw O) (sm_fw G))) (wn := (sm_wM cZ m0 m1 m2 m3 m4 m5 m6 0 (sm_fb V) (sm_fb S) (sm_fo M) (sm_fl M) (sm_fw O) (sm_fw G))) (st1 := [.int (sm_bI false), .ref m0]) ⟨hx, hb, hml, hown, hts⟩ (c_none_f l D b (by omega)) (va_cwS 1 hts (sm_gS (i1 := 263) (i2 := 264) (i4 := 2) (i5 := 265) rfl rfl rfl rfl) rfl rfl rfl (by decide +kernel) ⟨Nat.le_of_ble_eq_true rfl, Nat.le_of_ble_eq_true rfl⟩) hK [] rfl hP hD hS hA [] [0, 1, 2, 3, 4, 5, 6] rfl rfl (by decide) (by decide) (by decide) rfl hl.1 rfl (Nat.le_of_ble_eq_true rfl) dX1_op_41 ⟨Nat.le_of_ble_eq_true rfl, Nat.le_of_ble_eq_true rfl⟩ rfl rfl (fun H locs hP hD hS => ?_)
  refine lv_if_eq (tgt := 51) hx hb dX1_op_44 rfl (fun _ => ?_) (fun z => absurd (by decide) z)
  refine lv_iconst (v := 0) hx hb dX1_op_51 (by decide) ?_
  refine lv_iconst (v := 2) hx hb dX1_op_52 (by decide) ?_
  refine sm_callV (C := RX1) (As := [.int (sm_bI false), .int 2]) (rest := []) (wr := []) (wn := (sm_wM cZ m0 m1 m2 m3 m4 m5 m6 0 (sm_fb V) (sm_fb S) (sm_fo M) (sm_fl M) (sm_fw O) (sm_fw G))) (st1 := [.int (sm_bI false)]) ⟨hx, hb, hml, hown, hts⟩ (c_fails_f l D cZ m0 m1 m2 m3 m4 m5 m6 0 V S M O G 2) (cwV 2 hts (sm_gV (i1 := 266) (i2 := 267) (i3 := 348) (i4 := 2) (i5 := 268) rfl rfl rfl rfl rfl) rfl rfl rfl (by decide +kernel) ⟨Nat.le_of_ble_eq_true rfl, Nat.le_of_ble_eq_true rfl⟩) hK [0] rfl hP hD hS hA 0 rfl rfl [0, 1, 2, 3, 4, 5, 6] [] rfl rfl (by decide) (by decide) (by decide) rfl hl.1 rfl (Nat.le_of_ble_eq_true rfl) dX1_op_53 ⟨Nat.le_of_ble_eq_true rfl, Nat.le_of_ble_eq_true rfl⟩ rfl rfl (fun H locs hP hD hS => ?_)
  refine lv_if_eq (tgt := 60) hx hb dX1_op_56 rfl (fun _ => ?_) (fun z => absurd (by decide) z)
  refine lv_aload_n hx hb dX1_op_60 rfl (lv_at hl 0 rfl) ?_
  refine lv_iload_n hx hb dX1_op_61 rfl (lv_at hl 3 rfl) ?_
  refine sm_callV (C := RX1) (As := [.int (nI a)]) (rest := []) (wr := []) (wn := (sm_wM cZ m0 m1 m2 m3 m4 m5 m6 0 (sm_fb V) (sm_fb S) (sm_fo M) (sm_fl M) (sm_fw O) (sm_fw G))) (st1 := [.int (V a)]) ⟨hx, hb, hml, hown, hts⟩ (c_number l D cZ m0 m1 m2 m3 m4 m5 m6 0 V S M O G a (by omega)) (cwV 1 hts (sm_gV (i1 := 279) (i2 := 280) (i3 := 351) (i4 := 2) (i5 := 281) rfl rfl rfl rfl rfl) rfl rfl rfl (by decide +kernel) ⟨Nat.le_of_ble_eq_true rfl, Nat.le_of_ble_eq_true rfl⟩) hK [0] rfl hP hD hS hA 0 rfl rfl [0, 1, 2, 3, 4, 5, 6] [] rfl rfl (by decide) (by decide) (by decide) rfl hl.1 rfl (Nat.le_of_ble_eq_true rfl) dX1_op_62 ⟨Nat.le_of_ble_eq_true rfl, Nat.le_of_ble_eq_true rfl⟩ rfl rfl (fun H locs hP hD hS => ?_)
  refine lv_istore (lv' := [(5, .int (V a)), (0, .ref m0), (1, .int 4), (2, .int (nI d)), (3, .int (nI a)), (4, .int (nI b))]) hx hb dX1_op_65 hl (by decide) rfl (fun ls hl => ?_)
  refine lv_aload_n hx hb dX1_op_67 rfl (lv_at hl 1 rfl) ?_
  refine lv_iload hx hb dX1_op_68 (lv_at hl 5 rfl) ?_
  refine sm_callV (C := RX1) (As := [.int (nI b)]) (rest := []) (wr := []) (wn := (sm_wM cZ m0 m1 m2 m3 m4 m5 m6 0 (sm_fb V) (sm_fb S) (sm_fo M) (sm_fl M) (sm_fw O) (sm_fw G))) (st1 := [.int (V b)]) ⟨hx, hb, hml, hown, hts⟩ (c_number l D cZ m0 m1 m2 m3 m4 m5 m6 0 V S M O G b (by omega)) (cwV 1 hts (sm_gV (i1 := 279) (i2 := 280) (i3 := 351) (i4 := 2) (i5 := 281) rfl rfl rfl rfl rfl) rfl rfl rfl (by decide +kernel) ⟨Nat.le_of_ble_eq_true rfl, Nat.le_of_ble_eq_true rfl⟩) hK [0] rfl hP hD hS hA 0 rfl rfl [0, 1, 2, 3, 4, 5, 6] [] rfl rfl (by decide) (by decide) (by decide) rfl hl.1 rfl (Nat.le_of_ble_eq_true rfl) dX1_op_70 ⟨Nat.le_of_ble_eq_true rfl, Nat.le_of_ble_eq_true rfl⟩ rfl rfl (fun H locs hP hD hS => ?_)
  refine lv_istore (lv' := [(6, .int (V b)), (5, .int (V a)), (0, .ref m0), (1, .int 4), (2, .int (nI d)), (3, .int (nI a)), (4, .int (nI b))]) hx hb dX1_op_73 hl (by decide) rfl (fun ls hl => ?_)
  refine lv_aload_n hx hb dX1_op_75 rfl (lv_at hl 2 rfl) ?_
  refine lv_iload_n hx hb dX1_op_76 rfl (lv_at hl 5 rfl) ?_
  refine sm_callV (C := RX1) (As := [.int (nI a)]) (rest := []) (wr := []) (wn := (sm_wM cZ m0 m1 m2 m3 m4 m5 m6 0 (sm_fb V) (sm_fb S) (sm_fo M) (sm_fl M) (sm_fw O) (sm_fw G))) (st1 := [.int (nI (sm_tz (S a)))]) ⟨hx, hb, hml, hown, hts⟩ (c_lowest l D cZ m0 m1 m2 m3 m4 m5 m6 0 V S M O G a (by omega)) (cwV 1 hts (sm_gV (i1 := 282) (i2 := 283) (i3 := 352) (i4 := 2) (i5 := 284) rfl rfl rfl rfl rfl) rfl rfl rfl (by decide +kernel) ⟨Nat.le_of_ble_eq_true rfl, Nat.le_of_ble_eq_true rfl⟩) hK [0] rfl hP hD hS hA 0 rfl rfl [0, 1, 2, 3, 4, 5, 6] [] rfl rfl (by decide) (by decide) (by decide) rfl hl.1 rfl (Nat.le_of_ble_eq_true rfl) dX1_op_77 ⟨Nat.le_of_ble_eq_true rfl, Nat.le_of_ble_eq_true rfl⟩ rfl rfl (fun H locs hP hD hS => ?_)
  refine lv_aload_n hx hb dX1_op_80 rfl (lv_at hl 2 rfl) ?_
  refine lv_iload hx hb dX1_op_81 (lv_at hl 6 rfl) ?_
  refine sm_callV (C := RX1) (As := [.int (nI b)]) (rest := [.int (nI (sm_tz (S a)))]) (wr := []) (wn := (sm_wM cZ m0 m1 m2 m3 m4 m5 m6 0 (sm_fb V) (sm_fb S) (sm_fo M) (sm_fl M) (sm_fw O) (sm_fw G))) (st1 := [.int (nI (sm_tz (S b))), .int (nI (sm_tz (S a)))]) ⟨hx, hb, hml, hown, hts⟩ (c_lowest l D cZ m0 m1 m2 m3 m4 m5 m6 0 V S M O G b (by omega)) (cwV 1 hts (sm_gV (i1 := 282) (i2 := 283) (i3 := 352) (i4 := 2) (i5 := 284) rfl rfl rfl rfl rfl) rfl rfl rfl (by decide +kernel) ⟨Nat.le_of_ble_eq_true rfl, Nat.le_of_ble_eq_true rfl⟩) hK [0] rfl hP hD hS hA 0 rfl rfl [0, 1, 2, 3, 4, 5, 6] [] rfl rfl (by decide) (by decide) (by decide) rfl hl.1 rfl (Nat.le_of_ble_eq_true rfl) dX1_op_83 ⟨Nat.le_of_ble_eq_true rfl, Nat.le_of_ble_eq_true rfl⟩ rfl rfl (fun H locs hP hD hS => ?_)
  refine sm_joinH (pcJ := 103) (t := nI (sm_tz (S a ||| S b))) (lv := [(0, .ref m0), (1, .int 4), (2, .int (nI d)), (3, .int (nI a)), (4, .int (nI b)), (5, .int (V a)), (6, .int (V b))]) (w := (sm_wM cZ m0 m1 m2 m3 m4 m5 m6 0 (sm_fb V) (sm_fb S) (sm_fo M) (sm_fl M) (sm_fw O) (sm_fw G))) (rest := []) hl hP hD hS (fun j103 => ?_) (fun H locs ls hl hP hD hS => ?_)
  · refine lv_icmp_ge (tgt := 97) hx hb dX1_op_86 rfl (fun h86 => ?_) (fun h86 => ?_)
    · refine lv_aload_n hx hb dX1_op_97 rfl (lv_at hl 2 rfl) ?_
      refine lv_iload hx hb dX1_op_98 (lv_at hl 6 rfl) ?_
      refine sm_callV (C := RX1) (As := [.int (nI b)]) (rest := []) (wr := []) (wn := (sm_wM cZ m0 m1 m2 m3 m4 m5 m6 0 (sm_fb V) (sm_fb S) (sm_fo M) (sm_fl M) (sm_fw O) (sm_fw G))) (st1 := [.int (nI (sm_tz (S b)))]) ⟨hx, hb, hml, hown, hts⟩ (c_lowest l D cZ m0 m1 m2 m3 m4 m5 m6 0 V S M O G b (by omega)) (cwV 1 hts (sm_gV (i1 := 282) (i2 := 283) (i3 := 352) (i4 := 2) (i5 := 284) rfl rfl rfl rfl rfl) rfl rfl rfl (by decide +kernel) ⟨Nat.le_of_ble_eq_true rfl, Nat.le_of_ble_eq_true rfl⟩) hK [0] rfl hP hD hS hA 0 rfl rfl [0, 1, 2, 3, 4, 5, 6] [] rfl rfl (by decide) (by decide) (by decide) rfl hl.1 rfl (Nat.le_of_ble_eq_true rfl) dX1_op_100 ⟨Nat.le_of_ble_eq_true rfl, Nat.le_of_ble_eq_true rfl⟩ rfl rfl (fun H locs hP hD hS => ?_)
      refine sm_eqi (y := nI (sm_tz (S a ||| S b))) (sm_low2 h86) ?_
      exact j103 _ _ _ (lv_sub hl [2, 3, 4, 5, 6, 1, 0] rfl) hP hD hS
    · refine lv_aload_n hx hb dX1_op_89 rfl (lv_at hl 2 rfl) ?_
      refine lv_iload_n hx hb dX1_op_90 rfl (lv_at hl 5 rfl) ?_
      refine sm_callV (C := RX1) (As := [.int (nI a)]) (rest := []) (wr := []) (wn := (sm_wM cZ m0 m1 m2 m3 m4 m5 m6 0 (sm_fb V) (sm_fb S) (sm_fo M) (sm_fl M) (sm_fw O) (sm_fw G))) (st1 := [.int (nI (sm_tz (S a)))]) ⟨hx, hb, hml, hown, hts⟩ (c_lowest l D cZ m0 m1 m2 m3 m4 m5 m6 0 V S M O G a (by omega)) (cwV 1 hts (sm_gV (i1 := 282) (i2 := 283) (i3 := 352) (i4 := 2) (i5 := 284) rfl rfl rfl rfl rfl) rfl rfl rfl (by decide +kernel) ⟨Nat.le_of_ble_eq_true rfl, Nat.le_of_ble_eq_true rfl⟩) hK [0] rfl hP hD hS hA 0 rfl rfl [0, 1, 2, 3, 4, 5, 6] [] rfl rfl (by decide) (by decide) (by decide) rfl hl.1 rfl (Nat.le_of_ble_eq_true rfl) dX1_op_91 ⟨Nat.le_of_ble_eq_true rfl, Nat.le_of_ble_eq_true rfl⟩ rfl rfl (fun H locs hP hD hS => ?_)
      refine lv_goto (tgt := 103) hx hb dX1_op_94 rfl ?_
      refine sm_eqi (y := nI (sm_tz (S a ||| S b))) (sm_low1 h86) ?_
      exact j103 _ _ _ (lv_sub hl [2, 3, 4, 5, 6, 1, 0] rfl) hP hD hS
  refine lv_istore (lv' := [(7, .int (nI (sm_tz (S a ||| S b)))), (0, .ref m0), (1, .int 4), (2, .int (nI d)), (3, .int (nI a)), (4, .int (nI b)), (5, .int (V a)), (6, .int (V b))]) hx hb dX1_op_103 hl (by decide) rfl (fun ls hl => ?_)
  refine lv_iload_n hx hb dX1_op_105 rfl (lv_at hl 2 rfl) ?_
  refine lv_tableIn (off := 98) (tgt := 204) hx hb dX1_op_106 (by decide) (by decide) (by decide) (by decide) ?_
  refine lv_aload_n hx hb dX1_op_204 rfl (lv_at hl 1 rfl) ?_
  refine lv_iload_n hx hb dX1_op_205 rfl (lv_at hl 2 rfl) ?_
  refine lv_iconst (v := 2) hx hb dX1_op_206 (by decide) ?_
  refine lv_icmp_ne (tgt := 218) hx hb dX1_op_207 rfl (fun _ => ?_) (fun z => absurd z (by decide))
  refine lv_iload_n hx hb dX1_op_218 rfl (lv_at hl 2 rfl) ?_
  refine lv_iconst (v := 3) hx hb dX1_op_219 (by decide) ?_
  refine lv_icmp_ne (tgt := 231) hx hb dX1_op_220 rfl (fun _ => ?_) (fun z => absurd z (by decide))
  refine lv_iload hx hb dX1_op_231 (lv_at hl 6 rfl) ?_
  refine lv_iload hx hb dX1_op_233 (lv_at hl 7 rfl) ?_
  refine lv_ixor hx hb dX1_op_235 ?_
  refine sm_callV (C := RX1) (As := [.int ((V a) ^^^ (V b))]) (rest := []) (wr := []) (wn := (sm_wM cZ m0 m1 m2 m3 m4 m5 m6 0 (sm_fb V) (sm_fb S) (sm_fo M) (sm_fl M) (sm_fw ((V a) ^^^ (V b))) (sm_fw 0))) (st1 := []) ⟨hx, hb, hml, hown, hts⟩ (c_make l D cZ m0 m1 m2 m3 m4 m5 m6 0 V S M O G ((V a) ^^^ (V b))) (cwV 1 hts (sm_gV (i1 := 269) (i2 := 270) (i3 := 349) (i4 := 2) (i5 := 271) rfl rfl rfl rfl rfl) rfl rfl rfl (by decide +kernel) ⟨Nat.le_of_ble_eq_true rfl, Nat.le_of_ble_eq_true rfl⟩) hK [0] rfl hP hD hS hA 0 rfl rfl [0, 1, 2, 3, 4, 5, 6] [] rfl rfl (by decide) (by decide) (by decide) rfl hl.1 rfl (Nat.le_of_ble_eq_true rfl) dX1_op_236 ⟨Nat.le_of_ble_eq_true rfl, Nat.le_of_ble_eq_true rfl⟩ rfl rfl (fun H locs hP hD hS => ?_)
  refine lv_iconst (v := 0) hx hb dX1_op_239 (by decide) ?_
  refine lv_istore (lv' := [(8, .int 0), (7, .int (nI (sm_tz (S a ||| S b)))), (0, .ref m0), (1, .int 4), (2, .int (nI d)), (3, .int (nI a)), (4, .int (nI b)), (5, .int (V a)), (6, .int (V b))]) hx hb dX1_op_240 hl (by decide) rfl (fun ls hl => ?_)
  refine sm_loopW (nL := 11) (lv := fun k => [(0, .ref m0), (1, .int 4), (2, .int (nI d)), (3, .int (nI a)), (4, .int (nI b)), (8, .int (nI k))]) (w := fun k => (sm_wM cZ m0 m1 m2 m3 m4 m5 m6 0 (sm_fb V) (sm_fb S) (sm_fo M) (sm_fl M) (sm_fw (V a ^^^ V b)) (sm_fill (sm_fw 0) (fun i => bt (S a ||| S b) i) 0 k))) 32 (fun H locs ls hl hP hD hS => ?_) (fun k hk ih H locs ls hl hP hD hS => ?_) (lv_sub hl [2, 3, 4, 5, 6, 0] rfl) (sm_cP (by simp only [sm_fill0]) hP) (sm_cD (by simp only [sm_fill0]) hD) hS
  · have hl : lv_has ls 11 [(0, .ref m0), (1, .int 4), (2, .int (nI d)), (3, .int (nI a)), (4, .int (nI b)), (8, .int (nI 32))] := hl
    have hP : va_P D vwCl (sm_wM cZ m0 m1 m2 m3 m4 m5 m6 0 (sm_fb V) (sm_fb S) (sm_fo M) (sm_fl M) (sm_fw (V a ^^^ V b)) (sm_fill (sm_fw 0) (fun i => bt (S a ||| S b) i) 0 32)) H := hP
    have hD : va_D _ (sm_wM cZ m0 m1 m2 m3 m4 m5 m6 0 (sm_fb V) (sm_fb S) (sm_fo M) (sm_fl M) (sm_fw (V a ^^^ V b)) (sm_fill (sm_fw 0) (fun i => bt (S a ||| S b) i) 0 32)) := hD
    refine lv_iload hx hb dX1_op_242 (lv_at hl 5 rfl) ?_
    refine lv_bipush (v := 32) hx hb dX1_op_244 (by decide) ?_
    refine lv_icmp_ge (tgt := 384) hx hb dX1_op_246 rfl (fun _ => ?_) (fun z => absurd (by decide) z)
    have hP : va_P D vwCl (sm_wM cZ m0 m1 m2 m3 m4 m5 m6 0 (sm_fb V) (sm_fb S) (sm_fo M) (sm_fl M) (sm_fw (V a ^^^ V b)) (sm_fw (S a ||| S b))) H := sm_cP (by rw [sm_fill_w, sm_mkx (x := S a ||| S b) (fun _ _ => rfl)]) hP
    have hD : va_D _ (sm_wM cZ m0 m1 m2 m3 m4 m5 m6 0 (sm_fb V) (sm_fb S) (sm_fo M) (sm_fl M) (sm_fw (V a ^^^ V b)) (sm_fw (S a ||| S b))) := sm_cD (by rw [sm_fill_w, sm_mkx (x := S a ||| S b) (fun _ _ => rfl)]) hD
    refine lv_goto (tgt := 778) hx hb dX1_op_384 rfl ?_
    refine lv_aload_n hx hb dX1_op_778 rfl (lv_at hl 0 rfl) ?_
    refine lv_iload_n hx hb dX1_op_779 rfl (lv_at hl 2 rfl) ?_
    refine sm_callV (C := RX1) (As := [.int (nI d)]) (rest := []) (wr := []) (wn := (sm_wM cZ m0 m1 m2 m3 m4 m5 m6 0 (sm_fb (upd V d (V a ^^^ V b))) (sm_fb (upd S d (S a ||| S b))) (sm_fo M) (sm_fl M) (sm_fw (V a ^^^ V b)) (sm_fw (S a ||| S b)))) (st1 := []) ⟨hx, hb, hml, hown, hts⟩ (c_give l D cZ m0 m1 m2 m3 m4 m5 m6 0 V S M (V a ^^^ V b) (S a ||| S b) d (by omega)) (cwV 1 hts (sm_gV (i1 := 272) (i2 := 273) (i3 := 350) (i4 := 2) (i5 := 274) rfl rfl rfl rfl rfl) rfl rfl rfl (by decide +kernel) ⟨Nat.le_of_ble_eq_true rfl, Nat.le_of_ble_eq_true rfl⟩) hK [0] rfl hP hD hS hA 0 rfl rfl [0, 1, 2, 3, 4, 5, 6] [] rfl rfl (by decide) (by decide) (by decide) rfl hl.1 rfl (Nat.le_of_ble_eq_true rfl) dX1_op_780 ⟨Nat.le_of_ble_eq_true rfl, Nat.le_of_ble_eq_true rfl⟩ rfl rfl (fun H locs hP hD hS => ?_)
    exact sm_vret hx hb hrt hlocks hS hP hD dX1_op_783
  · have hl : lv_has ls 11 [(0, .ref m0), (1, .int 4), (2, .int (nI d)), (3, .int (nI a)), (4, .int (nI b)), (8, .int (nI k))] := hl
    have hP : va_P D vwCl (sm_wM cZ m0 m1 m2 m3 m4 m5 m6 0 (sm_fb V) (sm_fb S) (sm_fo M) (sm_fl M) (sm_fw (V a ^^^ V b)) (sm_fill (sm_fw 0) (fun i => bt (S a ||| S b) i) 0 k)) H := hP
    have hD : va_D _ (sm_wM cZ m0 m1 m2 m3 m4 m5 m6 0 (sm_fb V) (sm_fb S) (sm_fo M) (sm_fl M) (sm_fw (V a ^^^ V b)) (sm_fill (sm_fw 0) (fun i => bt (S a ||| S b) i) 0 k)) := hD
    refine lv_iload hx hb dX1_op_242 (lv_at hl 5 rfl) ?_
    refine lv_bipush (v := 32) hx hb dX1_op_244 (by decide) ?_
    refine lv_icmp_ge (tgt := 384) hx hb dX1_op_246 rfl (fun z => absurd z (nI_ge (b := 32) hk (by decide))) (fun _ => ?_)
    refine lv_iload_n hx hb dX1_op_249 rfl (lv_at hl 1 rfl) ?_
    refine lv_iconst (v := 4) hx hb dX1_op_250 (by decide) ?_
    refine lv_icmp_ge (tgt := 288) hx hb dX1_op_251 rfl (fun _ => ?_) (fun z => absurd (by decide) z)
    refine lv_iconst (v := 0) hx hb dX1_op_288 (by decide) ?_
    refine lv_istore (lv' := [(9, .int 0), (0, .ref m0), (1, .int 4), (2, .int (nI d)), (3, .int (nI a)), (4, .int (nI b)), (8, .int (nI k))]) hx hb dX1_op_289 hl (by decide) rfl (fun ls hl => ?_)
    refine lv_iload_n hx hb dX1_op_291 rfl (lv_at hl 2 rfl) ?_
    refine lv_iconst (v := 4) hx hb dX1_op_292 (by decide) ?_
    refine lv_icmp_ge (tgt := 332) hx hb dX1_op_293 rfl (fun _ => ?_) (fun z => absurd (by decide) z)
    refine lv_iconst (v := 0) hx hb dX1_op_332 (by decide) ?_
    refine lv_istore (lv' := [(10, .int 0), (9, .int 0), (0, .ref m0), (1, .int 4), (2, .int (nI d)), (3, .int (nI a)), (4, .int (nI b)), (8, .int (nI k))]) hx hb dX1_op_333 hl (by decide) rfl (fun ls hl => ?_)
    refine lv_aload_n hx hb dX1_op_335 rfl (lv_at hl 2 rfl) ?_
    refine va_get (D := D) (ci := 1) (v := .ref m6) (C := RX1) (T := TX1) (N := 7) hx hb hts inX1 hown hK hP 0 rfl rfl 6 (by decide) (hw 238 rfl) (fun _ h9 => h9) rfl dX1_op_336 ?_
    refine lv_iload hx hb dX1_op_339 (lv_at hl 7 rfl) ?_
    refine lv_aload_n hx hb dX1_op_341 rfl (lv_at hl 2 rfl) ?_
    refine lv_iload_n hx hb dX1_op_342 rfl (lv_at hl 5 rfl) ?_
    refine lv_iload hx hb dX1_op_343 (lv_at hl 7 rfl) ?_
    refine sm_callV (C := RX1) (As := [.int (nI a), .int (nI k)]) (rest := [.int (nI k), .ref m6]) (wr := []) (wn := (sm_wM cZ m0 m1 m2 m3 m4 m5 m6 0 (sm_fb V) (sm_fb S) (sm_fo M) (sm_fl M) (sm_fw (V a ^^^ V b)) (sm_fill (sm_fw 0) (fun i => bt (S a ||| S b) i) 0 k))) (st1 := [.int (sm_bI (bt (S a) k)), .int (nI k), .ref m6]) ⟨hx, hb, hml, hown, hts⟩ (c_un l D cZ m0 m1 m2 m3 m4 m5 m6 0 (sm_fb V) (sm_fo M) (sm_fl M) (sm_fw (V a ^^^ V b)) (sm_fill (sm_fw 0) (fun i => bt (S a ||| S b) i) 0 k) S a k (by omega) (by omega)) (cwV 2 hts (sm_gV (i1 := 285) (i2 := 286) (i3 := 353) (i4 := 2) (i5 := 287) rfl rfl rfl rfl rfl) rfl rfl rfl (by decide +kernel) ⟨Nat.le_of_ble_eq_true rfl, Nat.le_of_ble_eq_true rfl⟩) hK [0] rfl hP hD hS hA 0 rfl rfl [0, 1, 2, 3, 4, 5, 6] [] rfl rfl (by decide) (by decide) (by decide) rfl hl.1 rfl (Nat.le_of_ble_eq_true rfl) dX1_op_345 ⟨Nat.le_of_ble_eq_true rfl, Nat.le_of_ble_eq_true rfl⟩ rfl rfl (fun H locs hP hD hS => ?_)
    refine sm_ifb_ne (tgt := 362) hx hb dX1_op_348 rfl (fun h348 => ?_) (fun h348 => ?_)
    · refine lv_iload hx hb dX1_op_362 (lv_at hl 1 rfl) ?_
      refine lv_if_ne (tgt := 376) hx hb dX1_op_364 rfl (fun z => absurd (by decide) z) (fun _ => ?_)
      refine lv_iload hx hb dX1_op_367 (lv_at hl 0 rfl) ?_
      refine lv_if_ne (tgt := 376) hx hb dX1_op_369 rfl (fun z => absurd (by decide) z) (fun _ => ?_)
      refine lv_iconst (v := 1) hx hb dX1_op_372 (by decide) ?_
      refine lv_goto (tgt := 377) hx hb dX1_op_373 rfl ?_
      refine sm_eqi (y := sm_bI (bt (S a ||| S b) k)) (by rw [sm_gb4 0 0 _ _ hk]; revert h348; cases bt (S a) k <;> cases bt (V a) k <;> cases bt (S b) k <;> cases bt (V b) k <;> decide) ?_
      refine sm_zast (f' := sm_fill (sm_fw 0) (fun i => bt (S a ||| S b) i) 0 (k + 1)) (ws' := (sm_wM cZ m0 m1 m2 m3 m4 m5 m6 0 (sm_fb V) (sm_fb S) (sm_fo M) (sm_fl M) (sm_fw (V a ^^^ V b)) (sm_fill (sm_fw 0) (fun i => bt (S a ||| S b) i) 0 (k + 1)))) hx hb hK hP hD hS 6 0 rfl rfl (vp_in_nI (n := k) (by omega) (by decide)) dX1_op_377 (by rw [nI_clamp (by omega)]; exact sm_fillS0 (sm_fw 0) (fun i => bt (S a ||| S b) i) k) rfl (fun H locs hP hD hS => ?_)
      refine lv_iinc (k := 7) (v := nI (k + 1)) (lv' := [(8, .int (nI (k + 1))), (10, .int 0), (9, .int 0), (0, .ref m0), (1, .int 4), (2, .int (nI d)), (3, .int (nI a)), (4, .int (nI b))]) hx hb dX1_op_378 hl rfl (sm_inc k) (by decide) rfl (fun ls hl => ?_)
      refine lv_goto (tgt := 242) hx hb dX1_op_381 rfl ?_
      exact ih _ _ _ (lv_sub hl [3, 4, 5, 6, 7, 0] rfl) (sm_cP (rfl) hP) (sm_cD (rfl) hD) hS
    · refine lv_aload_n hx hb dX1_op_351 rfl (lv_at hl 2 rfl) ?_
      refine lv_iload hx hb dX1_op_352 (lv_at hl 6 rfl) ?_
      refine lv_iload hx hb dX1_op_354 (lv_at hl 7 rfl) ?_
      refine sm_callV (C := RX1) (As := [.int (nI b), .int (nI k)]) (rest := [.int (nI k), .ref m6]) (wr := []) (wn := (sm_wM cZ m0 m1 m2 m3 m4 m5 m6 0 (sm_fb V) (sm_fb S) (sm_fo M) (sm_fl M) (sm_fw (V a ^^^ V b)) (sm_fill (sm_fw 0) (fun i => bt (S a ||| S b) i) 0 k))) (st1 := [.int (sm_bI (bt (S b) k)), .int (nI k), .ref m6]) ⟨hx, hb, hml, hown, hts⟩ (c_un l D cZ m0 m1 m2 m3 m4 m5 m6 0 (sm_fb V) (sm_fo M) (sm_fl M) (sm_fw (V a ^^^ V b)) (sm_fill (sm_fw 0) (fun i => bt (S a ||| S b) i) 0 k) S b k (by omega) (by omega)) (cwV 2 hts (sm_gV (i1 := 285) (i2 := 286) (i3 := 353) (i4 := 2) (i5 := 287) rfl rfl rfl rfl rfl) rfl rfl rfl (by decide +kernel) ⟨Nat.le_of_ble_eq_true rfl, Nat.le_of_ble_eq_true rfl⟩) hK [0] rfl hP hD hS hA 0 rfl rfl [0, 1, 2, 3, 4, 5, 6] [] rfl rfl (by decide) (by decide) (by decide) rfl hl.1 rfl (Nat.le_of_ble_eq_true rfl) dX1_op_356 ⟨Nat.le_of_ble_eq_true rfl, Nat.le_of_ble_eq_true rfl⟩ rfl rfl (fun H locs hP hD hS => ?_)
      refine sm_ifb_eq (tgt := 376) hx hb dX1_op_359 rfl (fun h359 => ?_) (fun h359 => ?_)
      · refine lv_iconst (v := 0) hx hb dX1_op_376 (by decide) ?_
        refine sm_eqi (y := sm_bI (bt (S a ||| S b) k)) (by rw [sm_gb4 0 0 _ _ hk]; revert h348 h359; cases bt (S a) k <;> cases bt (V a) k <;> cases bt (S b) k <;> cases bt (V b) k <;> decide) ?_
        refine sm_zast (f' := sm_fill (sm_fw 0) (fun i => bt (S a ||| S b) i) 0 (k + 1)) (ws' := (sm_wM cZ m0 m1 m2 m3 m4 m5 m6 0 (sm_fb V) (sm_fb S) (sm_fo M) (sm_fl M) (sm_fw (V a ^^^ V b)) (sm_fill (sm_fw 0) (fun i => bt (S a ||| S b) i) 0 (k + 1)))) hx hb hK hP hD hS 6 0 rfl rfl (vp_in_nI (n := k) (by omega) (by decide)) dX1_op_377 (by rw [nI_clamp (by omega)]; exact sm_fillS0 (sm_fw 0) (fun i => bt (S a ||| S b) i) k) rfl (fun H locs hP hD hS => ?_)
        refine lv_iinc (k := 7) (v := nI (k + 1)) (lv' := [(8, .int (nI (k + 1))), (10, .int 0), (9, .int 0), (0, .ref m0), (1, .int 4), (2, .int (nI d)), (3, .int (nI a)), (4, .int (nI b))]) hx hb dX1_op_378 hl rfl (sm_inc k) (by decide) rfl (fun ls hl => ?_)
        refine lv_goto (tgt := 242) hx hb dX1_op_381 rfl ?_
        exact ih _ _ _ (lv_sub hl [3, 4, 5, 6, 7, 0] rfl) (sm_cP (rfl) hP) (sm_cD (rfl) hD) hS
      · refine lv_iload hx hb dX1_op_362 (lv_at hl 1 rfl) ?_
        refine lv_if_ne (tgt := 376) hx hb dX1_op_364 rfl (fun z => absurd (by decide) z) (fun _ => ?_)
        refine lv_iload hx hb dX1_op_367 (lv_at hl 0 rfl) ?_
        refine lv_if_ne (tgt := 376) hx hb dX1_op_369 rfl (fun z => absurd (by decide) z) (fun _ => ?_)
        refine lv_iconst (v := 1) hx hb dX1_op_372 (by decide) ?_
        refine lv_goto (tgt := 377) hx hb dX1_op_373 rfl ?_
        refine sm_eqi (y := sm_bI (bt (S a ||| S b) k)) (by rw [sm_gb4 0 0 _ _ hk]; revert h348 h359; cases bt (S a) k <;> cases bt (V a) k <;> cases bt (S b) k <;> cases bt (V b) k <;> decide) ?_
        refine sm_zast (f' := sm_fill (sm_fw 0) (fun i => bt (S a ||| S b) i) 0 (k + 1)) (ws' := (sm_wM cZ m0 m1 m2 m3 m4 m5 m6 0 (sm_fb V) (sm_fb S) (sm_fo M) (sm_fl M) (sm_fw (V a ^^^ V b)) (sm_fill (sm_fw 0) (fun i => bt (S a ||| S b) i) 0 (k + 1)))) hx hb hK hP hD hS 6 0 rfl rfl (vp_in_nI (n := k) (by omega) (by decide)) dX1_op_377 (by rw [nI_clamp (by omega)]; exact sm_fillS0 (sm_fw 0) (fun i => bt (S a ||| S b) i) k) rfl (fun H locs hP hD hS => ?_)
        refine lv_iinc (k := 7) (v := nI (k + 1)) (lv' := [(8, .int (nI (k + 1))), (10, .int 0), (9, .int 0), (0, .ref m0), (1, .int 4), (2, .int (nI d)), (3, .int (nI a)), (4, .int (nI b))]) hx hb dX1_op_378 hl rfl (sm_inc k) (by decide) rfl (fun ls hl => ?_)
        refine lv_goto (tgt := 242) hx hb dX1_op_381 rfl ?_
        exact ih _ _ _ (lv_sub hl [3, 4, 5, 6, 7, 0] rfl) (sm_cP (rfl) hP) (sm_cD (rfl) hD) hS
set_option maxHeartbeats 4000000 in
set_option maxRecDepth 100000 in
theorem c_mop_5 (l : Launch) (D : va_G) (cZ : ClassId) (m0 m1 m2 m3 m4 m5 m6 : Nat) (err : Int32) (V S M : Nat → Int32) (O G : Int32) (d a b : Nat) (hd : d < 16) (ha : a < 16) (hb' : b < 16) (n : Nat) (hn : n < 32) (hy : V b &&& 31 = nI n) : sm_C l yX1_op wsX1_op ({ frames := 5, cells := 0, slots := 0, locals := 140 } : Room) D vwCl [(cZ, .boolean)] [.ref m0, .int 5, .int (nI d), .int (nI a), .int (nI b)] (sm_wM cZ m0 m1 m2 m3 m4 m5 m6 err (sm_fb V) (sm_fb S) (sm_fo M) (sm_fl M) (sm_fw O) (sm_fw G)) none (sm_wM cZ m0 m1 m2 m3 m4 m5 m6 0 (sm_fb (upd V d (V a <<< (nI n &&& 31)))) (sm_fb (upd S d (if S b &&& 31 = 0 then S a <<< (nI n &&& 31) else (-1)))) (sm_fo M) (sm_fl M) (sm_fw (V a <<< (nI n &&& 31))) (sm_fw (if S b &&& 31 = 0 then S a <<< (nI n &&& 31) else (-1)))) := by
  refine sm_start (cc := cX1_op) (maxL := 11) (ret := none) (lv := [(0, .ref m0), (1, .int 5), (2, .int (nI d)), (3, .int (nI a)), (4, .int (nI b))]) (by decide) rfl (Nat.le_of_ble_eq_true rfl) rfl ?_
  intro p e s m below meth c hx hb hrt hts hown hlocks hml hin hK hP hD hS hA ls hl
  have hw := sm_hw hts
  have q5 := sm_tz_le (S a ||| S b)
  have q1 := sm_tz_le (S a)
  have q2 := sm_tz_le (S b)
  have q3 := sm_tz_le (V b ||| S b)
  have q4 := sm_tz_le (V a ||| S a)
  refine lv_aload_n hx hb dX1_op_0 rfl (lv_at hl 0 rfl) ?_
  refine lv_iload_n hx hb dX1_op_1 rfl (lv_at hl 1 rfl) ?_
  refine lv_if_lt (tgt := 11) hx hb dX1_op_2 rfl (fun z => absurd z (by decide)) (fun _ => ?_)
  refine lv_iload_n hx hb dX1_op_5 rfl (lv_at hl 1 rfl) ?_
  refine lv_bipush (v := 12) hx hb dX1_op_6 (by decide) ?_
  refine lv_icmp_le (tgt := 15) hx hb dX1_op_8 rfl (fun _ => ?_) (fun z => absurd (by decide) z)
  refine lv_iconst (v := 0) hx hb dX1_op_15 (by decide) ?_
  refine lv_iconst (v := 1) hx hb dX1_op_16 (by decide) ?_
  refine sm_callV (C := RX1) (As := [.int (sm_bI false), .int 1]) (rest := []) (wr := []) (wn := (sm_wM cZ m0 m1 m2 m3 m4 m5 m6 0 (sm_fb V) (sm_fb S) (sm_fo M) (sm_fl M) (sm_fw O) (sm_fw G))) (st1 := [.int (sm_bI false)]) ⟨hx, hb, hml, hown, hts⟩ (c_fails_f l D cZ m0 m1 m2 m3 m4 m5 m6 err V S M O G 1) (cwV 2 hts (sm_gV (i1 := 266) (i2 := 267) (i3 := 348) (i4 := 2) (i5 := 268) rfl rfl rfl rfl rfl) rfl rfl rfl (by decide +kernel) ⟨Nat.le_of_ble_eq_true rfl, Nat.le_of_ble_eq_true rfl⟩) hK [0] rfl hP hD hS hA 0 rfl rfl [0, 1, 2, 3, 4, 5, 6] [] rfl rfl (by decide) (by decide) (by decide) rfl hl.1 rfl (Nat.le_of_ble_eq_true rfl) dX1_op_17 ⟨Nat.le_of_ble_eq_true rfl, Nat.le_of_ble_eq_true rfl⟩ rfl rfl (fun H locs hP hD hS => ?_)
  refine lv_if_eq (tgt := 24) hx hb dX1_op_20 rfl (fun _ => ?_) (fun z => absurd (by decide) z)
  refine lv_aload_n hx hb dX1_op_24 rfl (lv_at hl 0 rfl) ?_
  refine lv_iload_n hx hb dX1_op_25 rfl (lv_at hl 2 rfl) ?_
  refine sm_callS (As := [.int (nI d)]) (rest := [.ref m0]) (wr := (sm_wM cZ m0 m1 m2 m3 m4 m5 m6 0 (sm_fb V) (sm_fb S) (sm_fo M) (sm_fl M) (sm_fw O) (sm_fw G))) (wn := (sm_wM cZ m0 m1 m2 m3 m4 m5 m6 0 (sm_fb V) (sm_fb S) (sm_fo M) (sm_fl M) (sm_fw O) (sm_fw G))) (st1 := [.int (sm_bI false), .ref m0]) ⟨hx, hb, hml, hown, hts⟩ (c_none_f l D d (by omega)) (va_cwS 1 hts (sm_gS (i1 := 263) (i2 := 264) (i4 := 2) (i5 := 265) rfl rfl rfl rfl) rfl rfl rfl (by decide +kernel) ⟨Nat.le_of_ble_eq_true rfl, Nat.le_of_ble_eq_true rfl⟩) hK [] rfl hP hD hS hA [] [0, 1, 2, 3, 4, 5, 6] rfl rfl (by decide) (by decide) (by decide) rfl hl.1 rfl (Nat.le_of_ble_eq_true rfl) dX1_op_26 ⟨Nat.le_of_ble_eq_true rfl, Nat.le_of_ble_eq_true rfl⟩ rfl rfl (fun H locs hP hD hS => ?_)
  refine lv_if_ne (tgt := 47) hx hb dX1_op_29 rfl (fun z => absurd (by decide) z) (fun _ => ?_)
  refine lv_iload_n hx hb dX1_op_32 rfl (lv_at hl 3 rfl) ?_
  refine sm_callS (As := [.int (nI a)]) (rest := [.ref m0]) (wr := (sm_wM cZ m0 m1 m2 m3 m4 m5 m6 0 (sm_fb V) (sm_fb S) (sm_fo M) (sm_fl M) (sm_fw O) (sm_fw G))) (wn := (sm_wM cZ m0 m1 m2 m3 m4 m5 m6 0 (sm_fb V) (sm_fb S) (sm_fo M) (sm_fl M) (sm_fw O) (sm_fw G))) (st1 := [.int (sm_bI false), .ref m0]) ⟨hx, hb, hml, hown, hts⟩ (c_none_f l D a (by omega)) (va_cwS 1 hts (sm_gS (i1 := 263) (i2 := 264) (i4 := 2) (i5 := 265) rfl rfl rfl rfl) rfl rfl rfl (by decide +kernel) ⟨Nat.le_of_ble_eq_true rfl, Nat.le_of_ble_eq_true rfl⟩) hK [] rfl hP hD hS hA [] [0, 1, 2, 3, 4, 5, 6] rfl rfl (by decide) (by decide) (by decide) rfl hl.1 rfl (Nat.le_of_ble_eq_true rfl) dX1_op_33 ⟨Nat.le_of_ble_eq_true rfl, Nat.le_of_ble_eq_true rfl⟩ rfl rfl (fun H locs hP hD hS => ?_)
  refine lv_if_ne (tgt := 47) hx hb dX1_op_36 rfl (fun z => absurd (by decide) z) (fun _ => ?_)
  refine lv_iload hx hb dX1_op_39 (lv_at hl 4 rfl) ?_
  refine sm_callS (As := [.int (nI b)]) (rest := [.ref m0]) (wr := (sm_wM cZ m0 m1 m2 m3 m4 m5 m6 0 (sm_fb V) (sm_fb S) (sm_fo M) (sm_fl M) (sm_fw O) (sm_fw G))) (wn := (sm_wM cZ m0 m1 m2 m3 m4 m5 m6 0 (sm_fb V) (sm_fb S) (sm_fo M) (sm_fl M) (sm_fw O) (sm_fw G))) (st1 := [.int (sm_bI false), .ref m0]) ⟨hx, hb, hml, hown, hts⟩ (c_none_f l D b (by omega)) (va_cwS 1 hts (sm_gS (i1 := 263) (i2 := 264) (i4 := 2) (i5 := 265) rfl rfl rfl rfl) rfl rfl rfl (by decide +kernel) ⟨Nat.le_of_ble_eq_true rfl, Nat.le_of_ble_eq_true rfl⟩) hK [] rfl hP hD hS hA [] [0, 1, 2, 3, 4, 5, 6] rfl rfl (by decide) (by decide) (by decide) rfl hl.1 rfl (Nat.le_of_ble_eq_true rfl) dX1_op_41 ⟨Nat.le_of_ble_eq_true rfl, Nat.le_of_ble_eq_true rfl⟩ rfl rfl (fun H locs hP hD hS => ?_)
  refine lv_if_eq (tgt := 51) hx hb dX1_op_44 rfl (fun _ => ?_) (fun z => absurd (by decide) z)
  refine lv_iconst (v := 0) hx hb dX1_op_51 (by decide) ?_
  refine lv_iconst (v := 2) hx hb dX1_op_52 (by decide) ?_
  refine sm_callV (C := RX1) (As := [.int (sm_bI false), .int 2]) (rest := []) (wr := []) (wn := (sm_wM cZ m0 m1 m2 m3 m4 m5 m6 0 (sm_fb V) (sm_fb S) (sm_fo M) (sm_fl M) (sm_fw O) (sm_fw G))) (st1 := [.int (sm_bI false)]) ⟨hx, hb, hml, hown, hts⟩ (c_fails_f l D cZ m0 m1 m2 m3 m4 m5 m6 0 V S M O G 2) (cwV 2 hts (sm_gV (i1 := 266) (i2 := 267) (i3 := 348) (i4 := 2) (i5 := 268) rfl rfl rfl rfl rfl) rfl rfl rfl (by decide +kernel) ⟨Nat.le_of_ble_eq_true rfl, Nat.le_of_ble_eq_true rfl⟩) hK [0] rfl hP hD hS hA 0 rfl rfl [0, 1, 2, 3, 4, 5, 6] [] rfl rfl (by decide) (by decide) (by decide) rfl hl.1 rfl (Nat.le_of_ble_eq_true rfl) dX1_op_53 ⟨Nat.le_of_ble_eq_true rfl, Nat.le_of_ble_eq_true rfl⟩ rfl rfl (fun H locs hP hD hS => ?_)
  refine lv_if_eq (tgt := 60) hx hb dX1_op_56 rfl (fun _ => ?_) (fun z => absurd (by decide) z)
  refine lv_aload_n hx hb dX1_op_60 rfl (lv_at hl 0 rfl) ?_
  refine lv_iload_n hx hb dX1_op_61 rfl (lv_at hl 3 rfl) ?_
  refine sm_callV (C := RX1) (As := [.int (nI a)]) (rest := []) (wr := []) (wn := (sm_wM cZ m0 m1 m2 m3 m4 m5 m6 0 (sm_fb V) (sm_fb S) (sm_fo M) (sm_fl M) (sm_fw O) (sm_fw G))) (st1 := [.int (V a)]) ⟨hx, hb, hml, hown, hts⟩ (c_number l D cZ m0 m1 m2 m3 m4 m5 m6 0 V S M O G a (by omega)) (cwV 1 hts (sm_gV (i1 := 279) (i2 := 280) (i3 := 351) (i4 := 2) (i5 := 281) rfl rfl rfl rfl rfl) rfl rfl rfl (by decide +kernel) ⟨Nat.le_of_ble_eq_true rfl, Nat.le_of_ble_eq_true rfl⟩) hK [0] rfl hP hD hS hA 0 rfl rfl [0, 1, 2, 3, 4, 5, 6] [] rfl rfl (by decide) (by decide) (by decide) rfl hl.1 rfl (Nat.le_of_ble_eq_true rfl) dX1_op_62 ⟨Nat.le_of_ble_eq_true rfl, Nat.le_of_ble_eq_true rfl⟩ rfl rfl (fun H locs hP hD hS => ?_)
  refine lv_istore (lv' := [(5, .int (V a)), (0, .ref m0), (1, .int 5), (2, .int (nI d)), (3, .int (nI a)), (4, .int (nI b))]) hx hb dX1_op_65 hl (by decide) rfl (fun ls hl => ?_)
  refine lv_aload_n hx hb dX1_op_67 rfl (lv_at hl 1 rfl) ?_
  refine lv_iload hx hb dX1_op_68 (lv_at hl 5 rfl) ?_
  refine sm_callV (C := RX1) (As := [.int (nI b)]) (rest := []) (wr := []) (wn := (sm_wM cZ m0 m1 m2 m3 m4 m5 m6 0 (sm_fb V) (sm_fb S) (sm_fo M) (sm_fl M) (sm_fw O) (sm_fw G))) (st1 := [.int (V b)]) ⟨hx, hb, hml, hown, hts⟩ (c_number l D cZ m0 m1 m2 m3 m4 m5 m6 0 V S M O G b (by omega)) (cwV 1 hts (sm_gV (i1 := 279) (i2 := 280) (i3 := 351) (i4 := 2) (i5 := 281) rfl rfl rfl rfl rfl) rfl rfl rfl (by decide +kernel) ⟨Nat.le_of_ble_eq_true rfl, Nat.le_of_ble_eq_true rfl⟩) hK [0] rfl hP hD hS hA 0 rfl rfl [0, 1, 2, 3, 4, 5, 6] [] rfl rfl (by decide) (by decide) (by decide) rfl hl.1 rfl (Nat.le_of_ble_eq_true rfl) dX1_op_70 ⟨Nat.le_of_ble_eq_true rfl, Nat.le_of_ble_eq_true rfl⟩ rfl rfl (fun H locs hP hD hS => ?_)
  refine lv_istore (lv' := [(6, .int (V b)), (5, .int (V a)), (0, .ref m0), (1, .int 5), (2, .int (nI d)), (3, .int (nI a)), (4, .int (nI b))]) hx hb dX1_op_73 hl (by decide) rfl (fun ls hl => ?_)
  refine lv_aload_n hx hb dX1_op_75 rfl (lv_at hl 2 rfl) ?_
  refine lv_iload_n hx hb dX1_op_76 rfl (lv_at hl 5 rfl) ?_
  refine sm_callV (C := RX1) (As := [.int (nI a)]) (rest := []) (wr := []) (wn := (sm_wM cZ m0 m1 m2 m3 m4 m5 m6 0 (sm_fb V) (sm_fb S) (sm_fo M) (sm_fl M) (sm_fw O) (sm_fw G))) (st1 := [.int (nI (sm_tz (S a)))]) ⟨hx, hb, hml, hown, hts⟩ (c_lowest l D cZ m0 m1 m2 m3 m4 m5 m6 0 V S M O G a (by omega)) (cwV 1 hts (sm_gV (i1 := 282) (i2 := 283) (i3 := 352) (i4 := 2) (i5 := 284) rfl rfl rfl rfl rfl) rfl rfl rfl (by decide +kernel) ⟨Nat.le_of_ble_eq_true rfl, Nat.le_of_ble_eq_true rfl⟩) hK [0] rfl hP hD hS hA 0 rfl rfl [0, 1, 2, 3, 4, 5, 6] [] rfl rfl (by decide) (by decide) (by decide) rfl hl.1 rfl (Nat.le_of_ble_eq_true rfl) dX1_op_77 ⟨Nat.le_of_ble_eq_true rfl, Nat.le_of_ble_eq_true rfl⟩ rfl rfl (fun H locs hP hD hS => ?_)
  refine lv_aload_n hx hb dX1_op_80 rfl (lv_at hl 2 rfl) ?_
  refine lv_iload hx hb dX1_op_81 (lv_at hl 6 rfl) ?_
  refine sm_callV (C := RX1) (As := [.int (nI b)]) (rest := [.int (nI (sm_tz (S a)))]) (wr := []) (wn := (sm_wM cZ m0 m1 m2 m3 m4 m5 m6 0 (sm_fb V) (sm_fb S) (sm_fo M) (sm_fl M) (sm_fw O) (sm_fw G))) (st1 := [.int (nI (sm_tz (S b))), .int (nI (sm_tz (S a)))]) ⟨hx, hb, hml, hown, hts⟩ (c_lowest l D cZ m0 m1 m2 m3 m4 m5 m6 0 V S M O G b (by omega)) (cwV 1 hts (sm_gV (i1 := 282) (i2 := 283) (i3 := 352) (i4 := 2) (i5 := 284) rfl rfl rfl rfl rfl) rfl rfl rfl (by decide +kernel) ⟨Nat.le_of_ble_eq_true rfl, Nat.le_of_ble_eq_true rfl⟩) hK [0] rfl hP hD hS hA 0 rfl rfl [0, 1, 2, 3, 4, 5, 6] [] rfl rfl (by decide) (by decide) (by decide) rfl hl.1 rfl (Nat.le_of_ble_eq_true rfl) dX1_op_83 ⟨Nat.le_of_ble_eq_true rfl, Nat.le_of_ble_eq_true rfl⟩ rfl rfl (fun H locs hP hD hS => ?_)
  refine sm_joinH (pcJ := 103) (t := nI (sm_tz (S a ||| S b))) (lv := [(0, .ref m0), (1, .int 5), (2, .int (nI d)), (3, .int (nI a)), (4, .int (nI b)), (5, .int (V a)), (6, .int (V b))]) (w := (sm_wM cZ m0 m1 m2 m3 m4 m5 m6 0 (sm_fb V) (sm_fb S) (sm_fo M) (sm_fl M) (sm_fw O) (sm_fw G))) (rest := []) hl hP hD hS (fun j103 => ?_) (fun H locs ls hl hP hD hS => ?_)
  · refine lv_icmp_ge (tgt := 97) hx hb dX1_op_86 rfl (fun h86 => ?_) (fun h86 => ?_)
    · refine lv_aload_n hx hb dX1_op_97 rfl (lv_at hl 2 rfl) ?_
      refine lv_iload hx hb dX1_op_98 (lv_at hl 6 rfl) ?_
      refine sm_callV (C := RX1) (As := [.int (nI b)]) (rest := []) (wr := []) (wn := (sm_wM cZ m0 m1 m2 m3 m4 m5 m6 0 (sm_fb V) (sm_fb S) (sm_fo M) (sm_fl M) (sm_fw O) (sm_fw G))) (st1 := [.int (nI (sm_tz (S b)))]) ⟨hx, hb, hml, hown, hts⟩ (c_lowest l D cZ m0 m1 m2 m3 m4 m5 m6 0 V S M O G b (by omega)) (cwV 1 hts (sm_gV (i1 := 282) (i2 := 283) (i3 := 352) (i4 := 2) (i5 := 284) rfl rfl rfl rfl rfl) rfl rfl rfl (by decide +kernel) ⟨Nat.le_of_ble_eq_true rfl, Nat.le_of_ble_eq_true rfl⟩) hK [0] rfl hP hD hS hA 0 rfl rfl [0, 1, 2, 3, 4, 5, 6] [] rfl rfl (by decide) (by decide) (by decide) rfl hl.1 rfl (Nat.le_of_ble_eq_true rfl) dX1_op_100 ⟨Nat.le_of_ble_eq_true rfl, Nat.le_of_ble_eq_true rfl⟩ rfl rfl (fun H locs hP hD hS => ?_)
      refine sm_eqi (y := nI (sm_tz (S a ||| S b))) (sm_low2 h86) ?_
      exact j103 _ _ _ (lv_sub hl [2, 3, 4, 5, 6, 1, 0] rfl) hP hD hS
    · refine lv_aload_n hx hb dX1_op_89 rfl (lv_at hl 2 rfl) ?_
      refine lv_iload_n hx hb dX1_op_90 rfl (lv_at hl 5 rfl) ?_
      refine sm_callV (C := RX1) (As := [.int (nI a)]) (rest := []) (wr := []) (wn := (sm_wM cZ m0 m1 m2 m3 m4 m5 m6 0 (sm_fb V) (sm_fb S) (sm_fo M) (sm_fl M) (sm_fw O) (sm_fw G))) (st1 := [.int (nI (sm_tz (S a)))]) ⟨hx, hb, hml, hown, hts⟩ (c_lowest l D cZ m0 m1 m2 m3 m4 m5 m6 0 V S M O G a (by omega)) (cwV 1 hts (sm_gV (i1 := 282) (i2 := 283) (i3 := 352) (i4 := 2) (i5 := 284) rfl rfl rfl rfl rfl) rfl rfl rfl (by decide +kernel) ⟨Nat.le_of_ble_eq_true rfl, Nat.le_of_ble_eq_true rfl⟩) hK [0] rfl hP hD hS hA 0 rfl rfl [0, 1, 2, 3, 4, 5, 6] [] rfl rfl (by decide) (by decide) (by decide) rfl hl.1 rfl (Nat.le_of_ble_eq_true rfl) dX1_op_91 ⟨Nat.le_of_ble_eq_true rfl, Nat.le_of_ble_eq_true rfl⟩ rfl rfl (fun H locs hP hD hS => ?_)
      refine lv_goto (tgt := 103) hx hb dX1_op_94 rfl ?_
      refine sm_eqi (y := nI (sm_tz (S a ||| S b))) (sm_low1 h86) ?_
      exact j103 _ _ _ (lv_sub hl [2, 3, 4, 5, 6, 1, 0] rfl) hP hD hS
  refine lv_istore (lv' := [(7, .int (nI (sm_tz (S a ||| S b)))), (0, .ref m0), (1, .int 5), (2, .int (nI d)), (3, .int (nI a)), (4, .int (nI b)), (5, .int (V a)), (6, .int (V b))]) hx hb dX1_op_103 hl (by decide) rfl (fun ls hl => ?_)
  refine lv_iload_n hx hb dX1_op_105 rfl (lv_at hl 2 rfl) ?_
  refine lv_tableIn (off := 281) (tgt := 387) hx hb dX1_op_106 (by decide) (by decide) (by decide) (by decide) ?_
  refine lv_aload_n hx hb dX1_op_387 rfl (lv_at hl 1 rfl) ?_
  refine lv_iload_n hx hb dX1_op_388 rfl (lv_at hl 2 rfl) ?_
  refine lv_iload_n hx hb dX1_op_389 rfl (lv_at hl 4 rfl) ?_
  refine lv_iload hx hb dX1_op_390 (lv_at hl 5 rfl) ?_
  refine lv_iload hx hb dX1_op_392 (lv_at hl 7 rfl) ?_
  refine lv_bipush (v := 31) hx hb dX1_op_394 (by decide) ?_
  refine lv_iand hx hb dX1_op_396 ?_
  refine sm_eqi (y := nI n) (hy) ?_
  refine sm_callV (C := RX1) (As := [.int 5, .int (nI a), .int (nI b), .int (nI n)]) (rest := []) (wr := []) (wn := (sm_wM cZ m0 m1 m2 m3 m4 m5 m6 0 (sm_fb V) (sm_fb S) (sm_fo M) (sm_fl M) (sm_fw (V a <<< (nI n &&& 31))) (sm_fw (if S b &&& 31 = 0 then S a <<< (nI n &&& 31) else (-1))))) (st1 := []) ⟨hx, hb, hml, hown, hts⟩ (c_shift_5 l D cZ m0 m1 m2 m3 m4 m5 m6 0 V S M O G a b n ha hb' hn) (cwV 4 hts (sm_gV (i1 := 294) (i2 := 295) (i3 := 356) (i4 := 2) (i5 := 296) rfl rfl rfl rfl rfl) rfl rfl rfl (by decide +kernel) ⟨Nat.le_of_ble_eq_true rfl, Nat.le_of_ble_eq_true rfl⟩) hK [0] rfl hP hD hS hA 0 rfl rfl [0, 1, 2, 3, 4, 5, 6] [] rfl rfl (by decide) (by decide) (by decide) rfl hl.1 rfl (Nat.le_of_ble_eq_true rfl) dX1_op_397 ⟨Nat.le_of_ble_eq_true rfl, Nat.le_of_ble_eq_true rfl⟩ rfl rfl (fun H locs hP hD hS => ?_)
  refine lv_goto (tgt := 778) hx hb dX1_op_400 rfl ?_
  refine lv_aload_n hx hb dX1_op_778 rfl (lv_at hl 1 rfl) ?_
  refine lv_iload_n hx hb dX1_op_779 rfl (lv_at hl 3 rfl) ?_
  refine sm_callV (C := RX1) (As := [.int (nI d)]) (rest := []) (wr := []) (wn := (sm_wM cZ m0 m1 m2 m3 m4 m5 m6 0 (sm_fb (upd V d (V a <<< (nI n &&& 31)))) (sm_fb (upd S d (if S b &&& 31 = 0 then S a <<< (nI n &&& 31) else (-1)))) (sm_fo M) (sm_fl M) (sm_fw (V a <<< (nI n &&& 31))) (sm_fw (if S b &&& 31 = 0 then S a <<< (nI n &&& 31) else (-1))))) (st1 := []) ⟨hx, hb, hml, hown, hts⟩ (c_give l D cZ m0 m1 m2 m3 m4 m5 m6 0 V S M (V a <<< (nI n &&& 31)) (if S b &&& 31 = 0 then S a <<< (nI n &&& 31) else (-1)) d (by omega)) (cwV 1 hts (sm_gV (i1 := 272) (i2 := 273) (i3 := 350) (i4 := 2) (i5 := 274) rfl rfl rfl rfl rfl) rfl rfl rfl (by decide +kernel) ⟨Nat.le_of_ble_eq_true rfl, Nat.le_of_ble_eq_true rfl⟩) hK [0] rfl hP hD hS hA 0 rfl rfl [0, 1, 2, 3, 4, 5, 6] [] rfl rfl (by decide) (by decide) (by decide) rfl hl.1 rfl (Nat.le_of_ble_eq_true rfl) dX1_op_780 ⟨Nat.le_of_ble_eq_true rfl, Nat.le_of_ble_eq_true rfl⟩ rfl rfl (fun H locs hP hD hS => ?_)
  exact sm_vret hx hb hrt hlocks hS hP hD dX1_op_783
set_option maxHeartbeats 4000000 in
set_option maxRecDepth 100000 in
theorem c_mop_6 (l : Launch) (D : va_G) (cZ : ClassId) (m0 m1 m2 m3 m4 m5 m6 : Nat) (err : Int32) (V S M : Nat → Int32) (O G : Int32) (d a b : Nat) (hd : d < 16) (ha : a < 16) (hb' : b < 16) (n : Nat) (hn : n < 32) (hy : V b &&& 31 = nI n) : sm_C l yX1_op wsX1_op ({ frames := 5, cells := 0, slots := 0, locals := 140 } : Room) D vwCl [(cZ, .boolean)] [.ref m0, .int 6, .int (nI d), .int (nI a), .int (nI b)] (sm_wM cZ m0 m1 m2 m3 m4 m5 m6 err (sm_fb V) (sm_fb S) (sm_fo M) (sm_fl M) (sm_fw O) (sm_fw G)) none (sm_wM cZ m0 m1 m2 m3 m4 m5 m6 0 (sm_fb (upd V d (sm_ushr (V a) (nI n)))) (sm_fb (upd S d (if S b &&& 31 = 0 then sm_ushr (S a) (nI n) else (-1)))) (sm_fo M) (sm_fl M) (sm_fw (sm_ushr (V a) (nI n))) (sm_fw (if S b &&& 31 = 0 then sm_ushr (S a) (nI n) else (-1)))) := by
  refine sm_start (cc := cX1_op) (maxL := 11) (ret := none) (lv := [(0, .ref m0), (1, .int 6), (2, .int (nI d)), (3, .int (nI a)), (4, .int (nI b))]) (by decide) rfl (Nat.le_of_ble_eq_true rfl) rfl ?_
  intro p e s m below meth c hx hb hrt hts hown hlocks hml hin hK hP hD hS hA ls hl
  have hw := sm_hw hts
  have q5 := sm_tz_le (S a ||| S b)
  have q1 := sm_tz_le (S a)
  have q2 := sm_tz_le (S b)
  have q3 := sm_tz_le (V b ||| S b)
  have q4 := sm_tz_le (V a ||| S a)
  refine lv_aload_n hx hb dX1_op_0 rfl (lv_at hl 0 rfl) ?_
  refine lv_iload_n hx hb dX1_op_1 rfl (lv_at hl 1 rfl) ?_
  refine lv_if_lt (tgt := 11) hx hb dX1_op_2 rfl (fun z => absurd z (by decide)) (fun _ => ?_)
  refine lv_iload_n hx hb dX1_op_5 rfl (lv_at hl 1 rfl) ?_
  refine lv_bipush (v := 12) hx hb dX1_op_6 (by decide) ?_
  refine lv_icmp_le (tgt := 15) hx hb dX1_op_8 rfl (fun _ => ?_) (fun z => absurd (by decide) z)
  refine lv_iconst (v := 0) hx hb dX1_op_15 (by decide) ?_
  refine lv_iconst (v := 1) hx hb dX1_op_16 (by decide) ?_
  refine sm_callV (C := RX1) (As := [.int (sm_bI false), .int 1]) (rest := []) (wr := []) (wn := (sm_wM cZ m0 m1 m2 m3 m4 m5 m6 0 (sm_fb V) (sm_fb S) (sm_fo M) (sm_fl M) (sm_fw O) (sm_fw G))) (st1 := [.int (sm_bI false)]) ⟨hx, hb, hml, hown, hts⟩ (c_fails_f l D cZ m0 m1 m2 m3 m4 m5 m6 err V S M O G 1) (cwV 2 hts (sm_gV (i1 := 266) (i2 := 267) (i3 := 348) (i4 := 2) (i5 := 268) rfl rfl rfl rfl rfl) rfl rfl rfl (by decide +kernel) ⟨Nat.le_of_ble_eq_true rfl, Nat.le_of_ble_eq_true rfl⟩) hK [0] rfl hP hD hS hA 0 rfl rfl [0, 1, 2, 3, 4, 5, 6] [] rfl rfl (by decide) (by decide) (by decide) rfl hl.1 rfl (Nat.le_of_ble_eq_true rfl) dX1_op_17 ⟨Nat.le_of_ble_eq_true rfl, Nat.le_of_ble_eq_true rfl⟩ rfl rfl (fun H locs hP hD hS => ?_)
  refine lv_if_eq (tgt := 24) hx hb dX1_op_20 rfl (fun _ => ?_) (fun z => absurd (by decide) z)
  refine lv_aload_n hx hb dX1_op_24 rfl (lv_at hl 0 rfl) ?_
  refine lv_iload_n hx hb dX1_op_25 rfl (lv_at hl 2 rfl) ?_
  refine sm_callS (As := [.int (nI d)]) (rest := [.ref m0]) (wr := (sm_wM cZ m0 m1 m2 m3 m4 m5 m6 0 (sm_fb V) (sm_fb S) (sm_fo M) (sm_fl M) (sm_fw O) (sm_fw G))) (wn := (sm_wM cZ m0 m1 m2 m3 m4 m5 m6 0 (sm_fb V) (sm_fb S) (sm_fo M) (sm_fl M) (sm_fw O) (sm_fw G))) (st1 := [.int (sm_bI false), .ref m0]) ⟨hx, hb, hml, hown, hts⟩ (c_none_f l D d (by omega)) (va_cwS 1 hts (sm_gS (i1 := 263) (i2 := 264) (i4 := 2) (i5 := 265) rfl rfl rfl rfl) rfl rfl rfl (by decide +kernel) ⟨Nat.le_of_ble_eq_true rfl, Nat.le_of_ble_eq_true rfl⟩) hK [] rfl hP hD hS hA [] [0, 1, 2, 3, 4, 5, 6] rfl rfl (by decide) (by decide) (by decide) rfl hl.1 rfl (Nat.le_of_ble_eq_true rfl) dX1_op_26 ⟨Nat.le_of_ble_eq_true rfl, Nat.le_of_ble_eq_true rfl⟩ rfl rfl (fun H locs hP hD hS => ?_)
  refine lv_if_ne (tgt := 47) hx hb dX1_op_29 rfl (fun z => absurd (by decide) z) (fun _ => ?_)
  refine lv_iload_n hx hb dX1_op_32 rfl (lv_at hl 3 rfl) ?_
  refine sm_callS (As := [.int (nI a)]) (rest := [.ref m0]) (wr := (sm_wM cZ m0 m1 m2 m3 m4 m5 m6 0 (sm_fb V) (sm_fb S) (sm_fo M) (sm_fl M) (sm_fw O) (sm_fw G))) (wn := (sm_wM cZ m0 m1 m2 m3 m4 m5 m6 0 (sm_fb V) (sm_fb S) (sm_fo M) (sm_fl M) (sm_fw O) (sm_fw G))) (st1 := [.int (sm_bI false), .ref m0]) ⟨hx, hb, hml, hown, hts⟩ (c_none_f l D a (by omega)) (va_cwS 1 hts (sm_gS (i1 := 263) (i2 := 264) (i4 := 2) (i5 := 265) rfl rfl rfl rfl) rfl rfl rfl (by decide +kernel) ⟨Nat.le_of_ble_eq_true rfl, Nat.le_of_ble_eq_true rfl⟩) hK [] rfl hP hD hS hA [] [0, 1, 2, 3, 4, 5, 6] rfl rfl (by decide) (by decide) (by decide) rfl hl.1 rfl (Nat.le_of_ble_eq_true rfl) dX1_op_33 ⟨Nat.le_of_ble_eq_true rfl, Nat.le_of_ble_eq_true rfl⟩ rfl rfl (fun H locs hP hD hS => ?_)
  refine lv_if_ne (tgt := 47) hx hb dX1_op_36 rfl (fun z => absurd (by decide) z) (fun _ => ?_)
  refine lv_iload hx hb dX1_op_39 (lv_at hl 4 rfl) ?_
  refine sm_callS (As := [.int (nI b)]) (rest := [.ref m0]) (wr := (sm_wM cZ m0 m1 m2 m3 m4 m5 m6 0 (sm_fb V) (sm_fb S) (sm_fo M) (sm_fl M) (sm_fw O) (sm_fw G))) (wn := (sm_wM cZ m0 m1 m2 m3 m4 m5 m6 0 (sm_fb V) (sm_fb S) (sm_fo M) (sm_fl M) (sm_fw O) (sm_fw G))) (st1 := [.int (sm_bI false), .ref m0]) ⟨hx, hb, hml, hown, hts⟩ (c_none_f l D b (by omega)) (va_cwS 1 hts (sm_gS (i1 := 263) (i2 := 264) (i4 := 2) (i5 := 265) rfl rfl rfl rfl) rfl rfl rfl (by decide +kernel) ⟨Nat.le_of_ble_eq_true rfl, Nat.le_of_ble_eq_true rfl⟩) hK [] rfl hP hD hS hA [] [0, 1, 2, 3, 4, 5, 6] rfl rfl (by decide) (by decide) (by decide) rfl hl.1 rfl (Nat.le_of_ble_eq_true rfl) dX1_op_41 ⟨Nat.le_of_ble_eq_true rfl, Nat.le_of_ble_eq_true rfl⟩ rfl rfl (fun H locs hP hD hS => ?_)
  refine lv_if_eq (tgt := 51) hx hb dX1_op_44 rfl (fun _ => ?_) (fun z => absurd (by decide) z)
  refine lv_iconst (v := 0) hx hb dX1_op_51 (by decide) ?_
  refine lv_iconst (v := 2) hx hb dX1_op_52 (by decide) ?_
  refine sm_callV (C := RX1) (As := [.int (sm_bI false), .int 2]) (rest := []) (wr := []) (wn := (sm_wM cZ m0 m1 m2 m3 m4 m5 m6 0 (sm_fb V) (sm_fb S) (sm_fo M) (sm_fl M) (sm_fw O) (sm_fw G))) (st1 := [.int (sm_bI false)]) ⟨hx, hb, hml, hown, hts⟩ (c_fails_f l D cZ m0 m1 m2 m3 m4 m5 m6 0 V S M O G 2) (cwV 2 hts (sm_gV (i1 := 266) (i2 := 267) (i3 := 348) (i4 := 2) (i5 := 268) rfl rfl rfl rfl rfl) rfl rfl rfl (by decide +kernel) ⟨Nat.le_of_ble_eq_true rfl, Nat.le_of_ble_eq_true rfl⟩) hK [0] rfl hP hD hS hA 0 rfl rfl [0, 1, 2, 3, 4, 5, 6] [] rfl rfl (by decide) (by decide) (by decide) rfl hl.1 rfl (Nat.le_of_ble_eq_true rfl) dX1_op_53 ⟨Nat.le_of_ble_eq_true rfl, Nat.le_of_ble_eq_true rfl⟩ rfl rfl (fun H locs hP hD hS => ?_)
  refine lv_if_eq (tgt := 60) hx hb dX1_op_56 rfl (fun _ => ?_) (fun z => absurd (by decide) z)
  refine lv_aload_n hx hb dX1_op_60 rfl (lv_at hl 0 rfl) ?_
  refine lv_iload_n hx hb dX1_op_61 rfl (lv_at hl 3 rfl) ?_
  refine sm_callV (C := RX1) (As := [.int (nI a)]) (rest := []) (wr := []) (wn := (sm_wM cZ m0 m1 m2 m3 m4 m5 m6 0 (sm_fb V) (sm_fb S) (sm_fo M) (sm_fl M) (sm_fw O) (sm_fw G))) (st1 := [.int (V a)]) ⟨hx, hb, hml, hown, hts⟩ (c_number l D cZ m0 m1 m2 m3 m4 m5 m6 0 V S M O G a (by omega)) (cwV 1 hts (sm_gV (i1 := 279) (i2 := 280) (i3 := 351) (i4 := 2) (i5 := 281) rfl rfl rfl rfl rfl) rfl rfl rfl (by decide +kernel) ⟨Nat.le_of_ble_eq_true rfl, Nat.le_of_ble_eq_true rfl⟩) hK [0] rfl hP hD hS hA 0 rfl rfl [0, 1, 2, 3, 4, 5, 6] [] rfl rfl (by decide) (by decide) (by decide) rfl hl.1 rfl (Nat.le_of_ble_eq_true rfl) dX1_op_62 ⟨Nat.le_of_ble_eq_true rfl, Nat.le_of_ble_eq_true rfl⟩ rfl rfl (fun H locs hP hD hS => ?_)
  refine lv_istore (lv' := [(5, .int (V a)), (0, .ref m0), (1, .int 6), (2, .int (nI d)), (3, .int (nI a)), (4, .int (nI b))]) hx hb dX1_op_65 hl (by decide) rfl (fun ls hl => ?_)
  refine lv_aload_n hx hb dX1_op_67 rfl (lv_at hl 1 rfl) ?_
  refine lv_iload hx hb dX1_op_68 (lv_at hl 5 rfl) ?_
  refine sm_callV (C := RX1) (As := [.int (nI b)]) (rest := []) (wr := []) (wn := (sm_wM cZ m0 m1 m2 m3 m4 m5 m6 0 (sm_fb V) (sm_fb S) (sm_fo M) (sm_fl M) (sm_fw O) (sm_fw G))) (st1 := [.int (V b)]) ⟨hx, hb, hml, hown, hts⟩ (c_number l D cZ m0 m1 m2 m3 m4 m5 m6 0 V S M O G b (by omega)) (cwV 1 hts (sm_gV (i1 := 279) (i2 := 280) (i3 := 351) (i4 := 2) (i5 := 281) rfl rfl rfl rfl rfl) rfl rfl rfl (by decide +kernel) ⟨Nat.le_of_ble_eq_true rfl, Nat.le_of_ble_eq_true rfl⟩) hK [0] rfl hP hD hS hA 0 rfl rfl [0, 1, 2, 3, 4, 5, 6] [] rfl rfl (by decide) (by decide) (by decide) rfl hl.1 rfl (Nat.le_of_ble_eq_true rfl) dX1_op_70 ⟨Nat.le_of_ble_eq_true rfl, Nat.le_of_ble_eq_true rfl⟩ rfl rfl (fun H locs hP hD hS => ?_)
  refine lv_istore (lv' := [(6, .int (V b)), (5, .int (V a)), (0, .ref m0), (1, .int 6), (2, .int (nI d)), (3, .int (nI a)), (4, .int (nI b))]) hx hb dX1_op_73 hl (by decide) rfl (fun ls hl => ?_)
  refine lv_aload_n hx hb dX1_op_75 rfl (lv_at hl 2 rfl) ?_
  refine lv_iload_n hx hb dX1_op_76 rfl (lv_at hl 5 rfl) ?_
  refine sm_callV (C := RX1) (As := [.int (nI a)]) (rest := []) (wr := []) (wn := (sm_wM cZ m0 m1 m2 m3 m4 m5 m6 0 (sm_fb V) (sm_fb S) (sm_fo M) (sm_fl M) (sm_fw O) (sm_fw G))) (st1 := [.int (nI (sm_tz (S a)))]) ⟨hx, hb, hml, hown, hts⟩ (c_lowest l D cZ m0 m1 m2 m3 m4 m5 m6 0 V S M O G a (by omega)) (cwV 1 hts (sm_gV (i1 := 282) (i2 := 283) (i3 := 352) (i4 := 2) (i5 := 284) rfl rfl rfl rfl rfl) rfl rfl rfl (by decide +kernel) ⟨Nat.le_of_ble_eq_true rfl, Nat.le_of_ble_eq_true rfl⟩) hK [0] rfl hP hD hS hA 0 rfl rfl [0, 1, 2, 3, 4, 5, 6] [] rfl rfl (by decide) (by decide) (by decide) rfl hl.1 rfl (Nat.le_of_ble_eq_true rfl) dX1_op_77 ⟨Nat.le_of_ble_eq_true rfl, Nat.le_of_ble_eq_true rfl⟩ rfl rfl (fun H locs hP hD hS => ?_)
  refine lv_aload_n hx hb dX1_op_80 rfl (lv_at hl 2 rfl) ?_
  refine lv_iload hx hb dX1_op_81 (lv_at hl 6 rfl) ?_
  refine sm_callV (C := RX1) (As := [.int (nI b)]) (rest := [.int (nI (sm_tz (S a)))]) (wr := []) (wn := (sm_wM cZ m0 m1 m2 m3 m4 m5 m6 0 (sm_fb V) (sm_fb S) (sm_fo M) (sm_fl M) (sm_fw O) (sm_fw G))) (st1 := [.int (nI (sm_tz (S b))), .int (nI (sm_tz (S a)))]) ⟨hx, hb, hml, hown, hts⟩ (c_lowest l D cZ m0 m1 m2 m3 m4 m5 m6 0 V S M O G b (by omega)) (cwV 1 hts (sm_gV (i1 := 282) (i2 := 283) (i3 := 352) (i4 := 2) (i5 := 284) rfl rfl rfl rfl rfl) rfl rfl rfl (by decide +kernel) ⟨Nat.le_of_ble_eq_true rfl, Nat.le_of_ble_eq_true rfl⟩) hK [0] rfl hP hD hS hA 0 rfl rfl [0, 1, 2, 3, 4, 5, 6] [] rfl rfl (by decide) (by decide) (by decide) rfl hl.1 rfl (Nat.le_of_ble_eq_true rfl) dX1_op_83 ⟨Nat.le_of_ble_eq_true rfl, Nat.le_of_ble_eq_true rfl⟩ rfl rfl (fun H locs hP hD hS => ?_)
  refine sm_joinH (pcJ := 103) (t := nI (sm_tz (S a ||| S b))) (lv := [(0, .ref m0), (1, .int 6), (2, .int (nI d)), (3, .int (nI a)), (4, .int (nI b)), (5, .int (V a)), (6, .int (V b))]) (w := (sm_wM cZ m0 m1 m2 m3 m4 m5 m6 0 (sm_fb V) (sm_fb S) (sm_fo M) (sm_fl M) (sm_fw O) (sm_fw G))) (rest := []) hl hP hD hS (fun j103 => ?_) (fun H locs ls hl hP hD hS => ?_)
  · refine lv_icmp_ge (tgt := 97) hx hb dX1_op_86 rfl (fun h86 => ?_) (fun h86 => ?_)
    · refine lv_aload_n hx hb dX1_op_97 rfl (lv_at hl 2 rfl) ?_
      refine lv_iload hx hb dX1_op_98 (lv_at hl 6 rfl) ?_
      refine sm_callV (C := RX1) (As := [.int (nI b)]) (rest := []) (wr := []) (wn := (sm_wM cZ m0 m1 m2 m3 m4 m5 m6 0 (sm_fb V) (sm_fb S) (sm_fo M) (sm_fl M) (sm_fw O) (sm_fw G))) (st1 := [.int (nI (sm_tz (S b)))]) ⟨hx, hb, hml, hown, hts⟩ (c_lowest l D cZ m0 m1 m2 m3 m4 m5 m6 0 V S M O G b (by omega)) (cwV 1 hts (sm_gV (i1 := 282) (i2 := 283) (i3 := 352) (i4 := 2) (i5 := 284) rfl rfl rfl rfl rfl) rfl rfl rfl (by decide +kernel) ⟨Nat.le_of_ble_eq_true rfl, Nat.le_of_ble_eq_true rfl⟩) hK [0] rfl hP hD hS hA 0 rfl rfl [0, 1, 2, 3, 4, 5, 6] [] rfl rfl (by decide) (by decide) (by decide) rfl hl.1 rfl (Nat.le_of_ble_eq_true rfl) dX1_op_100 ⟨Nat.le_of_ble_eq_true rfl, Nat.le_of_ble_eq_true rfl⟩ rfl rfl (fun H locs hP hD hS => ?_)
      refine sm_eqi (y := nI (sm_tz (S a ||| S b))) (sm_low2 h86) ?_
      exact j103 _ _ _ (lv_sub hl [2, 3, 4, 5, 6, 1, 0] rfl) hP hD hS
    · refine lv_aload_n hx hb dX1_op_89 rfl (lv_at hl 2 rfl) ?_
      refine lv_iload_n hx hb dX1_op_90 rfl (lv_at hl 5 rfl) ?_
      refine sm_callV (C := RX1) (As := [.int (nI a)]) (rest := []) (wr := []) (wn := (sm_wM cZ m0 m1 m2 m3 m4 m5 m6 0 (sm_fb V) (sm_fb S) (sm_fo M) (sm_fl M) (sm_fw O) (sm_fw G))) (st1 := [.int (nI (sm_tz (S a)))]) ⟨hx, hb, hml, hown, hts⟩ (c_lowest l D cZ m0 m1 m2 m3 m4 m5 m6 0 V S M O G a (by omega)) (cwV 1 hts (sm_gV (i1 := 282) (i2 := 283) (i3 := 352) (i4 := 2) (i5 := 284) rfl rfl rfl rfl rfl) rfl rfl rfl (by decide +kernel) ⟨Nat.le_of_ble_eq_true rfl, Nat.le_of_ble_eq_true rfl⟩) hK [0] rfl hP hD hS hA 0 rfl rfl [0, 1, 2, 3, 4, 5, 6] [] rfl rfl (by decide) (by decide) (by decide) rfl hl.1 rfl (Nat.le_of_ble_eq_true rfl) dX1_op_91 ⟨Nat.le_of_ble_eq_true rfl, Nat.le_of_ble_eq_true rfl⟩ rfl rfl (fun H locs hP hD hS => ?_)
      refine lv_goto (tgt := 103) hx hb dX1_op_94 rfl ?_
      refine sm_eqi (y := nI (sm_tz (S a ||| S b))) (sm_low1 h86) ?_
      exact j103 _ _ _ (lv_sub hl [2, 3, 4, 5, 6, 1, 0] rfl) hP hD hS
  refine lv_istore (lv' := [(7, .int (nI (sm_tz (S a ||| S b)))), (0, .ref m0), (1, .int 6), (2, .int (nI d)), (3, .int (nI a)), (4, .int (nI b)), (5, .int (V a)), (6, .int (V b))]) hx hb dX1_op_103 hl (by decide) rfl (fun ls hl => ?_)
  refine lv_iload_n hx hb dX1_op_105 rfl (lv_at hl 2 rfl) ?_
  refine lv_tableIn (off := 281) (tgt := 387) hx hb dX1_op_106 (by decide) (by decide) (by decide) (by decide) ?_
  refine lv_aload_n hx hb dX1_op_387 rfl (lv_at hl 1 rfl) ?_
  refine lv_iload_n hx hb dX1_op_388 rfl (lv_at hl 2 rfl) ?_
  refine lv_iload_n hx hb dX1_op_389 rfl (lv_at hl 4 rfl) ?_
  refine lv_iload hx hb dX1_op_390 (lv_at hl 5 rfl) ?_
  refine lv_iload hx hb dX1_op_392 (lv_at hl 7 rfl) ?_
  refine lv_bipush (v := 31) hx hb dX1_op_394 (by decide) ?_
  refine lv_iand hx hb dX1_op_396 ?_
  refine sm_eqi (y := nI n) (hy) ?_
  refine sm_callV (C := RX1) (As := [.int 6, .int (nI a), .int (nI b), .int (nI n)]) (rest := []) (wr := []) (wn := (sm_wM cZ m0 m1 m2 m3 m4 m5 m6 0 (sm_fb V) (sm_fb S) (sm_fo M) (sm_fl M) (sm_fw (sm_ushr (V a) (nI n))) (sm_fw (if S b &&& 31 = 0 then sm_ushr (S a) (nI n) else (-1))))) (st1 := []) ⟨hx, hb, hml, hown, hts⟩ (c_shift_6 l D cZ m0 m1 m2 m3 m4 m5 m6 0 V S M O G a b n ha hb' hn) (cwV 4 hts (sm_gV (i1 := 294) (i2 := 295) (i3 := 356) (i4 := 2) (i5 := 296) rfl rfl rfl rfl rfl) rfl rfl rfl (by decide +kernel) ⟨Nat.le_of_ble_eq_true rfl, Nat.le_of_ble_eq_true rfl⟩) hK [0] rfl hP hD hS hA 0 rfl rfl [0, 1, 2, 3, 4, 5, 6] [] rfl rfl (by decide) (by decide) (by decide) rfl hl.1 rfl (Nat.le_of_ble_eq_true rfl) dX1_op_397 ⟨Nat.le_of_ble_eq_true rfl, Nat.le_of_ble_eq_true rfl⟩ rfl rfl (fun H locs hP hD hS => ?_)
  refine lv_goto (tgt := 778) hx hb dX1_op_400 rfl ?_
  refine lv_aload_n hx hb dX1_op_778 rfl (lv_at hl 1 rfl) ?_
  refine lv_iload_n hx hb dX1_op_779 rfl (lv_at hl 3 rfl) ?_
  refine sm_callV (C := RX1) (As := [.int (nI d)]) (rest := []) (wr := []) (wn := (sm_wM cZ m0 m1 m2 m3 m4 m5 m6 0 (sm_fb (upd V d (sm_ushr (V a) (nI n)))) (sm_fb (upd S d (if S b &&& 31 = 0 then sm_ushr (S a) (nI n) else (-1)))) (sm_fo M) (sm_fl M) (sm_fw (sm_ushr (V a) (nI n))) (sm_fw (if S b &&& 31 = 0 then sm_ushr (S a) (nI n) else (-1))))) (st1 := []) ⟨hx, hb, hml, hown, hts⟩ (c_give l D cZ m0 m1 m2 m3 m4 m5 m6 0 V S M (sm_ushr (V a) (nI n)) (if S b &&& 31 = 0 then sm_ushr (S a) (nI n) else (-1)) d (by omega)) (cwV 1 hts (sm_gV (i1 := 272) (i2 := 273) (i3 := 350) (i4 := 2) (i5 := 274) rfl rfl rfl rfl rfl) rfl rfl rfl (by decide +kernel) ⟨Nat.le_of_ble_eq_true rfl, Nat.le_of_ble_eq_true rfl⟩) hK [0] rfl hP hD hS hA 0 rfl rfl [0, 1, 2, 3, 4, 5, 6] [] rfl rfl (by decide) (by decide) (by decide) rfl hl.1 rfl (Nat.le_of_ble_eq_true rfl) dX1_op_780 ⟨Nat.le_of_ble_eq_true rfl, Nat.le_of_ble_eq_true rfl⟩ rfl rfl (fun H locs hP hD hS => ?_)
  exact sm_vret hx hb hrt hlocks hS hP hD dX1_op_783
set_option maxHeartbeats 4000000 in
set_option maxRecDepth 100000 in
theorem c_mop_7 (l : Launch) (D : va_G) (cZ : ClassId) (m0 m1 m2 m3 m4 m5 m6 : Nat) (err : Int32) (V S M : Nat → Int32) (O G : Int32) (d a b : Nat) (hd : d < 16) (ha : a < 16) (hb' : b < 16) (n : Nat) (hn : n < 32) (hy : V b &&& 31 = nI n) : sm_C l yX1_op wsX1_op ({ frames := 5, cells := 0, slots := 0, locals := 140 } : Room) D vwCl [(cZ, .boolean)] [.ref m0, .int 7, .int (nI d), .int (nI a), .int (nI b)] (sm_wM cZ m0 m1 m2 m3 m4 m5 m6 err (sm_fb V) (sm_fb S) (sm_fo M) (sm_fl M) (sm_fw O) (sm_fw G)) none (sm_wM cZ m0 m1 m2 m3 m4 m5 m6 0 (sm_fb (upd V d (V a >>> (nI n &&& 31)))) (sm_fb (upd S d (if S b &&& 31 = 0 then S a >>> (nI n &&& 31) else (-1)))) (sm_fo M) (sm_fl M) (sm_fw (V a >>> (nI n &&& 31))) (sm_fw (if S b &&& 31 = 0 then S a >>> (nI n &&& 31) else (-1)))) := by
  refine sm_start (cc := cX1_op) (maxL := 11) (ret := none) (lv := [(0, .ref m0), (1, .int 7), (2, .int (nI d)), (3, .int (nI a)), (4, .int (nI b))]) (by decide) rfl (Nat.le_of_ble_eq_true rfl) rfl ?_
  intro p e s m below meth c hx hb hrt hts hown hlocks hml hin hK hP hD hS hA ls hl
  have hw := sm_hw hts
  have q5 := sm_tz_le (S a ||| S b)
  have q1 := sm_tz_le (S a)
  have q2 := sm_tz_le (S b)
  have q3 := sm_tz_le (V b ||| S b)
  have q4 := sm_tz_le (V a ||| S a)
  refine lv_aload_n hx hb dX1_op_0 rfl (lv_at hl 0 rfl) ?_
  refine lv_iload_n hx hb dX1_op_1 rfl (lv_at hl 1 rfl) ?_
  refine lv_if_lt (tgt := 11) hx hb dX1_op_2 rfl (fun z => absurd z (by decide)) (fun _ => ?_)
  refine lv_iload_n hx hb dX1_op_5 rfl (lv_at hl 1 rfl) ?_
  refine lv_bipush (v := 12) hx hb dX1_op_6 (by decide) ?_
  refine lv_icmp_le (tgt := 15) hx hb dX1_op_8 rfl (fun _ => ?_) (fun z => absurd (by decide) z)
  refine lv_iconst (v := 0) hx hb dX1_op_15 (by decide) ?_
  refine lv_iconst (v := 1) hx hb dX1_op_16 (by decide) ?_
  refine sm_callV (C := RX1) (As := [.int (sm_bI false), .int 1]) (rest := []) (wr := []) (wn := (sm_wM cZ m0 m1 m2 m3 m4 m5 m6 0 (sm_fb V) (sm_fb S) (sm_fo M) (sm_fl M) (sm_fw O) (sm_fw G))) (st1 := [.int (sm_bI false)]) ⟨hx, hb, hml, hown, hts⟩ (c_fails_f l D cZ m0 m1 m2 m3 m4 m5 m6 err V S M O G 1) (cwV 2 hts (sm_gV (i1 := 266) (i2 := 267) (i3 := 348) (i4 := 2) (i5 := 268) rfl rfl rfl rfl rfl) rfl rfl rfl (by decide +kernel) ⟨Nat.le_of_ble_eq_true rfl, Nat.le_of_ble_eq_true rfl⟩) hK [0] rfl hP hD hS hA 0 rfl rfl [0, 1, 2, 3, 4, 5, 6] [] rfl rfl (by decide) (by decide) (by decide) rfl hl.1 rfl (Nat.le_of_ble_eq_true rfl) dX1_op_17 ⟨Nat.le_of_ble_eq_true rfl, Nat.le_of_ble_eq_true rfl⟩ rfl rfl (fun H locs hP hD hS => ?_)
  refine lv_if_eq (tgt := 24) hx hb dX1_op_20 rfl (fun _ => ?_) (fun z => absurd (by decide) z)
  refine lv_aload_n hx hb dX1_op_24 rfl (lv_at hl 0 rfl) ?_
  refine lv_iload_n hx hb dX1_op_25 rfl (lv_at hl 2 rfl) ?_
  refine sm_callS (As := [.int (nI d)]) (rest := [.ref m0]) (wr := (sm_wM cZ m0 m1 m2 m3 m4 m5 m6 0 (sm_fb V) (sm_fb S) (sm_fo M) (sm_fl M) (sm_fw O) (sm_fw G))) (wn := (sm_wM cZ m0 m1 m2 m3 m4 m5 m6 0 (sm_fb V) (sm_fb S) (sm_fo M) (sm_fl M) (sm_fw O) (sm_fw G))) (st1 := [.int (sm_bI false), .ref m0]) ⟨hx, hb, hml, hown, hts⟩ (c_none_f l D d (by omega)) (va_cwS 1 hts (sm_gS (i1 := 263) (i2 := 264) (i4 := 2) (i5 := 265) rfl rfl rfl rfl) rfl rfl rfl (by decide +kernel) ⟨Nat.le_of_ble_eq_true rfl, Nat.le_of_ble_eq_true rfl⟩) hK [] rfl hP hD hS hA [] [0, 1, 2, 3, 4, 5, 6] rfl rfl (by decide) (by decide) (by decide) rfl hl.1 rfl (Nat.le_of_ble_eq_true rfl) dX1_op_26 ⟨Nat.le_of_ble_eq_true rfl, Nat.le_of_ble_eq_true rfl⟩ rfl rfl (fun H locs hP hD hS => ?_)
  refine lv_if_ne (tgt := 47) hx hb dX1_op_29 rfl (fun z => absurd (by decide) z) (fun _ => ?_)
  refine lv_iload_n hx hb dX1_op_32 rfl (lv_at hl 3 rfl) ?_
  refine sm_callS (As := [.int (nI a)]) (rest := [.ref m0]) (wr := (sm_wM cZ m0 m1 m2 m3 m4 m5 m6 0 (sm_fb V) (sm_fb S) (sm_fo M) (sm_fl M) (sm_fw O) (sm_fw G))) (wn := (sm_wM cZ m0 m1 m2 m3 m4 m5 m6 0 (sm_fb V) (sm_fb S) (sm_fo M) (sm_fl M) (sm_fw O) (sm_fw G))) (st1 := [.int (sm_bI false), .ref m0]) ⟨hx, hb, hml, hown, hts⟩ (c_none_f l D a (by omega)) (va_cwS 1 hts (sm_gS (i1 := 263) (i2 := 264) (i4 := 2) (i5 := 265) rfl rfl rfl rfl) rfl rfl rfl (by decide +kernel) ⟨Nat.le_of_ble_eq_true rfl, Nat.le_of_ble_eq_true rfl⟩) hK [] rfl hP hD hS hA [] [0, 1, 2, 3, 4, 5, 6] rfl rfl (by decide) (by decide) (by decide) rfl hl.1 rfl (Nat.le_of_ble_eq_true rfl) dX1_op_33 ⟨Nat.le_of_ble_eq_true rfl, Nat.le_of_ble_eq_true rfl⟩ rfl rfl (fun H locs hP hD hS => ?_)
  refine lv_if_ne (tgt := 47) hx hb dX1_op_36 rfl (fun z => absurd (by decide) z) (fun _ => ?_)
  refine lv_iload hx hb dX1_op_39 (lv_at hl 4 rfl) ?_
  refine sm_callS (As := [.int (nI b)]) (rest := [.ref m0]) (wr := (sm_wM cZ m0 m1 m2 m3 m4 m5 m6 0 (sm_fb V) (sm_fb S) (sm_fo M) (sm_fl M) (sm_fw O) (sm_fw G))) (wn := (sm_wM cZ m0 m1 m2 m3 m4 m5 m6 0 (sm_fb V) (sm_fb S) (sm_fo M) (sm_fl M) (sm_fw O) (sm_fw G))) (st1 := [.int (sm_bI false), .ref m0]) ⟨hx, hb, hml, hown, hts⟩ (c_none_f l D b (by omega)) (va_cwS 1 hts (sm_gS (i1 := 263) (i2 := 264) (i4 := 2) (i5 := 265) rfl rfl rfl rfl) rfl rfl rfl (by decide +kernel) ⟨Nat.le_of_ble_eq_true rfl, Nat.le_of_ble_eq_true rfl⟩) hK [] rfl hP hD hS hA [] [0, 1, 2, 3, 4, 5, 6] rfl rfl (by decide) (by decide) (by decide) rfl hl.1 rfl (Nat.le_of_ble_eq_true rfl) dX1_op_41 ⟨Nat.le_of_ble_eq_true rfl, Nat.le_of_ble_eq_true rfl⟩ rfl rfl (fun H locs hP hD hS => ?_)
  refine lv_if_eq (tgt := 51) hx hb dX1_op_44 rfl (fun _ => ?_) (fun z => absurd (by decide) z)
  refine lv_iconst (v := 0) hx hb dX1_op_51 (by decide) ?_
  refine lv_iconst (v := 2) hx hb dX1_op_52 (by decide) ?_
  refine sm_callV (C := RX1) (As := [.int (sm_bI false), .int 2]) (rest := []) (wr := []) (wn := (sm_wM cZ m0 m1 m2 m3 m4 m5 m6 0 (sm_fb V) (sm_fb S) (sm_fo M) (sm_fl M) (sm_fw O) (sm_fw G))) (st1 := [.int (sm_bI false)]) ⟨hx, hb, hml, hown, hts⟩ (c_fails_f l D cZ m0 m1 m2 m3 m4 m5 m6 0 V S M O G 2) (cwV 2 hts (sm_gV (i1 := 266) (i2 := 267) (i3 := 348) (i4 := 2) (i5 := 268) rfl rfl rfl rfl rfl) rfl rfl rfl (by decide +kernel) ⟨Nat.le_of_ble_eq_true rfl, Nat.le_of_ble_eq_true rfl⟩) hK [0] rfl hP hD hS hA 0 rfl rfl [0, 1, 2, 3, 4, 5, 6] [] rfl rfl (by decide) (by decide) (by decide) rfl hl.1 rfl (Nat.le_of_ble_eq_true rfl) dX1_op_53 ⟨Nat.le_of_ble_eq_true rfl, Nat.le_of_ble_eq_true rfl⟩ rfl rfl (fun H locs hP hD hS => ?_)
  refine lv_if_eq (tgt := 60) hx hb dX1_op_56 rfl (fun _ => ?_) (fun z => absurd (by decide) z)
  refine lv_aload_n hx hb dX1_op_60 rfl (lv_at hl 0 rfl) ?_
  refine lv_iload_n hx hb dX1_op_61 rfl (lv_at hl 3 rfl) ?_
  refine sm_callV (C := RX1) (As := [.int (nI a)]) (rest := []) (wr := []) (wn := (sm_wM cZ m0 m1 m2 m3 m4 m5 m6 0 (sm_fb V) (sm_fb S) (sm_fo M) (sm_fl M) (sm_fw O) (sm_fw G))) (st1 := [.int (V a)]) ⟨hx, hb, hml, hown, hts⟩ (c_number l D cZ m0 m1 m2 m3 m4 m5 m6 0 V S M O G a (by omega)) (cwV 1 hts (sm_gV (i1 := 279) (i2 := 280) (i3 := 351) (i4 := 2) (i5 := 281) rfl rfl rfl rfl rfl) rfl rfl rfl (by decide +kernel) ⟨Nat.le_of_ble_eq_true rfl, Nat.le_of_ble_eq_true rfl⟩) hK [0] rfl hP hD hS hA 0 rfl rfl [0, 1, 2, 3, 4, 5, 6] [] rfl rfl (by decide) (by decide) (by decide) rfl hl.1 rfl (Nat.le_of_ble_eq_true rfl) dX1_op_62 ⟨Nat.le_of_ble_eq_true rfl, Nat.le_of_ble_eq_true rfl⟩ rfl rfl (fun H locs hP hD hS => ?_)
  refine lv_istore (lv' := [(5, .int (V a)), (0, .ref m0), (1, .int 7), (2, .int (nI d)), (3, .int (nI a)), (4, .int (nI b))]) hx hb dX1_op_65 hl (by decide) rfl (fun ls hl => ?_)
  refine lv_aload_n hx hb dX1_op_67 rfl (lv_at hl 1 rfl) ?_
  refine lv_iload hx hb dX1_op_68 (lv_at hl 5 rfl) ?_
  refine sm_callV (C := RX1) (As := [.int (nI b)]) (rest := []) (wr := []) (wn := (sm_wM cZ m0 m1 m2 m3 m4 m5 m6 0 (sm_fb V) (sm_fb S) (sm_fo M) (sm_fl M) (sm_fw O) (sm_fw G))) (st1 := [.int (V b)]) ⟨hx, hb, hml, hown, hts⟩ (c_number l D cZ m0 m1 m2 m3 m4 m5 m6 0 V S M O G b (by omega)) (cwV 1 hts (sm_gV (i1 := 279) (i2 := 280) (i3 := 351) (i4 := 2) (i5 := 281) rfl rfl rfl rfl rfl) rfl rfl rfl (by decide +kernel) ⟨Nat.le_of_ble_eq_true rfl, Nat.le_of_ble_eq_true rfl⟩) hK [0] rfl hP hD hS hA 0 rfl rfl [0, 1, 2, 3, 4, 5, 6] [] rfl rfl (by decide) (by decide) (by decide) rfl hl.1 rfl (Nat.le_of_ble_eq_true rfl) dX1_op_70 ⟨Nat.le_of_ble_eq_true rfl, Nat.le_of_ble_eq_true rfl⟩ rfl rfl (fun H locs hP hD hS => ?_)
  refine lv_istore (lv' := [(6, .int (V b)), (5, .int (V a)), (0, .ref m0), (1, .int 7), (2, .int (nI d)), (3, .int (nI a)), (4, .int (nI b))]) hx hb dX1_op_73 hl (by decide) rfl (fun ls hl => ?_)
  refine lv_aload_n hx hb dX1_op_75 rfl (lv_at hl 2 rfl) ?_
  refine lv_iload_n hx hb dX1_op_76 rfl (lv_at hl 5 rfl) ?_
  refine sm_callV (C := RX1) (As := [.int (nI a)]) (rest := []) (wr := []) (wn := (sm_wM cZ m0 m1 m2 m3 m4 m5 m6 0 (sm_fb V) (sm_fb S) (sm_fo M) (sm_fl M) (sm_fw O) (sm_fw G))) (st1 := [.int (nI (sm_tz (S a)))]) ⟨hx, hb, hml, hown, hts⟩ (c_lowest l D cZ m0 m1 m2 m3 m4 m5 m6 0 V S M O G a (by omega)) (cwV 1 hts (sm_gV (i1 := 282) (i2 := 283) (i3 := 352) (i4 := 2) (i5 := 284) rfl rfl rfl rfl rfl) rfl rfl rfl (by decide +kernel) ⟨Nat.le_of_ble_eq_true rfl, Nat.le_of_ble_eq_true rfl⟩) hK [0] rfl hP hD hS hA 0 rfl rfl [0, 1, 2, 3, 4, 5, 6] [] rfl rfl (by decide) (by decide) (by decide) rfl hl.1 rfl (Nat.le_of_ble_eq_true rfl) dX1_op_77 ⟨Nat.le_of_ble_eq_true rfl, Nat.le_of_ble_eq_true rfl⟩ rfl rfl (fun H locs hP hD hS => ?_)
  refine lv_aload_n hx hb dX1_op_80 rfl (lv_at hl 2 rfl) ?_
  refine lv_iload hx hb dX1_op_81 (lv_at hl 6 rfl) ?_
  refine sm_callV (C := RX1) (As := [.int (nI b)]) (rest := [.int (nI (sm_tz (S a)))]) (wr := []) (wn := (sm_wM cZ m0 m1 m2 m3 m4 m5 m6 0 (sm_fb V) (sm_fb S) (sm_fo M) (sm_fl M) (sm_fw O) (sm_fw G))) (st1 := [.int (nI (sm_tz (S b))), .int (nI (sm_tz (S a)))]) ⟨hx, hb, hml, hown, hts⟩ (c_lowest l D cZ m0 m1 m2 m3 m4 m5 m6 0 V S M O G b (by omega)) (cwV 1 hts (sm_gV (i1 := 282) (i2 := 283) (i3 := 352) (i4 := 2) (i5 := 284) rfl rfl rfl rfl rfl) rfl rfl rfl (by decide +kernel) ⟨Nat.le_of_ble_eq_true rfl, Nat.le_of_ble_eq_true rfl⟩) hK [0] rfl hP hD hS hA 0 rfl rfl [0, 1, 2, 3, 4, 5, 6] [] rfl rfl (by decide) (by decide) (by decide) rfl hl.1 rfl (Nat.le_of_ble_eq_true rfl) dX1_op_83 ⟨Nat.le_of_ble_eq_true rfl, Nat.le_of_ble_eq_true rfl⟩ rfl rfl (fun H locs hP hD hS => ?_)
  refine sm_joinH (pcJ := 103) (t := nI (sm_tz (S a ||| S b))) (lv := [(0, .ref m0), (1, .int 7), (2, .int (nI d)), (3, .int (nI a)), (4, .int (nI b)), (5, .int (V a)), (6, .int (V b))]) (w := (sm_wM cZ m0 m1 m2 m3 m4 m5 m6 0 (sm_fb V) (sm_fb S) (sm_fo M) (sm_fl M) (sm_fw O) (sm_fw G))) (rest := []) hl hP hD hS (fun j103 => ?_) (fun H locs ls hl hP hD hS => ?_)
  · refine lv_icmp_ge (tgt := 97) hx hb dX1_op_86 rfl (fun h86 => ?_) (fun h86 => ?_)
    · refine lv_aload_n hx hb dX1_op_97 rfl (lv_at hl 2 rfl) ?_
      refine lv_iload hx hb dX1_op_98 (lv_at hl 6 rfl) ?_
      refine sm_callV (C := RX1) (As := [.int (nI b)]) (rest := []) (wr := []) (wn := (sm_wM cZ m0 m1 m2 m3 m4 m5 m6 0 (sm_fb V) (sm_fb S) (sm_fo M) (sm_fl M) (sm_fw O) (sm_fw G))) (st1 := [.int (nI (sm_tz (S b)))]) ⟨hx, hb, hml, hown, hts⟩ (c_lowest l D cZ m0 m1 m2 m3 m4 m5 m6 0 V S M O G b (by omega)) (cwV 1 hts (sm_gV (i1 := 282) (i2 := 283) (i3 := 352) (i4 := 2) (i5 := 284) rfl rfl rfl rfl rfl) rfl rfl rfl (by decide +kernel) ⟨Nat.le_of_ble_eq_true rfl, Nat.le_of_ble_eq_true rfl⟩) hK [0] rfl hP hD hS hA 0 rfl rfl [0, 1, 2, 3, 4, 5, 6] [] rfl rfl (by decide) (by decide) (by decide) rfl hl.1 rfl (Nat.le_of_ble_eq_true rfl) dX1_op_100 ⟨Nat.le_of_ble_eq_true rfl, Nat.le_of_ble_eq_true rfl⟩ rfl rfl (fun H locs hP hD hS => ?_)
      refine sm_eqi (y := nI (sm_tz (S a ||| S b))) (sm_low2 h86) ?_
      exact j103 _ _ _ (lv_sub hl [2, 3, 4, 5, 6, 1, 0] rfl) hP hD hS
    · refine lv_aload_n hx hb dX1_op_89 rfl (lv_at hl 2 rfl) ?_
      refine lv_iload_n hx hb dX1_op_90 rfl (lv_at hl 5 rfl) ?_
      refine sm_callV (C := RX1) (As := [.int (nI a)]) (rest := []) (wr := []) (wn := (sm_wM cZ m0 m1 m2 m3 m4 m5 m6 0 (sm_fb V) (sm_fb S) (sm_fo M) (sm_fl M) (sm_fw O) (sm_fw G))) (st1 := [.int (nI (sm_tz (S a)))]) ⟨hx, hb, hml, hown, hts⟩ (c_lowest l D cZ m0 m1 m2 m3 m4 m5 m6 0 V S M O G a (by omega)) (cwV 1 hts (sm_gV (i1 := 282) (i2 := 283) (i3 := 352) (i4 := 2) (i5 := 284) rfl rfl rfl rfl rfl) rfl rfl rfl (by decide +kernel) ⟨Nat.le_of_ble_eq_true rfl, Nat.le_of_ble_eq_true rfl⟩) hK [0] rfl hP hD hS hA 0 rfl rfl [0, 1, 2, 3, 4, 5, 6] [] rfl rfl (by decide) (by decide) (by decide) rfl hl.1 rfl (Nat.le_of_ble_eq_true rfl) dX1_op_91 ⟨Nat.le_of_ble_eq_true rfl, Nat.le_of_ble_eq_true rfl⟩ rfl rfl (fun H locs hP hD hS => ?_)
      refine lv_goto (tgt := 103) hx hb dX1_op_94 rfl ?_
      refine sm_eqi (y := nI (sm_tz (S a ||| S b))) (sm_low1 h86) ?_
      exact j103 _ _ _ (lv_sub hl [2, 3, 4, 5, 6, 1, 0] rfl) hP hD hS
  refine lv_istore (lv' := [(7, .int (nI (sm_tz (S a ||| S b)))), (0, .ref m0), (1, .int 7), (2, .int (nI d)), (3, .int (nI a)), (4, .int (nI b)), (5, .int (V a)), (6, .int (V b))]) hx hb dX1_op_103 hl (by decide) rfl (fun ls hl => ?_)
  refine lv_iload_n hx hb dX1_op_105 rfl (lv_at hl 2 rfl) ?_
  refine lv_tableIn (off := 281) (tgt := 387) hx hb dX1_op_106 (by decide) (by decide) (by decide) (by decide) ?_
  refine lv_aload_n hx hb dX1_op_387 rfl (lv_at hl 1 rfl) ?_
  refine lv_iload_n hx hb dX1_op_388 rfl (lv_at hl 2 rfl) ?_
  refine lv_iload_n hx hb dX1_op_389 rfl (lv_at hl 4 rfl) ?_
  refine lv_iload hx hb dX1_op_390 (lv_at hl 5 rfl) ?_
  refine lv_iload hx hb dX1_op_392 (lv_at hl 7 rfl) ?_
  refine lv_bipush (v := 31) hx hb dX1_op_394 (by decide) ?_
  refine lv_iand hx hb dX1_op_396 ?_
  refine sm_eqi (y := nI n) (hy) ?_
  refine sm_callV (C := RX1) (As := [.int 7, .int (nI a), .int (nI b), .int (nI n)]) (rest := []) (wr := []) (wn := (sm_wM cZ m0 m1 m2 m3 m4 m5 m6 0 (sm_fb V) (sm_fb S) (sm_fo M) (sm_fl M) (sm_fw (V a >>> (nI n &&& 31))) (sm_fw (if S b &&& 31 = 0 then S a >>> (nI n &&& 31) else (-1))))) (st1 := []) ⟨hx, hb, hml, hown, hts⟩ (c_shift_7 l D cZ m0 m1 m2 m3 m4 m5 m6 0 V S M O G a b n ha hb' hn) (cwV 4 hts (sm_gV (i1 := 294) (i2 := 295) (i3 := 356) (i4 := 2) (i5 := 296) rfl rfl rfl rfl rfl) rfl rfl rfl (by decide +kernel) ⟨Nat.le_of_ble_eq_true rfl, Nat.le_of_ble_eq_true rfl⟩) hK [0] rfl hP hD hS hA 0 rfl rfl [0, 1, 2, 3, 4, 5, 6] [] rfl rfl (by decide) (by decide) (by decide) rfl hl.1 rfl (Nat.le_of_ble_eq_true rfl) dX1_op_397 ⟨Nat.le_of_ble_eq_true rfl, Nat.le_of_ble_eq_true rfl⟩ rfl rfl (fun H locs hP hD hS => ?_)
  refine lv_goto (tgt := 778) hx hb dX1_op_400 rfl ?_
  refine lv_aload_n hx hb dX1_op_778 rfl (lv_at hl 1 rfl) ?_
  refine lv_iload_n hx hb dX1_op_779 rfl (lv_at hl 3 rfl) ?_
  refine sm_callV (C := RX1) (As := [.int (nI d)]) (rest := []) (wr := []) (wn := (sm_wM cZ m0 m1 m2 m3 m4 m5 m6 0 (sm_fb (upd V d (V a >>> (nI n &&& 31)))) (sm_fb (upd S d (if S b &&& 31 = 0 then S a >>> (nI n &&& 31) else (-1)))) (sm_fo M) (sm_fl M) (sm_fw (V a >>> (nI n &&& 31))) (sm_fw (if S b &&& 31 = 0 then S a >>> (nI n &&& 31) else (-1))))) (st1 := []) ⟨hx, hb, hml, hown, hts⟩ (c_give l D cZ m0 m1 m2 m3 m4 m5 m6 0 V S M (V a >>> (nI n &&& 31)) (if S b &&& 31 = 0 then S a >>> (nI n &&& 31) else (-1)) d (by omega)) (cwV 1 hts (sm_gV (i1 := 272) (i2 := 273) (i3 := 350) (i4 := 2) (i5 := 274) rfl rfl rfl rfl rfl) rfl rfl rfl (by decide +kernel) ⟨Nat.le_of_ble_eq_true rfl, Nat.le_of_ble_eq_true rfl⟩) hK [0] rfl hP hD hS hA 0 rfl rfl [0, 1, 2, 3, 4, 5, 6] [] rfl rfl (by decide) (by decide) (by decide) rfl hl.1 rfl (Nat.le_of_ble_eq_true rfl) dX1_op_780 ⟨Nat.le_of_ble_eq_true rfl, Nat.le_of_ble_eq_true rfl⟩ rfl rfl (fun H locs hP hD hS => ?_)
  exact sm_vret hx hb hrt hlocks hS hP hD dX1_op_783
set_option maxHeartbeats 4000000 in
set_option maxRecDepth 100000 in
theorem c_mop_8 (l : Launch) (D : va_G) (cZ : ClassId) (m0 m1 m2 m3 m4 m5 m6 : Nat) (err : Int32) (V S M : Nat → Int32) (O G : Int32) (d a b : Nat) (hd : d < 16) (ha : a < 16) (hb' : b < 16) : sm_C l yX1_op wsX1_op ({ frames := 5, cells := 0, slots := 0, locals := 140 } : Room) D vwCl [(cZ, .boolean)] [.ref m0, .int 8, .int (nI d), .int (nI a), .int (nI b)] (sm_wM cZ m0 m1 m2 m3 m4 m5 m6 err (sm_fb V) (sm_fb S) (sm_fo M) (sm_fl M) (sm_fw O) (sm_fw G)) none (sm_wM cZ m0 m1 m2 m3 m4 m5 m6 0 (sm_fb (upd V d (V a * V b))) (sm_fb (upd S d (sm_fr (sm_min (sm_tz (S a) + sm_tz (V b ||| S b)) (sm_tz (S b) + sm_tz (V a ||| S a)))))) (sm_fo M) (sm_fl M) (sm_fw (V a * V b)) (sm_fw (sm_fr (sm_min (sm_tz (S a) + sm_tz (V b ||| S b)) (sm_tz (S b) + sm_tz (V a ||| S a)))))) := by
  refine sm_start (cc := cX1_op) (maxL := 11) (ret := none) (lv := [(0, .ref m0), (1, .int 8), (2, .int (nI d)), (3, .int (nI a)), (4, .int (nI b))]) (by decide) rfl (Nat.le_of_ble_eq_true rfl) rfl ?_
  intro p e s m below meth c hx hb hrt hts hown hlocks hml hin hK hP hD hS hA ls hl
  have hw := sm_hw hts
  have q5 := sm_tz_le (S a ||| S b)
  have q1 := sm_tz_le (S a)
  have q2 := sm_tz_le (S b)
  have q3 := sm_tz_le (V b ||| S b)
  have q4 := sm_tz_le (V a ||| S a)
  have q6 := sm_mp_le (sm_tz (S a)) (sm_tz (V b ||| S b))
  have q7 := sm_mp_le (sm_tz (S b)) (sm_tz (V a ||| S a))
  refine lv_aload_n hx hb dX1_op_0 rfl (lv_at hl 0 rfl) ?_
  refine lv_iload_n hx hb dX1_op_1 rfl (lv_at hl 1 rfl) ?_
  refine lv_if_lt (tgt := 11) hx hb dX1_op_2 rfl (fun z => absurd z (by decide)) (fun _ => ?_)
  refine lv_iload_n hx hb dX1_op_5 rfl (lv_at hl 1 rfl) ?_
  refine lv_bipush (v := 12) hx hb dX1_op_6 (by decide) ?_
  refine lv_icmp_le (tgt := 15) hx hb dX1_op_8 rfl (fun _ => ?_) (fun z => absurd (by decide) z)
  refine lv_iconst (v := 0) hx hb dX1_op_15 (by decide) ?_
  refine lv_iconst (v := 1) hx hb dX1_op_16 (by decide) ?_
  refine sm_callV (C := RX1) (As := [.int (sm_bI false), .int 1]) (rest := []) (wr := []) (wn := (sm_wM cZ m0 m1 m2 m3 m4 m5 m6 0 (sm_fb V) (sm_fb S) (sm_fo M) (sm_fl M) (sm_fw O) (sm_fw G))) (st1 := [.int (sm_bI false)]) ⟨hx, hb, hml, hown, hts⟩ (c_fails_f l D cZ m0 m1 m2 m3 m4 m5 m6 err V S M O G 1) (cwV 2 hts (sm_gV (i1 := 266) (i2 := 267) (i3 := 348) (i4 := 2) (i5 := 268) rfl rfl rfl rfl rfl) rfl rfl rfl (by decide +kernel) ⟨Nat.le_of_ble_eq_true rfl, Nat.le_of_ble_eq_true rfl⟩) hK [0] rfl hP hD hS hA 0 rfl rfl [0, 1, 2, 3, 4, 5, 6] [] rfl rfl (by decide) (by decide) (by decide) rfl hl.1 rfl (Nat.le_of_ble_eq_true rfl) dX1_op_17 ⟨Nat.le_of_ble_eq_true rfl, Nat.le_of_ble_eq_true rfl⟩ rfl rfl (fun H locs hP hD hS => ?_)
  refine lv_if_eq (tgt := 24) hx hb dX1_op_20 rfl (fun _ => ?_) (fun z => absurd (by decide) z)
  refine lv_aload_n hx hb dX1_op_24 rfl (lv_at hl 0 rfl) ?_
  refine lv_iload_n hx hb dX1_op_25 rfl (lv_at hl 2 rfl) ?_
  refine sm_callS (As := [.int (nI d)]) (rest := [.ref m0]) (wr := (sm_wM cZ m0 m1 m2 m3 m4 m5 m6 0 (sm_fb V) (sm_fb S) (sm_fo M) (sm_fl M) (sm_fw O) (sm_fw G))) (wn := (sm_wM cZ m0 m1 m2 m3 m4 m5 m6 0 (sm_fb V) (sm_fb S) (sm_fo M) (sm_fl M) (sm_fw O) (sm_fw G))) (st1 := [.int (sm_bI false), .ref m0]) ⟨hx, hb, hml, hown, hts⟩ (c_none_f l D d (by omega)) (va_cwS 1 hts (sm_gS (i1 := 263) (i2 := 264) (i4 := 2) (i5 := 265) rfl rfl rfl rfl) rfl rfl rfl (by decide +kernel) ⟨Nat.le_of_ble_eq_true rfl, Nat.le_of_ble_eq_true rfl⟩) hK [] rfl hP hD hS hA [] [0, 1, 2, 3, 4, 5, 6] rfl rfl (by decide) (by decide) (by decide) rfl hl.1 rfl (Nat.le_of_ble_eq_true rfl) dX1_op_26 ⟨Nat.le_of_ble_eq_true rfl, Nat.le_of_ble_eq_true rfl⟩ rfl rfl (fun H locs hP hD hS => ?_)
  refine lv_if_ne (tgt := 47) hx hb dX1_op_29 rfl (fun z => absurd (by decide) z) (fun _ => ?_)
  refine lv_iload_n hx hb dX1_op_32 rfl (lv_at hl 3 rfl) ?_
  refine sm_callS (As := [.int (nI a)]) (rest := [.ref m0]) (wr := (sm_wM cZ m0 m1 m2 m3 m4 m5 m6 0 (sm_fb V) (sm_fb S) (sm_fo M) (sm_fl M) (sm_fw O) (sm_fw G))) (wn := (sm_wM cZ m0 m1 m2 m3 m4 m5 m6 0 (sm_fb V) (sm_fb S) (sm_fo M) (sm_fl M) (sm_fw O) (sm_fw G))) (st1 := [.int (sm_bI false), .ref m0]) ⟨hx, hb, hml, hown, hts⟩ (c_none_f l D a (by omega)) (va_cwS 1 hts (sm_gS (i1 := 263) (i2 := 264) (i4 := 2) (i5 := 265) rfl rfl rfl rfl) rfl rfl rfl (by decide +kernel) ⟨Nat.le_of_ble_eq_true rfl, Nat.le_of_ble_eq_true rfl⟩) hK [] rfl hP hD hS hA [] [0, 1, 2, 3, 4, 5, 6] rfl rfl (by decide) (by decide) (by decide) rfl hl.1 rfl (Nat.le_of_ble_eq_true rfl) dX1_op_33 ⟨Nat.le_of_ble_eq_true rfl, Nat.le_of_ble_eq_true rfl⟩ rfl rfl (fun H locs hP hD hS => ?_)
  refine lv_if_ne (tgt := 47) hx hb dX1_op_36 rfl (fun z => absurd (by decide) z) (fun _ => ?_)
  refine lv_iload hx hb dX1_op_39 (lv_at hl 4 rfl) ?_
  refine sm_callS (As := [.int (nI b)]) (rest := [.ref m0]) (wr := (sm_wM cZ m0 m1 m2 m3 m4 m5 m6 0 (sm_fb V) (sm_fb S) (sm_fo M) (sm_fl M) (sm_fw O) (sm_fw G))) (wn := (sm_wM cZ m0 m1 m2 m3 m4 m5 m6 0 (sm_fb V) (sm_fb S) (sm_fo M) (sm_fl M) (sm_fw O) (sm_fw G))) (st1 := [.int (sm_bI false), .ref m0]) ⟨hx, hb, hml, hown, hts⟩ (c_none_f l D b (by omega)) (va_cwS 1 hts (sm_gS (i1 := 263) (i2 := 264) (i4 := 2) (i5 := 265) rfl rfl rfl rfl) rfl rfl rfl (by decide +kernel) ⟨Nat.le_of_ble_eq_true rfl, Nat.le_of_ble_eq_true rfl⟩) hK [] rfl hP hD hS hA [] [0, 1, 2, 3, 4, 5, 6] rfl rfl (by decide) (by decide) (by decide) rfl hl.1 rfl (Nat.le_of_ble_eq_true rfl) dX1_op_41 ⟨Nat.le_of_ble_eq_true rfl, Nat.le_of_ble_eq_true rfl⟩ rfl rfl (fun H locs hP hD hS => ?_)
  refine lv_if_eq (tgt := 51) hx hb dX1_op_44 rfl (fun _ => ?_) (fun z => absurd (by decide) z)
  refine lv_iconst (v := 0) hx hb dX1_op_51 (by decide) ?_
  refine lv_iconst (v := 2) hx hb dX1_op_52 (by decide) ?_
  refine sm_callV (C := RX1) (As := [.int (sm_bI false), .int 2]) (rest := []) (wr := []) (wn := (sm_wM cZ m0 m1 m2 m3 m4 m5 m6 0 (sm_fb V) (sm_fb S) (sm_fo M) (sm_fl M) (sm_fw O) (sm_fw G))) (st1 := [.int (sm_bI false)]) ⟨hx, hb, hml, hown, hts⟩ (c_fails_f l D cZ m0 m1 m2 m3 m4 m5 m6 0 V S M O G 2) (cwV 2 hts (sm_gV (i1 := 266) (i2 := 267) (i3 := 348) (i4 := 2) (i5 := 268) rfl rfl rfl rfl rfl) rfl rfl rfl (by decide +kernel) ⟨Nat.le_of_ble_eq_true rfl, Nat.le_of_ble_eq_true rfl⟩) hK [0] rfl hP hD hS hA 0 rfl rfl [0, 1, 2, 3, 4, 5, 6] [] rfl rfl (by decide) (by decide) (by decide) rfl hl.1 rfl (Nat.le_of_ble_eq_true rfl) dX1_op_53 ⟨Nat.le_of_ble_eq_true rfl, Nat.le_of_ble_eq_true rfl⟩ rfl rfl (fun H locs hP hD hS => ?_)
  refine lv_if_eq (tgt := 60) hx hb dX1_op_56 rfl (fun _ => ?_) (fun z => absurd (by decide) z)
  refine lv_aload_n hx hb dX1_op_60 rfl (lv_at hl 0 rfl) ?_
  refine lv_iload_n hx hb dX1_op_61 rfl (lv_at hl 3 rfl) ?_
  refine sm_callV (C := RX1) (As := [.int (nI a)]) (rest := []) (wr := []) (wn := (sm_wM cZ m0 m1 m2 m3 m4 m5 m6 0 (sm_fb V) (sm_fb S) (sm_fo M) (sm_fl M) (sm_fw O) (sm_fw G))) (st1 := [.int (V a)]) ⟨hx, hb, hml, hown, hts⟩ (c_number l D cZ m0 m1 m2 m3 m4 m5 m6 0 V S M O G a (by omega)) (cwV 1 hts (sm_gV (i1 := 279) (i2 := 280) (i3 := 351) (i4 := 2) (i5 := 281) rfl rfl rfl rfl rfl) rfl rfl rfl (by decide +kernel) ⟨Nat.le_of_ble_eq_true rfl, Nat.le_of_ble_eq_true rfl⟩) hK [0] rfl hP hD hS hA 0 rfl rfl [0, 1, 2, 3, 4, 5, 6] [] rfl rfl (by decide) (by decide) (by decide) rfl hl.1 rfl (Nat.le_of_ble_eq_true rfl) dX1_op_62 ⟨Nat.le_of_ble_eq_true rfl, Nat.le_of_ble_eq_true rfl⟩ rfl rfl (fun H locs hP hD hS => ?_)
  refine lv_istore (lv' := [(5, .int (V a)), (0, .ref m0), (1, .int 8), (2, .int (nI d)), (3, .int (nI a)), (4, .int (nI b))]) hx hb dX1_op_65 hl (by decide) rfl (fun ls hl => ?_)
  refine lv_aload_n hx hb dX1_op_67 rfl (lv_at hl 1 rfl) ?_
  refine lv_iload hx hb dX1_op_68 (lv_at hl 5 rfl) ?_
  refine sm_callV (C := RX1) (As := [.int (nI b)]) (rest := []) (wr := []) (wn := (sm_wM cZ m0 m1 m2 m3 m4 m5 m6 0 (sm_fb V) (sm_fb S) (sm_fo M) (sm_fl M) (sm_fw O) (sm_fw G))) (st1 := [.int (V b)]) ⟨hx, hb, hml, hown, hts⟩ (c_number l D cZ m0 m1 m2 m3 m4 m5 m6 0 V S M O G b (by omega)) (cwV 1 hts (sm_gV (i1 := 279) (i2 := 280) (i3 := 351) (i4 := 2) (i5 := 281) rfl rfl rfl rfl rfl) rfl rfl rfl (by decide +kernel) ⟨Nat.le_of_ble_eq_true rfl, Nat.le_of_ble_eq_true rfl⟩) hK [0] rfl hP hD hS hA 0 rfl rfl [0, 1, 2, 3, 4, 5, 6] [] rfl rfl (by decide) (by decide) (by decide) rfl hl.1 rfl (Nat.le_of_ble_eq_true rfl) dX1_op_70 ⟨Nat.le_of_ble_eq_true rfl, Nat.le_of_ble_eq_true rfl⟩ rfl rfl (fun H locs hP hD hS => ?_)
  refine lv_istore (lv' := [(6, .int (V b)), (5, .int (V a)), (0, .ref m0), (1, .int 8), (2, .int (nI d)), (3, .int (nI a)), (4, .int (nI b))]) hx hb dX1_op_73 hl (by decide) rfl (fun ls hl => ?_)
  refine lv_aload_n hx hb dX1_op_75 rfl (lv_at hl 2 rfl) ?_
  refine lv_iload_n hx hb dX1_op_76 rfl (lv_at hl 5 rfl) ?_
  refine sm_callV (C := RX1) (As := [.int (nI a)]) (rest := []) (wr := []) (wn := (sm_wM cZ m0 m1 m2 m3 m4 m5 m6 0 (sm_fb V) (sm_fb S) (sm_fo M) (sm_fl M) (sm_fw O) (sm_fw G))) (st1 := [.int (nI (sm_tz (S a)))]) ⟨hx, hb, hml, hown, hts⟩ (c_lowest l D cZ m0 m1 m2 m3 m4 m5 m6 0 V S M O G a (by omega)) (cwV 1 hts (sm_gV (i1 := 282) (i2 := 283) (i3 := 352) (i4 := 2) (i5 := 284) rfl rfl rfl rfl rfl) rfl rfl rfl (by decide +kernel) ⟨Nat.le_of_ble_eq_true rfl, Nat.le_of_ble_eq_true rfl⟩) hK [0] rfl hP hD hS hA 0 rfl rfl [0, 1, 2, 3, 4, 5, 6] [] rfl rfl (by decide) (by decide) (by decide) rfl hl.1 rfl (Nat.le_of_ble_eq_true rfl) dX1_op_77 ⟨Nat.le_of_ble_eq_true rfl, Nat.le_of_ble_eq_true rfl⟩ rfl rfl (fun H locs hP hD hS => ?_)
  refine lv_aload_n hx hb dX1_op_80 rfl (lv_at hl 2 rfl) ?_
  refine lv_iload hx hb dX1_op_81 (lv_at hl 6 rfl) ?_
  refine sm_callV (C := RX1) (As := [.int (nI b)]) (rest := [.int (nI (sm_tz (S a)))]) (wr := []) (wn := (sm_wM cZ m0 m1 m2 m3 m4 m5 m6 0 (sm_fb V) (sm_fb S) (sm_fo M) (sm_fl M) (sm_fw O) (sm_fw G))) (st1 := [.int (nI (sm_tz (S b))), .int (nI (sm_tz (S a)))]) ⟨hx, hb, hml, hown, hts⟩ (c_lowest l D cZ m0 m1 m2 m3 m4 m5 m6 0 V S M O G b (by omega)) (cwV 1 hts (sm_gV (i1 := 282) (i2 := 283) (i3 := 352) (i4 := 2) (i5 := 284) rfl rfl rfl rfl rfl) rfl rfl rfl (by decide +kernel) ⟨Nat.le_of_ble_eq_true rfl, Nat.le_of_ble_eq_true rfl⟩) hK [0] rfl hP hD hS hA 0 rfl rfl [0, 1, 2, 3, 4, 5, 6] [] rfl rfl (by decide) (by decide) (by decide) rfl hl.1 rfl (Nat.le_of_ble_eq_true rfl) dX1_op_83 ⟨Nat.le_of_ble_eq_true rfl, Nat.le_of_ble_eq_true rfl⟩ rfl rfl (fun H locs hP hD hS => ?_)
  refine sm_joinH (pcJ := 103) (t := nI (sm_tz (S a ||| S b))) (lv := [(0, .ref m0), (1, .int 8), (2, .int (nI d)), (3, .int (nI a)), (4, .int (nI b)), (5, .int (V a)), (6, .int (V b))]) (w := (sm_wM cZ m0 m1 m2 m3 m4 m5 m6 0 (sm_fb V) (sm_fb S) (sm_fo M) (sm_fl M) (sm_fw O) (sm_fw G))) (rest := []) hl hP hD hS (fun j103 => ?_) (fun H locs ls hl hP hD hS => ?_)
  · refine lv_icmp_ge (tgt := 97) hx hb dX1_op_86 rfl (fun h86 => ?_) (fun h86 => ?_)
    · refine lv_aload_n hx hb dX1_op_97 rfl (lv_at hl 2 rfl) ?_
      refine lv_iload hx hb dX1_op_98 (lv_at hl 6 rfl) ?_
      refine sm_callV (C := RX1) (As := [.int (nI b)]) (rest := []) (wr := []) (wn := (sm_wM cZ m0 m1 m2 m3 m4 m5 m6 0 (sm_fb V) (sm_fb S) (sm_fo M) (sm_fl M) (sm_fw O) (sm_fw G))) (st1 := [.int (nI (sm_tz (S b)))]) ⟨hx, hb, hml, hown, hts⟩ (c_lowest l D cZ m0 m1 m2 m3 m4 m5 m6 0 V S M O G b (by omega)) (cwV 1 hts (sm_gV (i1 := 282) (i2 := 283) (i3 := 352) (i4 := 2) (i5 := 284) rfl rfl rfl rfl rfl) rfl rfl rfl (by decide +kernel) ⟨Nat.le_of_ble_eq_true rfl, Nat.le_of_ble_eq_true rfl⟩) hK [0] rfl hP hD hS hA 0 rfl rfl [0, 1, 2, 3, 4, 5, 6] [] rfl rfl (by decide) (by decide) (by decide) rfl hl.1 rfl (Nat.le_of_ble_eq_true rfl) dX1_op_100 ⟨Nat.le_of_ble_eq_true rfl, Nat.le_of_ble_eq_true rfl⟩ rfl rfl (fun H locs hP hD hS => ?_)
      refine sm_eqi (y := nI (sm_tz (S a ||| S b))) (sm_low2 h86) ?_
      exact j103 _ _ _ (lv_sub hl [2, 3, 4, 5, 6, 1, 0] rfl) hP hD hS
    · refine lv_aload_n hx hb dX1_op_89 rfl (lv_at hl 2 rfl) ?_
      refine lv_iload_n hx hb dX1_op_90 rfl (lv_at hl 5 rfl) ?_
      refine sm_callV (C := RX1) (As := [.int (nI a)]) (rest := []) (wr := []) (wn := (sm_wM cZ m0 m1 m2 m3 m4 m5 m6 0 (sm_fb V) (sm_fb S) (sm_fo M) (sm_fl M) (sm_fw O) (sm_fw G))) (st1 := [.int (nI (sm_tz (S a)))]) ⟨hx, hb, hml, hown, hts⟩ (c_lowest l D cZ m0 m1 m2 m3 m4 m5 m6 0 V S M O G a (by omega)) (cwV 1 hts (sm_gV (i1 := 282) (i2 := 283) (i3 := 352) (i4 := 2) (i5 := 284) rfl rfl rfl rfl rfl) rfl rfl rfl (by decide +kernel) ⟨Nat.le_of_ble_eq_true rfl, Nat.le_of_ble_eq_true rfl⟩) hK [0] rfl hP hD hS hA 0 rfl rfl [0, 1, 2, 3, 4, 5, 6] [] rfl rfl (by decide) (by decide) (by decide) rfl hl.1 rfl (Nat.le_of_ble_eq_true rfl) dX1_op_91 ⟨Nat.le_of_ble_eq_true rfl, Nat.le_of_ble_eq_true rfl⟩ rfl rfl (fun H locs hP hD hS => ?_)
      refine lv_goto (tgt := 103) hx hb dX1_op_94 rfl ?_
      refine sm_eqi (y := nI (sm_tz (S a ||| S b))) (sm_low1 h86) ?_
      exact j103 _ _ _ (lv_sub hl [2, 3, 4, 5, 6, 1, 0] rfl) hP hD hS
  refine lv_istore (lv' := [(7, .int (nI (sm_tz (S a ||| S b)))), (0, .ref m0), (1, .int 8), (2, .int (nI d)), (3, .int (nI a)), (4, .int (nI b)), (5, .int (V a)), (6, .int (V b))]) hx hb dX1_op_103 hl (by decide) rfl (fun ls hl => ?_)
  refine lv_iload_n hx hb dX1_op_105 rfl (lv_at hl 2 rfl) ?_
  refine lv_tableIn (off := 297) (tgt := 403) hx hb dX1_op_106 (by decide) (by decide) (by decide) (by decide) ?_
  refine lv_aload_n hx hb dX1_op_403 rfl (lv_at hl 1 rfl) ?_
  refine lv_iload hx hb dX1_op_404 (lv_at hl 6 rfl) ?_
  refine lv_iload hx hb dX1_op_406 (lv_at hl 7 rfl) ?_
  refine lv_imul hx hb dX1_op_408 ?_
  refine sm_callV (C := RX1) (As := [.int ((V a) * (V b))]) (rest := []) (wr := []) (wn := (sm_wM cZ m0 m1 m2 m3 m4 m5 m6 0 (sm_fb V) (sm_fb S) (sm_fo M) (sm_fl M) (sm_fw ((V a) * (V b))) (sm_fw 0))) (st1 := []) ⟨hx, hb, hml, hown, hts⟩ (c_make l D cZ m0 m1 m2 m3 m4 m5 m6 0 V S M O G ((V a) * (V b))) (cwV 1 hts (sm_gV (i1 := 269) (i2 := 270) (i3 := 349) (i4 := 2) (i5 := 271) rfl rfl rfl rfl rfl) rfl rfl rfl (by decide +kernel) ⟨Nat.le_of_ble_eq_true rfl, Nat.le_of_ble_eq_true rfl⟩) hK [0] rfl hP hD hS hA 0 rfl rfl [0, 1, 2, 3, 4, 5, 6] [] rfl rfl (by decide) (by decide) (by decide) rfl hl.1 rfl (Nat.le_of_ble_eq_true rfl) dX1_op_409 ⟨Nat.le_of_ble_eq_true rfl, Nat.le_of_ble_eq_true rfl⟩ rfl rfl (fun H locs hP hD hS => ?_)
  refine sm_joinH (pcJ := 450) (t := nI (sm_mp (sm_tz (S a)) (sm_tz (V b ||| S b)))) (lv := [(0, .ref m0), (2, .int (nI d)), (3, .int (nI a)), (4, .int (nI b))]) (w := (sm_wM cZ m0 m1 m2 m3 m4 m5 m6 0 (sm_fb V) (sm_fb S) (sm_fo M) (sm_fl M) (sm_fw ((V a) * (V b))) (sm_fw 0))) (rest := []) hl hP hD hS (fun j450 => ?_) (fun H locs ls hl hP hD hS => ?_)
  · refine lv_aload_n hx hb dX1_op_412 rfl (lv_at hl 1 rfl) ?_
    refine lv_iload_n hx hb dX1_op_413 rfl (lv_at hl 4 rfl) ?_
    refine sm_callV (C := RX1) (As := [.int (nI a)]) (rest := []) (wr := []) (wn := (sm_wM cZ m0 m1 m2 m3 m4 m5 m6 0 (sm_fb V) (sm_fb S) (sm_fo M) (sm_fl M) (sm_fw ((V a) * (V b))) (sm_fw 0))) (st1 := [.int (nI (sm_tz (S a)))]) ⟨hx, hb, hml, hown, hts⟩ (c_lowest l D cZ m0 m1 m2 m3 m4 m5 m6 0 V S M ((V a) * (V b)) 0 a (by omega)) (cwV 1 hts (sm_gV (i1 := 282) (i2 := 283) (i3 := 352) (i4 := 2) (i5 := 284) rfl rfl rfl rfl rfl) rfl rfl rfl (by decide +kernel) ⟨Nat.le_of_ble_eq_true rfl, Nat.le_of_ble_eq_true rfl⟩) hK [0] rfl hP hD hS hA 0 rfl rfl [0, 1, 2, 3, 4, 5, 6] [] rfl rfl (by decide) (by decide) (by decide) rfl hl.1 rfl (Nat.le_of_ble_eq_true rfl) dX1_op_414 ⟨Nat.le_of_ble_eq_true rfl, Nat.le_of_ble_eq_true rfl⟩ rfl rfl (fun H locs hP hD hS => ?_)
    refine lv_bipush (v := 32) hx hb dX1_op_417 (by decide) ?_
    refine lv_icmp_eq (tgt := 433) hx hb dX1_op_419 rfl (fun h419 => ?_) (fun h419 => ?_)
    · refine lv_bipush (v := 32) hx hb dX1_op_433 (by decide) ?_
      refine lv_goto (tgt := 450) hx hb dX1_op_435 rfl ?_
      refine sm_eqi (y := nI (sm_mp (sm_tz (S a)) (sm_tz (V b ||| S b)))) (sm_mp1 (by omega) h419) ?_
      exact j450 _ _ _ (lv_sub hl [1, 3, 4, 5] rfl) hP hD hS
    · refine lv_aload_n hx hb dX1_op_422 rfl (lv_at hl 1 rfl) ?_
      refine lv_iload hx hb dX1_op_423 (lv_at hl 5 rfl) ?_
      refine sm_callV (C := RX1) (As := [.int (nI b)]) (rest := []) (wr := []) (wn := (sm_wM cZ m0 m1 m2 m3 m4 m5 m6 0 (sm_fb V) (sm_fb S) (sm_fo M) (sm_fl M) (sm_fw ((V a) * (V b))) (sm_fw 0))) (st1 := [.int (nI (sm_tz (V b ||| S b)))]) ⟨hx, hb, hml, hown, hts⟩ (c_noughts l D cZ m0 m1 m2 m3 m4 m5 m6 0 V S M ((V a) * (V b)) 0 b (by omega)) (cwV 1 hts (sm_gV (i1 := 297) (i2 := 298) (i3 := 357) (i4 := 2) (i5 := 299) rfl rfl rfl rfl rfl) rfl rfl rfl (by decide +kernel) ⟨Nat.le_of_ble_eq_true rfl, Nat.le_of_ble_eq_true rfl⟩) hK [0] rfl hP hD hS hA 0 rfl rfl [0, 1, 2, 3, 4, 5, 6] [] rfl rfl (by decide) (by decide) (by decide) rfl hl.1 rfl (Nat.le_of_ble_eq_true rfl) dX1_op_425 ⟨Nat.le_of_ble_eq_true rfl, Nat.le_of_ble_eq_true rfl⟩ rfl rfl (fun H locs hP hD hS => ?_)
      refine lv_bipush (v := 32) hx hb dX1_op_428 (by decide) ?_
      refine lv_icmp_ne (tgt := 438) hx hb dX1_op_430 rfl (fun h430 => ?_) (fun h430 => ?_)
      · refine lv_aload_n hx hb dX1_op_438 rfl (lv_at hl 1 rfl) ?_
        refine lv_iload_n hx hb dX1_op_439 rfl (lv_at hl 4 rfl) ?_
        refine sm_callV (C := RX1) (As := [.int (nI a)]) (rest := []) (wr := []) (wn := (sm_wM cZ m0 m1 m2 m3 m4 m5 m6 0 (sm_fb V) (sm_fb S) (sm_fo M) (sm_fl M) (sm_fw ((V a) * (V b))) (sm_fw 0))) (st1 := [.int (nI (sm_tz (S a)))]) ⟨hx, hb, hml, hown, hts⟩ (c_lowest l D cZ m0 m1 m2 m3 m4 m5 m6 0 V S M ((V a) * (V b)) 0 a (by omega)) (cwV 1 hts (sm_gV (i1 := 282) (i2 := 283) (i3 := 352) (i4 := 2) (i5 := 284) rfl rfl rfl rfl rfl) rfl rfl rfl (by decide +kernel) ⟨Nat.le_of_ble_eq_true rfl, Nat.le_of_ble_eq_true rfl⟩) hK [0] rfl hP hD hS hA 0 rfl rfl [0, 1, 2, 3, 4, 5, 6] [] rfl rfl (by decide) (by decide) (by decide) rfl hl.1 rfl (Nat.le_of_ble_eq_true rfl) dX1_op_440 ⟨Nat.le_of_ble_eq_true rfl, Nat.le_of_ble_eq_true rfl⟩ rfl rfl (fun H locs hP hD hS => ?_)
        refine lv_aload_n hx hb dX1_op_443 rfl (lv_at hl 1 rfl) ?_
        refine lv_iload hx hb dX1_op_444 (lv_at hl 5 rfl) ?_
        refine sm_callV (C := RX1) (As := [.int (nI b)]) (rest := [.int (nI (sm_tz (S a)))]) (wr := []) (wn := (sm_wM cZ m0 m1 m2 m3 m4 m5 m6 0 (sm_fb V) (sm_fb S) (sm_fo M) (sm_fl M) (sm_fw ((V a) * (V b))) (sm_fw 0))) (st1 := [.int (nI (sm_tz (V b ||| S b))), .int (nI (sm_tz (S a)))]) ⟨hx, hb, hml, hown, hts⟩ (c_noughts l D cZ m0 m1 m2 m3 m4 m5 m6 0 V S M ((V a) * (V b)) 0 b (by omega)) (cwV 1 hts (sm_gV (i1 := 297) (i2 := 298) (i3 := 357) (i4 := 2) (i5 := 299) rfl rfl rfl rfl rfl) rfl rfl rfl (by decide +kernel) ⟨Nat.le_of_ble_eq_true rfl, Nat.le_of_ble_eq_true rfl⟩) hK [0] rfl hP hD hS hA 0 rfl rfl [0, 1, 2, 3, 4, 5, 6] [] rfl rfl (by decide) (by decide) (by decide) rfl hl.1 rfl (Nat.le_of_ble_eq_true rfl) dX1_op_446 ⟨Nat.le_of_ble_eq_true rfl, Nat.le_of_ble_eq_true rfl⟩ rfl rfl (fun H locs hP hD hS => ?_)
        refine lv_iadd hx hb dX1_op_449 ?_
        refine sm_eqi (y := nI ((sm_tz (S a)) + (sm_tz (V b ||| S b)))) (nI_add (sm_tz (S a)) (sm_tz (V b ||| S b))) ?_
        refine sm_eqi (y := nI (sm_mp (sm_tz (S a)) (sm_tz (V b ||| S b)))) (sm_mp3 h419 h430) ?_
        exact j450 _ _ _ (lv_sub hl [1, 3, 4, 5] rfl) hP hD hS
      · refine lv_bipush (v := 32) hx hb dX1_op_433 (by decide) ?_
        refine lv_goto (tgt := 450) hx hb dX1_op_435 rfl ?_
        refine sm_eqi (y := nI (sm_mp (sm_tz (S a)) (sm_tz (V b ||| S b)))) (sm_mp2 (by omega) h419 h430) ?_
        exact j450 _ _ _ (lv_sub hl [1, 3, 4, 5] rfl) hP hD hS
  refine lv_istore (lv' := [(8, .int (nI (sm_mp (sm_tz (S a)) (sm_tz (V b ||| S b))))), (0, .ref m0), (2, .int (nI d)), (3, .int (nI a)), (4, .int (nI b))]) hx hb dX1_op_450 hl (by decide) rfl (fun ls hl => ?_)
  refine sm_joinH (pcJ := 490) (t := nI (sm_mp (sm_tz (S b)) (sm_tz (V a ||| S a)))) (lv := [(0, .ref m0), (2, .int (nI d)), (3, .int (nI a)), (4, .int (nI b)), (8, .int (nI (sm_mp (sm_tz (S a)) (sm_tz (V b ||| S b)))))]) (w := (sm_wM cZ m0 m1 m2 m3 m4 m5 m6 0 (sm_fb V) (sm_fb S) (sm_fo M) (sm_fl M) (sm_fw ((V a) * (V b))) (sm_fw 0))) (rest := []) hl hP hD hS (fun j490 => ?_) (fun H locs ls hl hP hD hS => ?_)
  · refine lv_aload_n hx hb dX1_op_452 rfl (lv_at hl 1 rfl) ?_
    refine lv_iload hx hb dX1_op_453 (lv_at hl 4 rfl) ?_
    refine sm_callV (C := RX1) (As := [.int (nI b)]) (rest := []) (wr := []) (wn := (sm_wM cZ m0 m1 m2 m3 m4 m5 m6 0 (sm_fb V) (sm_fb S) (sm_fo M) (sm_fl M) (sm_fw ((V a) * (V b))) (sm_fw 0))) (st1 := [.int (nI (sm_tz (S b)))]) ⟨hx, hb, hml, hown, hts⟩ (c_lowest l D cZ m0 m1 m2 m3 m4 m5 m6 0 V S M ((V a) * (V b)) 0 b (by omega)) (cwV 1 hts (sm_gV (i1 := 282) (i2 := 283) (i3 := 352) (i4 := 2) (i5 := 284) rfl rfl rfl rfl rfl) rfl rfl rfl (by decide +kernel) ⟨Nat.le_of_ble_eq_true rfl, Nat.le_of_ble_eq_true rfl⟩) hK [0] rfl hP hD hS hA 0 rfl rfl [0, 1, 2, 3, 4, 5, 6] [] rfl rfl (by decide) (by decide) (by decide) rfl hl.1 rfl (Nat.le_of_ble_eq_true rfl) dX1_op_455 ⟨Nat.le_of_ble_eq_true rfl, Nat.le_of_ble_eq_true rfl⟩ rfl rfl (fun H locs hP hD hS => ?_)
    refine lv_bipush (v := 32) hx hb dX1_op_458 (by decide) ?_
    refine lv_icmp_eq (tgt := 473) hx hb dX1_op_460 rfl (fun h460 => ?_) (fun h460 => ?_)
    · refine lv_bipush (v := 32) hx hb dX1_op_473 (by decide) ?_
      refine lv_goto (tgt := 490) hx hb dX1_op_475 rfl ?_
      refine sm_eqi (y := nI (sm_mp (sm_tz (S b)) (sm_tz (V a ||| S a)))) (sm_mp1 (by omega) h460) ?_
      exact j490 _ _ _ (lv_sub hl [1, 2, 3, 4, 0] rfl) hP hD hS
    · refine lv_aload_n hx hb dX1_op_463 rfl (lv_at hl 1 rfl) ?_
      refine lv_iload_n hx hb dX1_op_464 rfl (lv_at hl 3 rfl) ?_
      refine sm_callV (C := RX1) (As := [.int (nI a)]) (rest := []) (wr := []) (wn := (sm_wM cZ m0 m1 m2 m3 m4 m5 m6 0 (sm_fb V) (sm_fb S) (sm_fo M) (sm_fl M) (sm_fw ((V a) * (V b))) (sm_fw 0))) (st1 := [.int (nI (sm_tz (V a ||| S a)))]) ⟨hx, hb, hml, hown, hts⟩ (c_noughts l D cZ m0 m1 m2 m3 m4 m5 m6 0 V S M ((V a) * (V b)) 0 a (by omega)) (cwV 1 hts (sm_gV (i1 := 297) (i2 := 298) (i3 := 357) (i4 := 2) (i5 := 299) rfl rfl rfl rfl rfl) rfl rfl rfl (by decide +kernel) ⟨Nat.le_of_ble_eq_true rfl, Nat.le_of_ble_eq_true rfl⟩) hK [0] rfl hP hD hS hA 0 rfl rfl [0, 1, 2, 3, 4, 5, 6] [] rfl rfl (by decide) (by decide) (by decide) rfl hl.1 rfl (Nat.le_of_ble_eq_true rfl) dX1_op_465 ⟨Nat.le_of_ble_eq_true rfl, Nat.le_of_ble_eq_true rfl⟩ rfl rfl (fun H locs hP hD hS => ?_)
      refine lv_bipush (v := 32) hx hb dX1_op_468 (by decide) ?_
      refine lv_icmp_ne (tgt := 478) hx hb dX1_op_470 rfl (fun h470 => ?_) (fun h470 => ?_)
      · refine lv_aload_n hx hb dX1_op_478 rfl (lv_at hl 1 rfl) ?_
        refine lv_iload hx hb dX1_op_479 (lv_at hl 4 rfl) ?_
        refine sm_callV (C := RX1) (As := [.int (nI b)]) (rest := []) (wr := []) (wn := (sm_wM cZ m0 m1 m2 m3 m4 m5 m6 0 (sm_fb V) (sm_fb S) (sm_fo M) (sm_fl M) (sm_fw ((V a) * (V b))) (sm_fw 0))) (st1 := [.int (nI (sm_tz (S b)))]) ⟨hx, hb, hml, hown, hts⟩ (c_lowest l D cZ m0 m1 m2 m3 m4 m5 m6 0 V S M ((V a) * (V b)) 0 b (by omega)) (cwV 1 hts (sm_gV (i1 := 282) (i2 := 283) (i3 := 352) (i4 := 2) (i5 := 284) rfl rfl rfl rfl rfl) rfl rfl rfl (by decide +kernel) ⟨Nat.le_of_ble_eq_true rfl, Nat.le_of_ble_eq_true rfl⟩) hK [0] rfl hP hD hS hA 0 rfl rfl [0, 1, 2, 3, 4, 5, 6] [] rfl rfl (by decide) (by decide) (by decide) rfl hl.1 rfl (Nat.le_of_ble_eq_true rfl) dX1_op_481 ⟨Nat.le_of_ble_eq_true rfl, Nat.le_of_ble_eq_true rfl⟩ rfl rfl (fun H locs hP hD hS => ?_)
        refine lv_aload_n hx hb dX1_op_484 rfl (lv_at hl 1 rfl) ?_
        refine lv_iload_n hx hb dX1_op_485 rfl (lv_at hl 3 rfl) ?_
        refine sm_callV (C := RX1) (As := [.int (nI a)]) (rest := [.int (nI (sm_tz (S b)))]) (wr := []) (wn := (sm_wM cZ m0 m1 m2 m3 m4 m5 m6 0 (sm_fb V) (sm_fb S) (sm_fo M) (sm_fl M) (sm_fw ((V a) * (V b))) (sm_fw 0))) (st1 := [.int (nI (sm_tz (V a ||| S a))), .int (nI (sm_tz (S b)))]) ⟨hx, hb, hml, hown, hts⟩ (c_noughts l D cZ m0 m1 m2 m3 m4 m5 m6 0 V S M ((V a) * (V b)) 0 a (by omega)) (cwV 1 hts (sm_gV (i1 := 297) (i2 := 298) (i3 := 357) (i4 := 2) (i5 := 299) rfl rfl rfl rfl rfl) rfl rfl rfl (by decide +kernel) ⟨Nat.le_of_ble_eq_true rfl, Nat.le_of_ble_eq_true rfl⟩) hK [0] rfl hP hD hS hA 0 rfl rfl [0, 1, 2, 3, 4, 5, 6] [] rfl rfl (by decide) (by decide) (by decide) rfl hl.1 rfl (Nat.le_of_ble_eq_true rfl) dX1_op_486 ⟨Nat.le_of_ble_eq_true rfl, Nat.le_of_ble_eq_true rfl⟩ rfl rfl (fun H locs hP hD hS => ?_)
        refine lv_iadd hx hb dX1_op_489 ?_
        refine sm_eqi (y := nI ((sm_tz (S b)) + (sm_tz (V a ||| S a)))) (nI_add (sm_tz (S b)) (sm_tz (V a ||| S a))) ?_
        refine sm_eqi (y := nI (sm_mp (sm_tz (S b)) (sm_tz (V a ||| S a)))) (sm_mp3 h460 h470) ?_
        exact j490 _ _ _ (lv_sub hl [1, 2, 3, 4, 0] rfl) hP hD hS
      · refine lv_bipush (v := 32) hx hb dX1_op_473 (by decide) ?_
        refine lv_goto (tgt := 490) hx hb dX1_op_475 rfl ?_
        refine sm_eqi (y := nI (sm_mp (sm_tz (S b)) (sm_tz (V a ||| S a)))) (sm_mp2 (by omega) h460 h470) ?_
        exact j490 _ _ _ (lv_sub hl [1, 2, 3, 4, 0] rfl) hP hD hS
  refine lv_istore (lv' := [(9, .int (nI (sm_mp (sm_tz (S b)) (sm_tz (V a ||| S a))))), (0, .ref m0), (2, .int (nI d)), (3, .int (nI a)), (4, .int (nI b)), (8, .int (nI (sm_mp (sm_tz (S a)) (sm_tz (V b ||| S b)))))]) hx hb dX1_op_490 hl (by decide) rfl (fun ls hl => ?_)
  refine lv_aload_n hx hb dX1_op_492 rfl (lv_at hl 1 rfl) ?_
  refine sm_joinH (pcJ := 507) (t := nI (sm_mn (sm_mp (sm_tz (S a)) (sm_tz (V b ||| S b))) (sm_mp (sm_tz (S b)) (sm_tz (V a ||| S a))))) (lv := [(0, .ref m0), (2, .int (nI d))]) (w := (sm_wM cZ m0 m1 m2 m3 m4 m5 m6 0 (sm_fb V) (sm_fb S) (sm_fo M) (sm_fl M) (sm_fw ((V a) * (V b))) (sm_fw 0))) (rest := [.ref m0]) hl hP hD hS (fun j507 => ?_) (fun H locs ls hl hP hD hS => ?_)
  · refine lv_iload hx hb dX1_op_493 (lv_at hl 5 rfl) ?_
    refine lv_iload hx hb dX1_op_495 (lv_at hl 0 rfl) ?_
    refine lv_icmp_ge (tgt := 505) hx hb dX1_op_497 rfl (fun h497 => ?_) (fun h497 => ?_)
    · refine lv_iload hx hb dX1_op_505 (lv_at hl 0 rfl) ?_
      refine sm_eqi (y := nI (sm_mn (sm_mp (sm_tz (S a)) (sm_tz (V b ||| S b))) (sm_mp (sm_tz (S b)) (sm_tz (V a ||| S a))))) (sm_mn0 (by omega) (by omega) h497) ?_
      exact j507 _ _ _ (lv_sub hl [1, 2] rfl) hP hD hS
    · refine lv_iload hx hb dX1_op_500 (lv_at hl 5 rfl) ?_
      refine lv_goto (tgt := 507) hx hb dX1_op_502 rfl ?_
      refine sm_eqi (y := nI (sm_mn (sm_mp (sm_tz (S a)) (sm_tz (V b ||| S b))) (sm_mp (sm_tz (S b)) (sm_tz (V a ||| S a))))) (sm_mn1 (by omega) (by omega) h497) ?_
      exact j507 _ _ _ (lv_sub hl [1, 2] rfl) hP hD hS
  refine sm_callV (C := RX1) (As := [.int (nI (sm_mn (sm_mp (sm_tz (S a)) (sm_tz (V b ||| S b))) (sm_mp (sm_tz (S b)) (sm_tz (V a ||| S a)))))]) (rest := []) (wr := []) (wn := (sm_wM cZ m0 m1 m2 m3 m4 m5 m6 0 (sm_fb V) (sm_fb S) (sm_fo M) (sm_fl M) (sm_fw ((V a) * (V b))) (sm_fw (sm_fr (sm_mn (sm_mp (sm_tz (S a)) (sm_tz (V b ||| S b))) (sm_mp (sm_tz (S b)) (sm_tz (V a ||| S a)))))))) (st1 := []) ⟨hx, hb, hml, hown, hts⟩ (c_from l D cZ m0 m1 m2 m3 m4 m5 m6 0 V S M ((V a) * (V b)) 0 (sm_mn (sm_mp (sm_tz (S a)) (sm_tz (V b ||| S b))) (sm_mp (sm_tz (S b)) (sm_tz (V a ||| S a)))) (Nat.lt_of_le_of_lt (sm_mn_le _ _) (by omega))) (cwV 1 hts (sm_gV (i1 := 288) (i2 := 289) (i3 := 354) (i4 := 2) (i5 := 290) rfl rfl rfl rfl rfl) rfl rfl rfl (by decide +kernel) ⟨Nat.le_of_ble_eq_true rfl, Nat.le_of_ble_eq_true rfl⟩) hK [0] rfl hP hD hS hA 0 rfl rfl [0, 1, 2, 3, 4, 5, 6] [] rfl rfl (by decide) (by decide) (by decide) rfl hl.1 rfl (Nat.le_of_ble_eq_true rfl) dX1_op_507 ⟨Nat.le_of_ble_eq_true rfl, Nat.le_of_ble_eq_true rfl⟩ rfl rfl (fun H locs hP hD hS => ?_)
  have hP : va_P D vwCl (sm_wM cZ m0 m1 m2 m3 m4 m5 m6 0 (sm_fb V) (sm_fb S) (sm_fo M) (sm_fl M) (sm_fw (V a * V b)) (sm_fw (sm_fr (sm_min (sm_tz (S a) + sm_tz (V b ||| S b)) (sm_tz (S b) + sm_tz (V a ||| S a)))))) H := sm_cP (by rw [sm_mul8 (by omega) (by omega) (by omega) (by omega)]) hP
  have hD : va_D _ (sm_wM cZ m0 m1 m2 m3 m4 m5 m6 0 (sm_fb V) (sm_fb S) (sm_fo M) (sm_fl M) (sm_fw (V a * V b)) (sm_fw (sm_fr (sm_min (sm_tz (S a) + sm_tz (V b ||| S b)) (sm_tz (S b) + sm_tz (V a ||| S a)))))) := sm_cD (by rw [sm_mul8 (by omega) (by omega) (by omega) (by omega)]) hD
  refine lv_goto (tgt := 778) hx hb dX1_op_510 rfl ?_
  refine lv_aload_n hx hb dX1_op_778 rfl (lv_at hl 0 rfl) ?_
  refine lv_iload_n hx hb dX1_op_779 rfl (lv_at hl 1 rfl) ?_
  refine sm_callV (C := RX1) (As := [.int (nI d)]) (rest := []) (wr := []) (wn := (sm_wM cZ m0 m1 m2 m3 m4 m5 m6 0 (sm_fb (upd V d (V a * V b))) (sm_fb (upd S d (sm_fr (sm_min (sm_tz (S a) + sm_tz (V b ||| S b)) (sm_tz (S b) + sm_tz (V a ||| S a)))))) (sm_fo M) (sm_fl M) (sm_fw (V a * V b)) (sm_fw (sm_fr (sm_min (sm_tz (S a) + sm_tz (V b ||| S b)) (sm_tz (S b) + sm_tz (V a ||| S a))))))) (st1 := []) ⟨hx, hb, hml, hown, hts⟩ (c_give l D cZ m0 m1 m2 m3 m4 m5 m6 0 V S M (V a * V b) (sm_fr (sm_min (sm_tz (S a) + sm_tz (V b ||| S b)) (sm_tz (S b) + sm_tz (V a ||| S a)))) d (by omega)) (cwV 1 hts (sm_gV (i1 := 272) (i2 := 273) (i3 := 350) (i4 := 2) (i5 := 274) rfl rfl rfl rfl rfl) rfl rfl rfl (by decide +kernel) ⟨Nat.le_of_ble_eq_true rfl, Nat.le_of_ble_eq_true rfl⟩) hK [0] rfl hP hD hS hA 0 rfl rfl [0, 1, 2, 3, 4, 5, 6] [] rfl rfl (by decide) (by decide) (by decide) rfl hl.1 rfl (Nat.le_of_ble_eq_true rfl) dX1_op_780 ⟨Nat.le_of_ble_eq_true rfl, Nat.le_of_ble_eq_true rfl⟩ rfl rfl (fun H locs hP hD hS => ?_)
  exact sm_vret hx hb hrt hlocks hS hP hD dX1_op_783
set_option maxHeartbeats 4000000 in
set_option maxRecDepth 100000 in
theorem c_mop_9 (l : Launch) (D : va_G) (cZ : ClassId) (m0 m1 m2 m3 m4 m5 m6 : Nat) (err : Int32) (V S M : Nat → Int32) (O G : Int32) (d a b : Nat) (hd : d < 16) (ha : a < 16) (hb' : b < 16) : sm_C l yX1_op wsX1_op ({ frames := 5, cells := 0, slots := 0, locals := 140 } : Room) D vwCl [(cZ, .boolean)] [.ref m0, .int 9, .int (nI d), .int (nI a), .int (nI b)] (sm_wM cZ m0 m1 m2 m3 m4 m5 m6 err (sm_fb V) (sm_fb S) (sm_fo M) (sm_fl M) (sm_fw O) (sm_fw G)) none (sm_wM cZ m0 m1 m2 m3 m4 m5 m6 0 (sm_fb (upd V d (sm_bI (decide (V a < V b))))) (sm_fb (upd S d (sm_bI (decide (sm_le (V a) (S a) < sm_he (V b) (S b)) && decide (sm_le (V b) (S b) ≤ sm_he (V a) (S a)))))) (sm_fo M) (sm_fl M) (sm_fw (sm_bI (decide (V a < V b)))) (sm_fw (sm_bI (decide (sm_le (V a) (S a) < sm_he (V b) (S b)) && decide (sm_le (V b) (S b) ≤ sm_he (V a) (S a)))))) := by
  refine sm_start (cc := cX1_op) (maxL := 11) (ret := none) (lv := [(0, .ref m0), (1, .int 9), (2, .int (nI d)), (3, .int (nI a)), (4, .int (nI b))]) (by decide) rfl (Nat.le_of_ble_eq_true rfl) rfl ?_
  intro p e s m below meth c hx hb hrt hts hown hlocks hml hin hK hP hD hS hA ls hl
  have hw := sm_hw hts
  have q5 := sm_tz_le (S a ||| S b)
  have q1 := sm_tz_le (S a)
  have q2 := sm_tz_le (S b)
  have q3 := sm_tz_le (V b ||| S b)
  have q4 := sm_tz_le (V a ||| S a)
  refine lv_aload_n hx hb dX1_op_0 rfl (lv_at hl 0 rfl) ?_
  refine lv_iload_n hx hb dX1_op_1 rfl (lv_at hl 1 rfl) ?_
  refine lv_if_lt (tgt := 11) hx hb dX1_op_2 rfl (fun z => absurd z (by decide)) (fun _ => ?_)
  refine lv_iload_n hx hb dX1_op_5 rfl (lv_at hl 1 rfl) ?_
  refine lv_bipush (v := 12) hx hb dX1_op_6 (by decide) ?_
  refine lv_icmp_le (tgt := 15) hx hb dX1_op_8 rfl (fun _ => ?_) (fun z => absurd (by decide) z)
  refine lv_iconst (v := 0) hx hb dX1_op_15 (by decide) ?_
  refine lv_iconst (v := 1) hx hb dX1_op_16 (by decide) ?_
  refine sm_callV (C := RX1) (As := [.int (sm_bI false), .int 1]) (rest := []) (wr := []) (wn := (sm_wM cZ m0 m1 m2 m3 m4 m5 m6 0 (sm_fb V) (sm_fb S) (sm_fo M) (sm_fl M) (sm_fw O) (sm_fw G))) (st1 := [.int (sm_bI false)]) ⟨hx, hb, hml, hown, hts⟩ (c_fails_f l D cZ m0 m1 m2 m3 m4 m5 m6 err V S M O G 1) (cwV 2 hts (sm_gV (i1 := 266) (i2 := 267) (i3 := 348) (i4 := 2) (i5 := 268) rfl rfl rfl rfl rfl) rfl rfl rfl (by decide +kernel) ⟨Nat.le_of_ble_eq_true rfl, Nat.le_of_ble_eq_true rfl⟩) hK [0] rfl hP hD hS hA 0 rfl rfl [0, 1, 2, 3, 4, 5, 6] [] rfl rfl (by decide) (by decide) (by decide) rfl hl.1 rfl (Nat.le_of_ble_eq_true rfl) dX1_op_17 ⟨Nat.le_of_ble_eq_true rfl, Nat.le_of_ble_eq_true rfl⟩ rfl rfl (fun H locs hP hD hS => ?_)
  refine lv_if_eq (tgt := 24) hx hb dX1_op_20 rfl (fun _ => ?_) (fun z => absurd (by decide) z)
  refine lv_aload_n hx hb dX1_op_24 rfl (lv_at hl 0 rfl) ?_
  refine lv_iload_n hx hb dX1_op_25 rfl (lv_at hl 2 rfl) ?_
  refine sm_callS (As := [.int (nI d)]) (rest := [.ref m0]) (wr := (sm_wM cZ m0 m1 m2 m3 m4 m5 m6 0 (sm_fb V) (sm_fb S) (sm_fo M) (sm_fl M) (sm_fw O) (sm_fw G))) (wn := (sm_wM cZ m0 m1 m2 m3 m4 m5 m6 0 (sm_fb V) (sm_fb S) (sm_fo M) (sm_fl M) (sm_fw O) (sm_fw G))) (st1 := [.int (sm_bI false), .ref m0]) ⟨hx, hb, hml, hown, hts⟩ (c_none_f l D d (by omega)) (va_cwS 1 hts (sm_gS (i1 := 263) (i2 := 264) (i4 := 2) (i5 := 265) rfl rfl rfl rfl) rfl rfl rfl (by decide +kernel) ⟨Nat.le_of_ble_eq_true rfl, Nat.le_of_ble_eq_true rfl⟩) hK [] rfl hP hD hS hA [] [0, 1, 2, 3, 4, 5, 6] rfl rfl (by decide) (by decide) (by decide) rfl hl.1 rfl (Nat.le_of_ble_eq_true rfl) dX1_op_26 ⟨Nat.le_of_ble_eq_true rfl, Nat.le_of_ble_eq_true rfl⟩ rfl rfl (fun H locs hP hD hS => ?_)
  refine lv_if_ne (tgt := 47) hx hb dX1_op_29 rfl (fun z => absurd (by decide) z) (fun _ => ?_)
  refine lv_iload_n hx hb dX1_op_32 rfl (lv_at hl 3 rfl) ?_
  refine sm_callS (As := [.int (nI a)]) (rest := [.ref m0]) (wr := (sm_wM cZ m0 m1 m2 m3 m4 m5 m6 0 (sm_fb V) (sm_fb S) (sm_fo M) (sm_fl M) (sm_fw O) (sm_fw G))) (wn := (sm_wM cZ m0 m1 m2 m3 m4 m5 m6 0 (sm_fb V) (sm_fb S) (sm_fo M) (sm_fl M) (sm_fw O) (sm_fw G))) (st1 := [.int (sm_bI false), .ref m0]) ⟨hx, hb, hml, hown, hts⟩ (c_none_f l D a (by omega)) (va_cwS 1 hts (sm_gS (i1 := 263) (i2 := 264) (i4 := 2) (i5 := 265) rfl rfl rfl rfl) rfl rfl rfl (by decide +kernel) ⟨Nat.le_of_ble_eq_true rfl, Nat.le_of_ble_eq_true rfl⟩) hK [] rfl hP hD hS hA [] [0, 1, 2, 3, 4, 5, 6] rfl rfl (by decide) (by decide) (by decide) rfl hl.1 rfl (Nat.le_of_ble_eq_true rfl) dX1_op_33 ⟨Nat.le_of_ble_eq_true rfl, Nat.le_of_ble_eq_true rfl⟩ rfl rfl (fun H locs hP hD hS => ?_)
  refine lv_if_ne (tgt := 47) hx hb dX1_op_36 rfl (fun z => absurd (by decide) z) (fun _ => ?_)
  refine lv_iload hx hb dX1_op_39 (lv_at hl 4 rfl) ?_
  refine sm_callS (As := [.int (nI b)]) (rest := [.ref m0]) (wr := (sm_wM cZ m0 m1 m2 m3 m4 m5 m6 0 (sm_fb V) (sm_fb S) (sm_fo M) (sm_fl M) (sm_fw O) (sm_fw G))) (wn := (sm_wM cZ m0 m1 m2 m3 m4 m5 m6 0 (sm_fb V) (sm_fb S) (sm_fo M) (sm_fl M) (sm_fw O) (sm_fw G))) (st1 := [.int (sm_bI false), .ref m0]) ⟨hx, hb, hml, hown, hts⟩ (c_none_f l D b (by omega)) (va_cwS 1 hts (sm_gS (i1 := 263) (i2 := 264) (i4 := 2) (i5 := 265) rfl rfl rfl rfl) rfl rfl rfl (by decide +kernel) ⟨Nat.le_of_ble_eq_true rfl, Nat.le_of_ble_eq_true rfl⟩) hK [] rfl hP hD hS hA [] [0, 1, 2, 3, 4, 5, 6] rfl rfl (by decide) (by decide) (by decide) rfl hl.1 rfl (Nat.le_of_ble_eq_true rfl) dX1_op_41 ⟨Nat.le_of_ble_eq_true rfl, Nat.le_of_ble_eq_true rfl⟩ rfl rfl (fun H locs hP hD hS => ?_)
  refine lv_if_eq (tgt := 51) hx hb dX1_op_44 rfl (fun _ => ?_) (fun z => absurd (by decide) z)
  refine lv_iconst (v := 0) hx hb dX1_op_51 (by decide) ?_
  refine lv_iconst (v := 2) hx hb dX1_op_52 (by decide) ?_
  refine sm_callV (C := RX1) (As := [.int (sm_bI false), .int 2]) (rest := []) (wr := []) (wn := (sm_wM cZ m0 m1 m2 m3 m4 m5 m6 0 (sm_fb V) (sm_fb S) (sm_fo M) (sm_fl M) (sm_fw O) (sm_fw G))) (st1 := [.int (sm_bI false)]) ⟨hx, hb, hml, hown, hts⟩ (c_fails_f l D cZ m0 m1 m2 m3 m4 m5 m6 0 V S M O G 2) (cwV 2 hts (sm_gV (i1 := 266) (i2 := 267) (i3 := 348) (i4 := 2) (i5 := 268) rfl rfl rfl rfl rfl) rfl rfl rfl (by decide +kernel) ⟨Nat.le_of_ble_eq_true rfl, Nat.le_of_ble_eq_true rfl⟩) hK [0] rfl hP hD hS hA 0 rfl rfl [0, 1, 2, 3, 4, 5, 6] [] rfl rfl (by decide) (by decide) (by decide) rfl hl.1 rfl (Nat.le_of_ble_eq_true rfl) dX1_op_53 ⟨Nat.le_of_ble_eq_true rfl, Nat.le_of_ble_eq_true rfl⟩ rfl rfl (fun H locs hP hD hS => ?_)
  refine lv_if_eq (tgt := 60) hx hb dX1_op_56 rfl (fun _ => ?_) (fun z => absurd (by decide) z)
  refine lv_aload_n hx hb dX1_op_60 rfl (lv_at hl 0 rfl) ?_
  refine lv_iload_n hx hb dX1_op_61 rfl (lv_at hl 3 rfl) ?_
  refine sm_callV (C := RX1) (As := [.int (nI a)]) (rest := []) (wr := []) (wn := (sm_wM cZ m0 m1 m2 m3 m4 m5 m6 0 (sm_fb V) (sm_fb S) (sm_fo M) (sm_fl M) (sm_fw O) (sm_fw G))) (st1 := [.int (V a)]) ⟨hx, hb, hml, hown, hts⟩ (c_number l D cZ m0 m1 m2 m3 m4 m5 m6 0 V S M O G a (by omega)) (cwV 1 hts (sm_gV (i1 := 279) (i2 := 280) (i3 := 351) (i4 := 2) (i5 := 281) rfl rfl rfl rfl rfl) rfl rfl rfl (by decide +kernel) ⟨Nat.le_of_ble_eq_true rfl, Nat.le_of_ble_eq_true rfl⟩) hK [0] rfl hP hD hS hA 0 rfl rfl [0, 1, 2, 3, 4, 5, 6] [] rfl rfl (by decide) (by decide) (by decide) rfl hl.1 rfl (Nat.le_of_ble_eq_true rfl) dX1_op_62 ⟨Nat.le_of_ble_eq_true rfl, Nat.le_of_ble_eq_true rfl⟩ rfl rfl (fun H locs hP hD hS => ?_)
  refine lv_istore (lv' := [(5, .int (V a)), (0, .ref m0), (1, .int 9), (2, .int (nI d)), (3, .int (nI a)), (4, .int (nI b))]) hx hb dX1_op_65 hl (by decide) rfl (fun ls hl => ?_)
  refine lv_aload_n hx hb dX1_op_67 rfl (lv_at hl 1 rfl) ?_
  refine lv_iload hx hb dX1_op_68 (lv_at hl 5 rfl) ?_
  refine sm_callV (C := RX1) (As := [.int (nI b)]) (rest := []) (wr := []) (wn := (sm_wM cZ m0 m1 m2 m3 m4 m5 m6 0 (sm_fb V) (sm_fb S) (sm_fo M) (sm_fl M) (sm_fw O) (sm_fw G))) (st1 := [.int (V b)]) ⟨hx, hb, hml, hown, hts⟩ (c_number l D cZ m0 m1 m2 m3 m4 m5 m6 0 V S M O G b (by omega)) (cwV 1 hts (sm_gV (i1 := 279) (i2 := 280) (i3 := 351) (i4 := 2) (i5 := 281) rfl rfl rfl rfl rfl) rfl rfl rfl (by decide +kernel) ⟨Nat.le_of_ble_eq_true rfl, Nat.le_of_ble_eq_true rfl⟩) hK [0] rfl hP hD hS hA 0 rfl rfl [0, 1, 2, 3, 4, 5, 6] [] rfl rfl (by decide) (by decide) (by decide) rfl hl.1 rfl (Nat.le_of_ble_eq_true rfl) dX1_op_70 ⟨Nat.le_of_ble_eq_true rfl, Nat.le_of_ble_eq_true rfl⟩ rfl rfl (fun H locs hP hD hS => ?_)
  refine lv_istore (lv' := [(6, .int (V b)), (5, .int (V a)), (0, .ref m0), (1, .int 9), (2, .int (nI d)), (3, .int (nI a)), (4, .int (nI b))]) hx hb dX1_op_73 hl (by decide) rfl (fun ls hl => ?_)
  refine lv_aload_n hx hb dX1_op_75 rfl (lv_at hl 2 rfl) ?_
  refine lv_iload_n hx hb dX1_op_76 rfl (lv_at hl 5 rfl) ?_
  refine sm_callV (C := RX1) (As := [.int (nI a)]) (rest := []) (wr := []) (wn := (sm_wM cZ m0 m1 m2 m3 m4 m5 m6 0 (sm_fb V) (sm_fb S) (sm_fo M) (sm_fl M) (sm_fw O) (sm_fw G))) (st1 := [.int (nI (sm_tz (S a)))]) ⟨hx, hb, hml, hown, hts⟩ (c_lowest l D cZ m0 m1 m2 m3 m4 m5 m6 0 V S M O G a (by omega)) (cwV 1 hts (sm_gV (i1 := 282) (i2 := 283) (i3 := 352) (i4 := 2) (i5 := 284) rfl rfl rfl rfl rfl) rfl rfl rfl (by decide +kernel) ⟨Nat.le_of_ble_eq_true rfl, Nat.le_of_ble_eq_true rfl⟩) hK [0] rfl hP hD hS hA 0 rfl rfl [0, 1, 2, 3, 4, 5, 6] [] rfl rfl (by decide) (by decide) (by decide) rfl hl.1 rfl (Nat.le_of_ble_eq_true rfl) dX1_op_77 ⟨Nat.le_of_ble_eq_true rfl, Nat.le_of_ble_eq_true rfl⟩ rfl rfl (fun H locs hP hD hS => ?_)
  refine lv_aload_n hx hb dX1_op_80 rfl (lv_at hl 2 rfl) ?_
  refine lv_iload hx hb dX1_op_81 (lv_at hl 6 rfl) ?_
  refine sm_callV (C := RX1) (As := [.int (nI b)]) (rest := [.int (nI (sm_tz (S a)))]) (wr := []) (wn := (sm_wM cZ m0 m1 m2 m3 m4 m5 m6 0 (sm_fb V) (sm_fb S) (sm_fo M) (sm_fl M) (sm_fw O) (sm_fw G))) (st1 := [.int (nI (sm_tz (S b))), .int (nI (sm_tz (S a)))]) ⟨hx, hb, hml, hown, hts⟩ (c_lowest l D cZ m0 m1 m2 m3 m4 m5 m6 0 V S M O G b (by omega)) (cwV 1 hts (sm_gV (i1 := 282) (i2 := 283) (i3 := 352) (i4 := 2) (i5 := 284) rfl rfl rfl rfl rfl) rfl rfl rfl (by decide +kernel) ⟨Nat.le_of_ble_eq_true rfl, Nat.le_of_ble_eq_true rfl⟩) hK [0] rfl hP hD hS hA 0 rfl rfl [0, 1, 2, 3, 4, 5, 6] [] rfl rfl (by decide) (by decide) (by decide) rfl hl.1 rfl (Nat.le_of_ble_eq_true rfl) dX1_op_83 ⟨Nat.le_of_ble_eq_true rfl, Nat.le_of_ble_eq_true rfl⟩ rfl rfl (fun H locs hP hD hS => ?_)
  refine sm_joinH (pcJ := 103) (t := nI (sm_tz (S a ||| S b))) (lv := [(0, .ref m0), (1, .int 9), (2, .int (nI d)), (3, .int (nI a)), (4, .int (nI b)), (5, .int (V a)), (6, .int (V b))]) (w := (sm_wM cZ m0 m1 m2 m3 m4 m5 m6 0 (sm_fb V) (sm_fb S) (sm_fo M) (sm_fl M) (sm_fw O) (sm_fw G))) (rest := []) hl hP hD hS (fun j103 => ?_) (fun H locs ls hl hP hD hS => ?_)
  · refine lv_icmp_ge (tgt := 97) hx hb dX1_op_86 rfl (fun h86 => ?_) (fun h86 => ?_)
    · refine lv_aload_n hx hb dX1_op_97 rfl (lv_at hl 2 rfl) ?_
      refine lv_iload hx hb dX1_op_98 (lv_at hl 6 rfl) ?_
      refine sm_callV (C := RX1) (As := [.int (nI b)]) (rest := []) (wr := []) (wn := (sm_wM cZ m0 m1 m2 m3 m4 m5 m6 0 (sm_fb V) (sm_fb S) (sm_fo M) (sm_fl M) (sm_fw O) (sm_fw G))) (st1 := [.int (nI (sm_tz (S b)))]) ⟨hx, hb, hml, hown, hts⟩ (c_lowest l D cZ m0 m1 m2 m3 m4 m5 m6 0 V S M O G b (by omega)) (cwV 1 hts (sm_gV (i1 := 282) (i2 := 283) (i3 := 352) (i4 := 2) (i5 := 284) rfl rfl rfl rfl rfl) rfl rfl rfl (by decide +kernel) ⟨Nat.le_of_ble_eq_true rfl, Nat.le_of_ble_eq_true rfl⟩) hK [0] rfl hP hD hS hA 0 rfl rfl [0, 1, 2, 3, 4, 5, 6] [] rfl rfl (by decide) (by decide) (by decide) rfl hl.1 rfl (Nat.le_of_ble_eq_true rfl) dX1_op_100 ⟨Nat.le_of_ble_eq_true rfl, Nat.le_of_ble_eq_true rfl⟩ rfl rfl (fun H locs hP hD hS => ?_)
      refine sm_eqi (y := nI (sm_tz (S a ||| S b))) (sm_low2 h86) ?_
      exact j103 _ _ _ (lv_sub hl [2, 3, 4, 5, 6, 1, 0] rfl) hP hD hS
    · refine lv_aload_n hx hb dX1_op_89 rfl (lv_at hl 2 rfl) ?_
      refine lv_iload_n hx hb dX1_op_90 rfl (lv_at hl 5 rfl) ?_
      refine sm_callV (C := RX1) (As := [.int (nI a)]) (rest := []) (wr := []) (wn := (sm_wM cZ m0 m1 m2 m3 m4 m5 m6 0 (sm_fb V) (sm_fb S) (sm_fo M) (sm_fl M) (sm_fw O) (sm_fw G))) (st1 := [.int (nI (sm_tz (S a)))]) ⟨hx, hb, hml, hown, hts⟩ (c_lowest l D cZ m0 m1 m2 m3 m4 m5 m6 0 V S M O G a (by omega)) (cwV 1 hts (sm_gV (i1 := 282) (i2 := 283) (i3 := 352) (i4 := 2) (i5 := 284) rfl rfl rfl rfl rfl) rfl rfl rfl (by decide +kernel) ⟨Nat.le_of_ble_eq_true rfl, Nat.le_of_ble_eq_true rfl⟩) hK [0] rfl hP hD hS hA 0 rfl rfl [0, 1, 2, 3, 4, 5, 6] [] rfl rfl (by decide) (by decide) (by decide) rfl hl.1 rfl (Nat.le_of_ble_eq_true rfl) dX1_op_91 ⟨Nat.le_of_ble_eq_true rfl, Nat.le_of_ble_eq_true rfl⟩ rfl rfl (fun H locs hP hD hS => ?_)
      refine lv_goto (tgt := 103) hx hb dX1_op_94 rfl ?_
      refine sm_eqi (y := nI (sm_tz (S a ||| S b))) (sm_low1 h86) ?_
      exact j103 _ _ _ (lv_sub hl [2, 3, 4, 5, 6, 1, 0] rfl) hP hD hS
  refine lv_istore (lv' := [(7, .int (nI (sm_tz (S a ||| S b)))), (0, .ref m0), (1, .int 9), (2, .int (nI d)), (3, .int (nI a)), (4, .int (nI b)), (5, .int (V a)), (6, .int (V b))]) hx hb dX1_op_103 hl (by decide) rfl (fun ls hl => ?_)
  refine lv_iload_n hx hb dX1_op_105 rfl (lv_at hl 2 rfl) ?_
  refine lv_tableIn (off := 407) (tgt := 513) hx hb dX1_op_106 (by decide) (by decide) (by decide) (by decide) ?_
  refine lv_aload_n hx hb dX1_op_513 rfl (lv_at hl 1 rfl) ?_
  refine sm_joinH (pcJ := 526) (t := sm_bI (decide (V a < V b))) (lv := [(0, .ref m0), (2, .int (nI d)), (3, .int (nI a)), (4, .int (nI b))]) (w := (sm_wM cZ m0 m1 m2 m3 m4 m5 m6 0 (sm_fb V) (sm_fb S) (sm_fo M) (sm_fl M) (sm_fw O) (sm_fw G))) (rest := [.ref m0]) hl hP hD hS (fun j526 => ?_) (fun H locs ls hl hP hD hS => ?_)
  · refine lv_iload hx hb dX1_op_514 (lv_at hl 6 rfl) ?_
    refine lv_iload hx hb dX1_op_516 (lv_at hl 7 rfl) ?_
    refine lv_icmp_ge (tgt := 525) hx hb dX1_op_518 rfl (fun h518 => ?_) (fun h518 => ?_)
    · refine lv_iconst (v := 0) hx hb dX1_op_525 (by decide) ?_
      refine sm_eqi (y := sm_bI (decide (V a < V b))) (sm_l9f h518) ?_
      exact j526 _ _ _ (lv_sub hl [1, 3, 4, 5] rfl) hP hD hS
    · refine lv_iconst (v := 1) hx hb dX1_op_521 (by decide) ?_
      refine lv_goto (tgt := 526) hx hb dX1_op_522 rfl ?_
      refine sm_eqi (y := sm_bI (decide (V a < V b))) (sm_l9t h518) ?_
      exact j526 _ _ _ (lv_sub hl [1, 3, 4, 5] rfl) hP hD hS
  refine sm_callV (C := RX1) (As := [.int (sm_bI (decide (V a < V b)))]) (rest := []) (wr := []) (wn := (sm_wM cZ m0 m1 m2 m3 m4 m5 m6 0 (sm_fb V) (sm_fb S) (sm_fo M) (sm_fl M) (sm_fw (sm_bI (decide (V a < V b)))) (sm_fw 0))) (st1 := []) ⟨hx, hb, hml, hown, hts⟩ (c_make l D cZ m0 m1 m2 m3 m4 m5 m6 0 V S M O G (sm_bI (decide (V a < V b)))) (cwV 1 hts (sm_gV (i1 := 269) (i2 := 270) (i3 := 349) (i4 := 2) (i5 := 271) rfl rfl rfl rfl rfl) rfl rfl rfl (by decide +kernel) ⟨Nat.le_of_ble_eq_true rfl, Nat.le_of_ble_eq_true rfl⟩) hK [0] rfl hP hD hS hA 0 rfl rfl [0, 1, 2, 3, 4, 5, 6] [] rfl rfl (by decide) (by decide) (by decide) rfl hl.1 rfl (Nat.le_of_ble_eq_true rfl) dX1_op_526 ⟨Nat.le_of_ble_eq_true rfl, Nat.le_of_ble_eq_true rfl⟩ rfl rfl (fun H locs hP hD hS => ?_)
  refine lv_aload_n hx hb dX1_op_529 rfl (lv_at hl 0 rfl) ?_
  refine va_get (D := D) (ci := 1) (v := .ref m6) (C := RX1) (T := TX1) (N := 7) hx hb hts inX1 hown hK hP 0 rfl rfl 6 (by decide) (hw 238 rfl) (fun _ h9 => h9) rfl dX1_op_530 ?_
  refine lv_iconst (v := 0) hx hb dX1_op_533 (by decide) ?_
  refine sm_joinH (pcJ := 577) (t := sm_bI (decide (sm_le (V a) (S a) < sm_he (V b) (S b)) && decide (sm_le (V b) (S b) ≤ sm_he (V a) (S a)))) (lv := [(0, .ref m0), (2, .int (nI d)), (3, .int (nI a)), (4, .int (nI b))]) (w := (sm_wM cZ m0 m1 m2 m3 m4 m5 m6 0 (sm_fb V) (sm_fb S) (sm_fo M) (sm_fl M) (sm_fw (sm_bI (decide (V a < V b)))) (sm_fw 0))) (rest := [.int 0, .ref m6]) hl hP hD hS (fun j577 => ?_) (fun H locs ls hl hP hD hS => ?_)
  · refine lv_aload_n hx hb dX1_op_534 rfl (lv_at hl 0 rfl) ?_
    refine lv_iload_n hx hb dX1_op_535 rfl (lv_at hl 2 rfl) ?_
    refine lv_iconst (v := 1) hx hb dX1_op_536 (by decide) ?_
    refine lv_iconst (v := 1) hx hb dX1_op_537 (by decide) ?_
    refine sm_callV (C := RX1) (As := [.int (nI a), .int (sm_bI true), .int (sm_bI true)]) (rest := [.int 0, .ref m6]) (wr := []) (wn := (sm_wM cZ m0 m1 m2 m3 m4 m5 m6 0 (sm_fb V) (sm_fb S) (sm_fo M) (sm_fl M) (sm_fw (sm_bI (decide (V a < V b)))) (sm_fw 0))) (st1 := [.long (sm_en (sm_one (V a) (S a) true true) true 32), .int 0, .ref m6]) ⟨hx, hb, hml, hown, hts⟩ (c_end l D cZ m0 m1 m2 m3 m4 m5 m6 0 V S M (sm_bI (decide (V a < V b))) 0 a (by omega) true true) (cwV 3 hts (sm_gV (i1 := 300) (i2 := 301) (i3 := 358) (i4 := 2) (i5 := 302) rfl rfl rfl rfl rfl) rfl rfl rfl (by decide +kernel) ⟨Nat.le_of_ble_eq_true rfl, Nat.le_of_ble_eq_true rfl⟩) hK [0] rfl hP hD hS hA 0 rfl rfl [0, 1, 2, 3, 4, 5, 6] [] rfl rfl (by decide) (by decide) (by decide) rfl hl.1 rfl (Nat.le_of_ble_eq_true rfl) dX1_op_538 ⟨Nat.le_of_ble_eq_true rfl, Nat.le_of_ble_eq_true rfl⟩ rfl rfl (fun H locs hP hD hS => ?_)
    refine lv_aload_n hx hb dX1_op_541 rfl (lv_at hl 0 rfl) ?_
    refine lv_iload hx hb dX1_op_542 (lv_at hl 3 rfl) ?_
    refine lv_iconst (v := 0) hx hb dX1_op_544 (by decide) ?_
    refine lv_iconst (v := 1) hx hb dX1_op_545 (by decide) ?_
    refine sm_callV (C := RX1) (As := [.int (nI b), .int (sm_bI false), .int (sm_bI true)]) (rest := [.long (sm_en (sm_one (V a) (S a) true true) true 32), .int 0, .ref m6]) (wr := []) (wn := (sm_wM cZ m0 m1 m2 m3 m4 m5 m6 0 (sm_fb V) (sm_fb S) (sm_fo M) (sm_fl M) (sm_fw (sm_bI (decide (V a < V b)))) (sm_fw 0))) (st1 := [.long (sm_en (sm_one (V b) (S b) false true) true 32), .long (sm_en (sm_one (V a) (S a) true true) true 32), .int 0, .ref m6]) ⟨hx, hb, hml, hown, hts⟩ (c_end l D cZ m0 m1 m2 m3 m4 m5 m6 0 V S M (sm_bI (decide (V a < V b))) 0 b (by omega) false true) (cwV 3 hts (sm_gV (i1 := 300) (i2 := 301) (i3 := 358) (i4 := 2) (i5 := 302) rfl rfl rfl rfl rfl) rfl rfl rfl (by decide +kernel) ⟨Nat.le_of_ble_eq_true rfl, Nat.le_of_ble_eq_true rfl⟩) hK [0] rfl hP hD hS hA 0 rfl rfl [0, 1, 2, 3, 4, 5, 6] [] rfl rfl (by decide) (by decide) (by decide) rfl hl.1 rfl (Nat.le_of_ble_eq_true rfl) dX1_op_546 ⟨Nat.le_of_ble_eq_true rfl, Nat.le_of_ble_eq_true rfl⟩ rfl rfl (fun H locs hP hD hS => ?_)
    refine W.lcmp hx hb dX1_op_549 ?_
    refine lv_if_lt (tgt := 576) hx hb dX1_op_550 rfl (fun h550 => ?_) (fun h550 => ?_)
    · refine lv_iconst (v := 0) hx hb dX1_op_576 (by decide) ?_
      refine sm_eqi (y := sm_bI (decide (sm_le (V a) (S a) < sm_he (V b) (S b)) && decide (sm_le (V b) (S b) ≤ sm_he (V a) (S a)))) (sm_o9f h550) ?_
      exact j577 _ _ _ (lv_sub hl [0, 1, 2, 3] rfl) hP hD hS
    · refine lv_aload_n hx hb dX1_op_553 rfl (lv_at hl 0 rfl) ?_
      refine lv_iload_n hx hb dX1_op_554 rfl (lv_at hl 2 rfl) ?_
      refine lv_iconst (v := 0) hx hb dX1_op_555 (by decide) ?_
      refine lv_iconst (v := 1) hx hb dX1_op_556 (by decide) ?_
      refine sm_callV (C := RX1) (As := [.int (nI a), .int (sm_bI false), .int (sm_bI true)]) (rest := [.int 0, .ref m6]) (wr := []) (wn := (sm_wM cZ m0 m1 m2 m3 m4 m5 m6 0 (sm_fb V) (sm_fb S) (sm_fo M) (sm_fl M) (sm_fw (sm_bI (decide (V a < V b)))) (sm_fw 0))) (st1 := [.long (sm_en (sm_one (V a) (S a) false true) true 32), .int 0, .ref m6]) ⟨hx, hb, hml, hown, hts⟩ (c_end l D cZ m0 m1 m2 m3 m4 m5 m6 0 V S M (sm_bI (decide (V a < V b))) 0 a (by omega) false true) (cwV 3 hts (sm_gV (i1 := 300) (i2 := 301) (i3 := 358) (i4 := 2) (i5 := 302) rfl rfl rfl rfl rfl) rfl rfl rfl (by decide +kernel) ⟨Nat.le_of_ble_eq_true rfl, Nat.le_of_ble_eq_true rfl⟩) hK [0] rfl hP hD hS hA 0 rfl rfl [0, 1, 2, 3, 4, 5, 6] [] rfl rfl (by decide) (by decide) (by decide) rfl hl.1 rfl (Nat.le_of_ble_eq_true rfl) dX1_op_557 ⟨Nat.le_of_ble_eq_true rfl, Nat.le_of_ble_eq_true rfl⟩ rfl rfl (fun H locs hP hD hS => ?_)
      refine lv_aload_n hx hb dX1_op_560 rfl (lv_at hl 0 rfl) ?_
      refine lv_iload hx hb dX1_op_561 (lv_at hl 3 rfl) ?_
      refine lv_iconst (v := 1) hx hb dX1_op_563 (by decide) ?_
      refine lv_iconst (v := 1) hx hb dX1_op_564 (by decide) ?_
      refine sm_callV (C := RX1) (As := [.int (nI b), .int (sm_bI true), .int (sm_bI true)]) (rest := [.long (sm_en (sm_one (V a) (S a) false true) true 32), .int 0, .ref m6]) (wr := []) (wn := (sm_wM cZ m0 m1 m2 m3 m4 m5 m6 0 (sm_fb V) (sm_fb S) (sm_fo M) (sm_fl M) (sm_fw (sm_bI (decide (V a < V b)))) (sm_fw 0))) (st1 := [.long (sm_en (sm_one (V b) (S b) true true) true 32), .long (sm_en (sm_one (V a) (S a) false true) true 32), .int 0, .ref m6]) ⟨hx, hb, hml, hown, hts⟩ (c_end l D cZ m0 m1 m2 m3 m4 m5 m6 0 V S M (sm_bI (decide (V a < V b))) 0 b (by omega) true true) (cwV 3 hts (sm_gV (i1 := 300) (i2 := 301) (i3 := 358) (i4 := 2) (i5 := 302) rfl rfl rfl rfl rfl) rfl rfl rfl (by decide +kernel) ⟨Nat.le_of_ble_eq_true rfl, Nat.le_of_ble_eq_true rfl⟩) hK [0] rfl hP hD hS hA 0 rfl rfl [0, 1, 2, 3, 4, 5, 6] [] rfl rfl (by decide) (by decide) (by decide) rfl hl.1 rfl (Nat.le_of_ble_eq_true rfl) dX1_op_565 ⟨Nat.le_of_ble_eq_true rfl, Nat.le_of_ble_eq_true rfl⟩ rfl rfl (fun H locs hP hD hS => ?_)
      refine W.lcmp hx hb dX1_op_568 ?_
      refine lv_if_ge (tgt := 576) hx hb dX1_op_569 rfl (fun h569 => ?_) (fun h569 => ?_)
      · refine lv_iconst (v := 0) hx hb dX1_op_576 (by decide) ?_
        refine sm_eqi (y := sm_bI (decide (sm_le (V a) (S a) < sm_he (V b) (S b)) && decide (sm_le (V b) (S b) ≤ sm_he (V a) (S a)))) (sm_o9g h550 h569) ?_
        exact j577 _ _ _ (lv_sub hl [0, 1, 2, 3] rfl) hP hD hS
      · refine lv_iconst (v := 1) hx hb dX1_op_572 (by decide) ?_
        refine lv_goto (tgt := 577) hx hb dX1_op_573 rfl ?_
        refine sm_eqi (y := sm_bI (decide (sm_le (V a) (S a) < sm_he (V b) (S b)) && decide (sm_le (V b) (S b) ≤ sm_he (V a) (S a)))) (sm_o9t h550 h569) ?_
        exact j577 _ _ _ (lv_sub hl [0, 1, 2, 3] rfl) hP hD hS
  refine sm_zast (f' := sm_fw (sm_bI (decide (sm_le (V a) (S a) < sm_he (V b) (S b)) && decide (sm_le (V b) (S b) ≤ sm_he (V a) (S a))))) (ws' := (sm_wM cZ m0 m1 m2 m3 m4 m5 m6 0 (sm_fb V) (sm_fb S) (sm_fo M) (sm_fl M) (sm_fw (sm_bI (decide (V a < V b)))) (sm_fw (sm_bI (decide (sm_le (V a) (S a) < sm_he (V b) (S b)) && decide (sm_le (V b) (S b) ≤ sm_he (V a) (S a))))))) hx hb hK hP hD hS 6 0 rfl rfl (vp_in_nI (n := 0) (by omega) (by decide)) dX1_op_577 (sm_g0 _) rfl (fun H locs hP hD hS => ?_)
  refine lv_goto (tgt := 778) hx hb dX1_op_578 rfl ?_
  refine lv_aload_n hx hb dX1_op_778 rfl (lv_at hl 0 rfl) ?_
  refine lv_iload_n hx hb dX1_op_779 rfl (lv_at hl 1 rfl) ?_
  refine sm_callV (C := RX1) (As := [.int (nI d)]) (rest := []) (wr := []) (wn := (sm_wM cZ m0 m1 m2 m3 m4 m5 m6 0 (sm_fb (upd V d (sm_bI (decide (V a < V b))))) (sm_fb (upd S d (sm_bI (decide (sm_le (V a) (S a) < sm_he (V b) (S b)) && decide (sm_le (V b) (S b) ≤ sm_he (V a) (S a)))))) (sm_fo M) (sm_fl M) (sm_fw (sm_bI (decide (V a < V b)))) (sm_fw (sm_bI (decide (sm_le (V a) (S a) < sm_he (V b) (S b)) && decide (sm_le (V b) (S b) ≤ sm_he (V a) (S a))))))) (st1 := []) ⟨hx, hb, hml, hown, hts⟩ (c_give l D cZ m0 m1 m2 m3 m4 m5 m6 0 V S M (sm_bI (decide (V a < V b))) (sm_bI (decide (sm_le (V a) (S a) < sm_he (V b) (S b)) && decide (sm_le (V b) (S b) ≤ sm_he (V a) (S a)))) d (by omega)) (cwV 1 hts (sm_gV (i1 := 272) (i2 := 273) (i3 := 350) (i4 := 2) (i5 := 274) rfl rfl rfl rfl rfl) rfl rfl rfl (by decide +kernel) ⟨Nat.le_of_ble_eq_true rfl, Nat.le_of_ble_eq_true rfl⟩) hK [0] rfl hP hD hS hA 0 rfl rfl [0, 1, 2, 3, 4, 5, 6] [] rfl rfl (by decide) (by decide) (by decide) rfl hl.1 rfl (Nat.le_of_ble_eq_true rfl) dX1_op_780 ⟨Nat.le_of_ble_eq_true rfl, Nat.le_of_ble_eq_true rfl⟩ rfl rfl (fun H locs hP hD hS => ?_)
  exact sm_vret hx hb hrt hlocks hS hP hD dX1_op_783
set_option maxHeartbeats 4000000 in
set_option maxRecDepth 100000 in
theorem c_mop_10 (l : Launch) (D : va_G) (cZ : ClassId) (m0 m1 m2 m3 m4 m5 m6 : Nat) (err : Int32) (V S M : Nat → Int32) (O G : Int32) (d a b : Nat) (hd : d < 16) (ha : a < 16) (hb' : b < 16) : sm_C l yX1_op wsX1_op ({ frames := 5, cells := 0, slots := 0, locals := 140 } : Room) D vwCl [(cZ, .boolean)] [.ref m0, .int 10, .int (nI d), .int (nI a), .int (nI b)] (sm_wM cZ m0 m1 m2 m3 m4 m5 m6 err (sm_fb V) (sm_fb S) (sm_fo M) (sm_fl M) (sm_fw O) (sm_fw G)) none (sm_wM cZ m0 m1 m2 m3 m4 m5 m6 0 (sm_fb (upd V d (sm_bI (decide (V a ^^^ (-2147483648) < V b ^^^ (-2147483648)))))) (sm_fb (upd S d (sm_bI (decide (sm_le (V a ^^^ (-2147483648)) (S a) < sm_he (V b ^^^ (-2147483648)) (S b)) && decide (sm_le (V b ^^^ (-2147483648)) (S b) ≤ sm_he (V a ^^^ (-2147483648)) (S a)))))) (sm_fo M) (sm_fl M) (sm_fw (sm_bI (decide (V a ^^^ (-2147483648) < V b ^^^ (-2147483648))))) (sm_fw (sm_bI (decide (sm_le (V a ^^^ (-2147483648)) (S a) < sm_he (V b ^^^ (-2147483648)) (S b)) && decide (sm_le (V b ^^^ (-2147483648)) (S b) ≤ sm_he (V a ^^^ (-2147483648)) (S a)))))) := by
  refine sm_start (cc := cX1_op) (maxL := 11) (ret := none) (lv := [(0, .ref m0), (1, .int 10), (2, .int (nI d)), (3, .int (nI a)), (4, .int (nI b))]) (by decide) rfl (Nat.le_of_ble_eq_true rfl) rfl ?_
  intro p e s m below meth c hx hb hrt hts hown hlocks hml hin hK hP hD hS hA ls hl
  have hw := sm_hw hts
  have q5 := sm_tz_le (S a ||| S b)
  have q1 := sm_tz_le (S a)
  have q2 := sm_tz_le (S b)
  have q3 := sm_tz_le (V b ||| S b)
  have q4 := sm_tz_le (V a ||| S a)
  refine lv_aload_n hx hb dX1_op_0 rfl (lv_at hl 0 rfl) ?_
  refine lv_iload_n hx hb dX1_op_1 rfl (lv_at hl 1 rfl) ?_
  refine lv_if_lt (tgt := 11) hx hb dX1_op_2 rfl (fun z => absurd z (by decide)) (fun _ => ?_)
  refine lv_iload_n hx hb dX1_op_5 rfl (lv_at hl 1 rfl) ?_
  refine lv_bipush (v := 12) hx hb dX1_op_6 (by decide) ?_
  refine lv_icmp_le (tgt := 15) hx hb dX1_op_8 rfl (fun _ => ?_) (fun z => absurd (by decide) z)
  refine lv_iconst (v := 0) hx hb dX1_op_15 (by decide) ?_
  refine lv_iconst (v := 1) hx hb dX1_op_16 (by decide) ?_
  refine sm_callV (C := RX1) (As := [.int (sm_bI false), .int 1]) (rest := []) (wr := []) (wn := (sm_wM cZ m0 m1 m2 m3 m4 m5 m6 0 (sm_fb V) (sm_fb S) (sm_fo M) (sm_fl M) (sm_fw O) (sm_fw G))) (st1 := [.int (sm_bI false)]) ⟨hx, hb, hml, hown, hts⟩ (c_fails_f l D cZ m0 m1 m2 m3 m4 m5 m6 err V S M O G 1) (cwV 2 hts (sm_gV (i1 := 266) (i2 := 267) (i3 := 348) (i4 := 2) (i5 := 268) rfl rfl rfl rfl rfl) rfl rfl rfl (by decide +kernel) ⟨Nat.le_of_ble_eq_true rfl, Nat.le_of_ble_eq_true rfl⟩) hK [0] rfl hP hD hS hA 0 rfl rfl [0, 1, 2, 3, 4, 5, 6] [] rfl rfl (by decide) (by decide) (by decide) rfl hl.1 rfl (Nat.le_of_ble_eq_true rfl) dX1_op_17 ⟨Nat.le_of_ble_eq_true rfl, Nat.le_of_ble_eq_true rfl⟩ rfl rfl (fun H locs hP hD hS => ?_)
  refine lv_if_eq (tgt := 24) hx hb dX1_op_20 rfl (fun _ => ?_) (fun z => absurd (by decide) z)
  refine lv_aload_n hx hb dX1_op_24 rfl (lv_at hl 0 rfl) ?_
  refine lv_iload_n hx hb dX1_op_25 rfl (lv_at hl 2 rfl) ?_
  refine sm_callS (As := [.int (nI d)]) (rest := [.ref m0]) (wr := (sm_wM cZ m0 m1 m2 m3 m4 m5 m6 0 (sm_fb V) (sm_fb S) (sm_fo M) (sm_fl M) (sm_fw O) (sm_fw G))) (wn := (sm_wM cZ m0 m1 m2 m3 m4 m5 m6 0 (sm_fb V) (sm_fb S) (sm_fo M) (sm_fl M) (sm_fw O) (sm_fw G))) (st1 := [.int (sm_bI false), .ref m0]) ⟨hx, hb, hml, hown, hts⟩ (c_none_f l D d (by omega)) (va_cwS 1 hts (sm_gS (i1 := 263) (i2 := 264) (i4 := 2) (i5 := 265) rfl rfl rfl rfl) rfl rfl rfl (by decide +kernel) ⟨Nat.le_of_ble_eq_true rfl, Nat.le_of_ble_eq_true rfl⟩) hK [] rfl hP hD hS hA [] [0, 1, 2, 3, 4, 5, 6] rfl rfl (by decide) (by decide) (by decide) rfl hl.1 rfl (Nat.le_of_ble_eq_true rfl) dX1_op_26 ⟨Nat.le_of_ble_eq_true rfl, Nat.le_of_ble_eq_true rfl⟩ rfl rfl (fun H locs hP hD hS => ?_)
  refine lv_if_ne (tgt := 47) hx hb dX1_op_29 rfl (fun z => absurd (by decide) z) (fun _ => ?_)
  refine lv_iload_n hx hb dX1_op_32 rfl (lv_at hl 3 rfl) ?_
  refine sm_callS (As := [.int (nI a)]) (rest := [.ref m0]) (wr := (sm_wM cZ m0 m1 m2 m3 m4 m5 m6 0 (sm_fb V) (sm_fb S) (sm_fo M) (sm_fl M) (sm_fw O) (sm_fw G))) (wn := (sm_wM cZ m0 m1 m2 m3 m4 m5 m6 0 (sm_fb V) (sm_fb S) (sm_fo M) (sm_fl M) (sm_fw O) (sm_fw G))) (st1 := [.int (sm_bI false), .ref m0]) ⟨hx, hb, hml, hown, hts⟩ (c_none_f l D a (by omega)) (va_cwS 1 hts (sm_gS (i1 := 263) (i2 := 264) (i4 := 2) (i5 := 265) rfl rfl rfl rfl) rfl rfl rfl (by decide +kernel) ⟨Nat.le_of_ble_eq_true rfl, Nat.le_of_ble_eq_true rfl⟩) hK [] rfl hP hD hS hA [] [0, 1, 2, 3, 4, 5, 6] rfl rfl (by decide) (by decide) (by decide) rfl hl.1 rfl (Nat.le_of_ble_eq_true rfl) dX1_op_33 ⟨Nat.le_of_ble_eq_true rfl, Nat.le_of_ble_eq_true rfl⟩ rfl rfl (fun H locs hP hD hS => ?_)
  refine lv_if_ne (tgt := 47) hx hb dX1_op_36 rfl (fun z => absurd (by decide) z) (fun _ => ?_)
  refine lv_iload hx hb dX1_op_39 (lv_at hl 4 rfl) ?_
  refine sm_callS (As := [.int (nI b)]) (rest := [.ref m0]) (wr := (sm_wM cZ m0 m1 m2 m3 m4 m5 m6 0 (sm_fb V) (sm_fb S) (sm_fo M) (sm_fl M) (sm_fw O) (sm_fw G))) (wn := (sm_wM cZ m0 m1 m2 m3 m4 m5 m6 0 (sm_fb V) (sm_fb S) (sm_fo M) (sm_fl M) (sm_fw O) (sm_fw G))) (st1 := [.int (sm_bI false), .ref m0]) ⟨hx, hb, hml, hown, hts⟩ (c_none_f l D b (by omega)) (va_cwS 1 hts (sm_gS (i1 := 263) (i2 := 264) (i4 := 2) (i5 := 265) rfl rfl rfl rfl) rfl rfl rfl (by decide +kernel) ⟨Nat.le_of_ble_eq_true rfl, Nat.le_of_ble_eq_true rfl⟩) hK [] rfl hP hD hS hA [] [0, 1, 2, 3, 4, 5, 6] rfl rfl (by decide) (by decide) (by decide) rfl hl.1 rfl (Nat.le_of_ble_eq_true rfl) dX1_op_41 ⟨Nat.le_of_ble_eq_true rfl, Nat.le_of_ble_eq_true rfl⟩ rfl rfl (fun H locs hP hD hS => ?_)
  refine lv_if_eq (tgt := 51) hx hb dX1_op_44 rfl (fun _ => ?_) (fun z => absurd (by decide) z)
  refine lv_iconst (v := 0) hx hb dX1_op_51 (by decide) ?_
  refine lv_iconst (v := 2) hx hb dX1_op_52 (by decide) ?_
  refine sm_callV (C := RX1) (As := [.int (sm_bI false), .int 2]) (rest := []) (wr := []) (wn := (sm_wM cZ m0 m1 m2 m3 m4 m5 m6 0 (sm_fb V) (sm_fb S) (sm_fo M) (sm_fl M) (sm_fw O) (sm_fw G))) (st1 := [.int (sm_bI false)]) ⟨hx, hb, hml, hown, hts⟩ (c_fails_f l D cZ m0 m1 m2 m3 m4 m5 m6 0 V S M O G 2) (cwV 2 hts (sm_gV (i1 := 266) (i2 := 267) (i3 := 348) (i4 := 2) (i5 := 268) rfl rfl rfl rfl rfl) rfl rfl rfl (by decide +kernel) ⟨Nat.le_of_ble_eq_true rfl, Nat.le_of_ble_eq_true rfl⟩) hK [0] rfl hP hD hS hA 0 rfl rfl [0, 1, 2, 3, 4, 5, 6] [] rfl rfl (by decide) (by decide) (by decide) rfl hl.1 rfl (Nat.le_of_ble_eq_true rfl) dX1_op_53 ⟨Nat.le_of_ble_eq_true rfl, Nat.le_of_ble_eq_true rfl⟩ rfl rfl (fun H locs hP hD hS => ?_)
  refine lv_if_eq (tgt := 60) hx hb dX1_op_56 rfl (fun _ => ?_) (fun z => absurd (by decide) z)
  refine lv_aload_n hx hb dX1_op_60 rfl (lv_at hl 0 rfl) ?_
  refine lv_iload_n hx hb dX1_op_61 rfl (lv_at hl 3 rfl) ?_
  refine sm_callV (C := RX1) (As := [.int (nI a)]) (rest := []) (wr := []) (wn := (sm_wM cZ m0 m1 m2 m3 m4 m5 m6 0 (sm_fb V) (sm_fb S) (sm_fo M) (sm_fl M) (sm_fw O) (sm_fw G))) (st1 := [.int (V a)]) ⟨hx, hb, hml, hown, hts⟩ (c_number l D cZ m0 m1 m2 m3 m4 m5 m6 0 V S M O G a (by omega)) (cwV 1 hts (sm_gV (i1 := 279) (i2 := 280) (i3 := 351) (i4 := 2) (i5 := 281) rfl rfl rfl rfl rfl) rfl rfl rfl (by decide +kernel) ⟨Nat.le_of_ble_eq_true rfl, Nat.le_of_ble_eq_true rfl⟩) hK [0] rfl hP hD hS hA 0 rfl rfl [0, 1, 2, 3, 4, 5, 6] [] rfl rfl (by decide) (by decide) (by decide) rfl hl.1 rfl (Nat.le_of_ble_eq_true rfl) dX1_op_62 ⟨Nat.le_of_ble_eq_true rfl, Nat.le_of_ble_eq_true rfl⟩ rfl rfl (fun H locs hP hD hS => ?_)
  refine lv_istore (lv' := [(5, .int (V a)), (0, .ref m0), (1, .int 10), (2, .int (nI d)), (3, .int (nI a)), (4, .int (nI b))]) hx hb dX1_op_65 hl (by decide) rfl (fun ls hl => ?_)
  refine lv_aload_n hx hb dX1_op_67 rfl (lv_at hl 1 rfl) ?_
  refine lv_iload hx hb dX1_op_68 (lv_at hl 5 rfl) ?_
  refine sm_callV (C := RX1) (As := [.int (nI b)]) (rest := []) (wr := []) (wn := (sm_wM cZ m0 m1 m2 m3 m4 m5 m6 0 (sm_fb V) (sm_fb S) (sm_fo M) (sm_fl M) (sm_fw O) (sm_fw G))) (st1 := [.int (V b)]) ⟨hx, hb, hml, hown, hts⟩ (c_number l D cZ m0 m1 m2 m3 m4 m5 m6 0 V S M O G b (by omega)) (cwV 1 hts (sm_gV (i1 := 279) (i2 := 280) (i3 := 351) (i4 := 2) (i5 := 281) rfl rfl rfl rfl rfl) rfl rfl rfl (by decide +kernel) ⟨Nat.le_of_ble_eq_true rfl, Nat.le_of_ble_eq_true rfl⟩) hK [0] rfl hP hD hS hA 0 rfl rfl [0, 1, 2, 3, 4, 5, 6] [] rfl rfl (by decide) (by decide) (by decide) rfl hl.1 rfl (Nat.le_of_ble_eq_true rfl) dX1_op_70 ⟨Nat.le_of_ble_eq_true rfl, Nat.le_of_ble_eq_true rfl⟩ rfl rfl (fun H locs hP hD hS => ?_)
  refine lv_istore (lv' := [(6, .int (V b)), (5, .int (V a)), (0, .ref m0), (1, .int 10), (2, .int (nI d)), (3, .int (nI a)), (4, .int (nI b))]) hx hb dX1_op_73 hl (by decide) rfl (fun ls hl => ?_)
  refine lv_aload_n hx hb dX1_op_75 rfl (lv_at hl 2 rfl) ?_
  refine lv_iload_n hx hb dX1_op_76 rfl (lv_at hl 5 rfl) ?_
  refine sm_callV (C := RX1) (As := [.int (nI a)]) (rest := []) (wr := []) (wn := (sm_wM cZ m0 m1 m2 m3 m4 m5 m6 0 (sm_fb V) (sm_fb S) (sm_fo M) (sm_fl M) (sm_fw O) (sm_fw G))) (st1 := [.int (nI (sm_tz (S a)))]) ⟨hx, hb, hml, hown, hts⟩ (c_lowest l D cZ m0 m1 m2 m3 m4 m5 m6 0 V S M O G a (by omega)) (cwV 1 hts (sm_gV (i1 := 282) (i2 := 283) (i3 := 352) (i4 := 2) (i5 := 284) rfl rfl rfl rfl rfl) rfl rfl rfl (by decide +kernel) ⟨Nat.le_of_ble_eq_true rfl, Nat.le_of_ble_eq_true rfl⟩) hK [0] rfl hP hD hS hA 0 rfl rfl [0, 1, 2, 3, 4, 5, 6] [] rfl rfl (by decide) (by decide) (by decide) rfl hl.1 rfl (Nat.le_of_ble_eq_true rfl) dX1_op_77 ⟨Nat.le_of_ble_eq_true rfl, Nat.le_of_ble_eq_true rfl⟩ rfl rfl (fun H locs hP hD hS => ?_)
  refine lv_aload_n hx hb dX1_op_80 rfl (lv_at hl 2 rfl) ?_
  refine lv_iload hx hb dX1_op_81 (lv_at hl 6 rfl) ?_
  refine sm_callV (C := RX1) (As := [.int (nI b)]) (rest := [.int (nI (sm_tz (S a)))]) (wr := []) (wn := (sm_wM cZ m0 m1 m2 m3 m4 m5 m6 0 (sm_fb V) (sm_fb S) (sm_fo M) (sm_fl M) (sm_fw O) (sm_fw G))) (st1 := [.int (nI (sm_tz (S b))), .int (nI (sm_tz (S a)))]) ⟨hx, hb, hml, hown, hts⟩ (c_lowest l D cZ m0 m1 m2 m3 m4 m5 m6 0 V S M O G b (by omega)) (cwV 1 hts (sm_gV (i1 := 282) (i2 := 283) (i3 := 352) (i4 := 2) (i5 := 284) rfl rfl rfl rfl rfl) rfl rfl rfl (by decide +kernel) ⟨Nat.le_of_ble_eq_true rfl, Nat.le_of_ble_eq_true rfl⟩) hK [0] rfl hP hD hS hA 0 rfl rfl [0, 1, 2, 3, 4, 5, 6] [] rfl rfl (by decide) (by decide) (by decide) rfl hl.1 rfl (Nat.le_of_ble_eq_true rfl) dX1_op_83 ⟨Nat.le_of_ble_eq_true rfl, Nat.le_of_ble_eq_true rfl⟩ rfl rfl (fun H locs hP hD hS => ?_)
  refine sm_joinH (pcJ := 103) (t := nI (sm_tz (S a ||| S b))) (lv := [(0, .ref m0), (1, .int 10), (2, .int (nI d)), (3, .int (nI a)), (4, .int (nI b)), (5, .int (V a)), (6, .int (V b))]) (w := (sm_wM cZ m0 m1 m2 m3 m4 m5 m6 0 (sm_fb V) (sm_fb S) (sm_fo M) (sm_fl M) (sm_fw O) (sm_fw G))) (rest := []) hl hP hD hS (fun j103 => ?_) (fun H locs ls hl hP hD hS => ?_)
  · refine lv_icmp_ge (tgt := 97) hx hb dX1_op_86 rfl (fun h86 => ?_) (fun h86 => ?_)
    · refine lv_aload_n hx hb dX1_op_97 rfl (lv_at hl 2 rfl) ?_
      refine lv_iload hx hb dX1_op_98 (lv_at hl 6 rfl) ?_
      refine sm_callV (C := RX1) (As := [.int (nI b)]) (rest := []) (wr := []) (wn := (sm_wM cZ m0 m1 m2 m3 m4 m5 m6 0 (sm_fb V) (sm_fb S) (sm_fo M) (sm_fl M) (sm_fw O) (sm_fw G))) (st1 := [.int (nI (sm_tz (S b)))]) ⟨hx, hb, hml, hown, hts⟩ (c_lowest l D cZ m0 m1 m2 m3 m4 m5 m6 0 V S M O G b (by omega)) (cwV 1 hts (sm_gV (i1 := 282) (i2 := 283) (i3 := 352) (i4 := 2) (i5 := 284) rfl rfl rfl rfl rfl) rfl rfl rfl (by decide +kernel) ⟨Nat.le_of_ble_eq_true rfl, Nat.le_of_ble_eq_true rfl⟩) hK [0] rfl hP hD hS hA 0 rfl rfl [0, 1, 2, 3, 4, 5, 6] [] rfl rfl (by decide) (by decide) (by decide) rfl hl.1 rfl (Nat.le_of_ble_eq_true rfl) dX1_op_100 ⟨Nat.le_of_ble_eq_true rfl, Nat.le_of_ble_eq_true rfl⟩ rfl rfl (fun H locs hP hD hS => ?_)
      refine sm_eqi (y := nI (sm_tz (S a ||| S b))) (sm_low2 h86) ?_
      exact j103 _ _ _ (lv_sub hl [2, 3, 4, 5, 6, 1, 0] rfl) hP hD hS
    · refine lv_aload_n hx hb dX1_op_89 rfl (lv_at hl 2 rfl) ?_
      refine lv_iload_n hx hb dX1_op_90 rfl (lv_at hl 5 rfl) ?_
      refine sm_callV (C := RX1) (As := [.int (nI a)]) (rest := []) (wr := []) (wn := (sm_wM cZ m0 m1 m2 m3 m4 m5 m6 0 (sm_fb V) (sm_fb S) (sm_fo M) (sm_fl M) (sm_fw O) (sm_fw G))) (st1 := [.int (nI (sm_tz (S a)))]) ⟨hx, hb, hml, hown, hts⟩ (c_lowest l D cZ m0 m1 m2 m3 m4 m5 m6 0 V S M O G a (by omega)) (cwV 1 hts (sm_gV (i1 := 282) (i2 := 283) (i3 := 352) (i4 := 2) (i5 := 284) rfl rfl rfl rfl rfl) rfl rfl rfl (by decide +kernel) ⟨Nat.le_of_ble_eq_true rfl, Nat.le_of_ble_eq_true rfl⟩) hK [0] rfl hP hD hS hA 0 rfl rfl [0, 1, 2, 3, 4, 5, 6] [] rfl rfl (by decide) (by decide) (by decide) rfl hl.1 rfl (Nat.le_of_ble_eq_true rfl) dX1_op_91 ⟨Nat.le_of_ble_eq_true rfl, Nat.le_of_ble_eq_true rfl⟩ rfl rfl (fun H locs hP hD hS => ?_)
      refine lv_goto (tgt := 103) hx hb dX1_op_94 rfl ?_
      refine sm_eqi (y := nI (sm_tz (S a ||| S b))) (sm_low1 h86) ?_
      exact j103 _ _ _ (lv_sub hl [2, 3, 4, 5, 6, 1, 0] rfl) hP hD hS
  refine lv_istore (lv' := [(7, .int (nI (sm_tz (S a ||| S b)))), (0, .ref m0), (1, .int 10), (2, .int (nI d)), (3, .int (nI a)), (4, .int (nI b)), (5, .int (V a)), (6, .int (V b))]) hx hb dX1_op_103 hl (by decide) rfl (fun ls hl => ?_)
  refine lv_iload_n hx hb dX1_op_105 rfl (lv_at hl 2 rfl) ?_
  refine lv_tableIn (off := 475) (tgt := 581) hx hb dX1_op_106 (by decide) (by decide) (by decide) (by decide) ?_
  refine lv_aload_n hx hb dX1_op_581 rfl (lv_at hl 1 rfl) ?_
  refine sm_joinH (pcJ := 605) (t := sm_bI (decide (V a ^^^ (-2147483648) < V b ^^^ (-2147483648)))) (lv := [(0, .ref m0), (2, .int (nI d)), (3, .int (nI a)), (4, .int (nI b))]) (w := (sm_wM cZ m0 m1 m2 m3 m4 m5 m6 0 (sm_fb V) (sm_fb S) (sm_fo M) (sm_fl M) (sm_fw O) (sm_fw G))) (rest := [.ref m0]) hl hP hD hS (fun j605 => ?_) (fun H locs ls hl hP hD hS => ?_)
  · refine lv_iload hx hb dX1_op_582 (lv_at hl 6 rfl) ?_
    refine lv_i2l (v := (V a).toInt64) hx hb dX1_op_584 rfl ?_
    refine lv_ldc2 (v := 4294967295) hx hb hown (hw 303 rfl) dX1_op_585 ?_
    refine lv_land hx hb dX1_op_588 ?_
    refine lv_iload hx hb dX1_op_589 (lv_at hl 7 rfl) ?_
    refine lv_i2l (v := (V b).toInt64) hx hb dX1_op_591 rfl ?_
    refine lv_ldc2 (v := 4294967295) hx hb hown (hw 303 rfl) dX1_op_592 ?_
    refine lv_land hx hb dX1_op_595 ?_
    refine W.lcmp hx hb dX1_op_596 ?_
    refine lv_if_ge (tgt := 604) hx hb dX1_op_597 rfl (fun h597 => ?_) (fun h597 => ?_)
    · refine lv_iconst (v := 0) hx hb dX1_op_604 (by decide) ?_
      refine sm_eqi (y := sm_bI (decide (V a ^^^ (-2147483648) < V b ^^^ (-2147483648)))) (sm_l10f h597) ?_
      exact j605 _ _ _ (lv_sub hl [1, 3, 4, 5] rfl) hP hD hS
    · refine lv_iconst (v := 1) hx hb dX1_op_600 (by decide) ?_
      refine lv_goto (tgt := 605) hx hb dX1_op_601 rfl ?_
      refine sm_eqi (y := sm_bI (decide (V a ^^^ (-2147483648) < V b ^^^ (-2147483648)))) (sm_l10t h597) ?_
      exact j605 _ _ _ (lv_sub hl [1, 3, 4, 5] rfl) hP hD hS
  refine sm_callV (C := RX1) (As := [.int (sm_bI (decide (V a ^^^ (-2147483648) < V b ^^^ (-2147483648))))]) (rest := []) (wr := []) (wn := (sm_wM cZ m0 m1 m2 m3 m4 m5 m6 0 (sm_fb V) (sm_fb S) (sm_fo M) (sm_fl M) (sm_fw (sm_bI (decide (V a ^^^ (-2147483648) < V b ^^^ (-2147483648))))) (sm_fw 0))) (st1 := []) ⟨hx, hb, hml, hown, hts⟩ (c_make l D cZ m0 m1 m2 m3 m4 m5 m6 0 V S M O G (sm_bI (decide (V a ^^^ (-2147483648) < V b ^^^ (-2147483648))))) (cwV 1 hts (sm_gV (i1 := 269) (i2 := 270) (i3 := 349) (i4 := 2) (i5 := 271) rfl rfl rfl rfl rfl) rfl rfl rfl (by decide +kernel) ⟨Nat.le_of_ble_eq_true rfl, Nat.le_of_ble_eq_true rfl⟩) hK [0] rfl hP hD hS hA 0 rfl rfl [0, 1, 2, 3, 4, 5, 6] [] rfl rfl (by decide) (by decide) (by decide) rfl hl.1 rfl (Nat.le_of_ble_eq_true rfl) dX1_op_605 ⟨Nat.le_of_ble_eq_true rfl, Nat.le_of_ble_eq_true rfl⟩ rfl rfl (fun H locs hP hD hS => ?_)
  refine lv_aload_n hx hb dX1_op_608 rfl (lv_at hl 0 rfl) ?_
  refine va_get (D := D) (ci := 1) (v := .ref m6) (C := RX1) (T := TX1) (N := 7) hx hb hts inX1 hown hK hP 0 rfl rfl 6 (by decide) (hw 238 rfl) (fun _ h9 => h9) rfl dX1_op_609 ?_
  refine lv_iconst (v := 0) hx hb dX1_op_612 (by decide) ?_
  refine sm_joinH (pcJ := 656) (t := sm_bI (decide (sm_le (V a ^^^ (-2147483648)) (S a) < sm_he (V b ^^^ (-2147483648)) (S b)) && decide (sm_le (V b ^^^ (-2147483648)) (S b) ≤ sm_he (V a ^^^ (-2147483648)) (S a)))) (lv := [(0, .ref m0), (2, .int (nI d)), (3, .int (nI a)), (4, .int (nI b))]) (w := (sm_wM cZ m0 m1 m2 m3 m4 m5 m6 0 (sm_fb V) (sm_fb S) (sm_fo M) (sm_fl M) (sm_fw (sm_bI (decide (V a ^^^ (-2147483648) < V b ^^^ (-2147483648))))) (sm_fw 0))) (rest := [.int 0, .ref m6]) hl hP hD hS (fun j656 => ?_) (fun H locs ls hl hP hD hS => ?_)
  · refine lv_aload_n hx hb dX1_op_613 rfl (lv_at hl 0 rfl) ?_
    refine lv_iload_n hx hb dX1_op_614 rfl (lv_at hl 2 rfl) ?_
    refine lv_iconst (v := 1) hx hb dX1_op_615 (by decide) ?_
    refine lv_iconst (v := 0) hx hb dX1_op_616 (by decide) ?_
    refine sm_callV (C := RX1) (As := [.int (nI a), .int (sm_bI true), .int (sm_bI false)]) (rest := [.int 0, .ref m6]) (wr := []) (wn := (sm_wM cZ m0 m1 m2 m3 m4 m5 m6 0 (sm_fb V) (sm_fb S) (sm_fo M) (sm_fl M) (sm_fw (sm_bI (decide (V a ^^^ (-2147483648) < V b ^^^ (-2147483648))))) (sm_fw 0))) (st1 := [.long (sm_en (sm_one (V a) (S a) true false) false 32), .int 0, .ref m6]) ⟨hx, hb, hml, hown, hts⟩ (c_end l D cZ m0 m1 m2 m3 m4 m5 m6 0 V S M (sm_bI (decide (V a ^^^ (-2147483648) < V b ^^^ (-2147483648)))) 0 a (by omega) true false) (cwV 3 hts (sm_gV (i1 := 300) (i2 := 301) (i3 := 358) (i4 := 2) (i5 := 302) rfl rfl rfl rfl rfl) rfl rfl rfl (by decide +kernel) ⟨Nat.le_of_ble_eq_true rfl, Nat.le_of_ble_eq_true rfl⟩) hK [0] rfl hP hD hS hA 0 rfl rfl [0, 1, 2, 3, 4, 5, 6] [] rfl rfl (by decide) (by decide) (by decide) rfl hl.1 rfl (Nat.le_of_ble_eq_true rfl) dX1_op_617 ⟨Nat.le_of_ble_eq_true rfl, Nat.le_of_ble_eq_true rfl⟩ rfl rfl (fun H locs hP hD hS => ?_)
    refine lv_aload_n hx hb dX1_op_620 rfl (lv_at hl 0 rfl) ?_
    refine lv_iload hx hb dX1_op_621 (lv_at hl 3 rfl) ?_
    refine lv_iconst (v := 0) hx hb dX1_op_623 (by decide) ?_
    refine lv_iconst (v := 0) hx hb dX1_op_624 (by decide) ?_
    refine sm_callV (C := RX1) (As := [.int (nI b), .int (sm_bI false), .int (sm_bI false)]) (rest := [.long (sm_en (sm_one (V a) (S a) true false) false 32), .int 0, .ref m6]) (wr := []) (wn := (sm_wM cZ m0 m1 m2 m3 m4 m5 m6 0 (sm_fb V) (sm_fb S) (sm_fo M) (sm_fl M) (sm_fw (sm_bI (decide (V a ^^^ (-2147483648) < V b ^^^ (-2147483648))))) (sm_fw 0))) (st1 := [.long (sm_en (sm_one (V b) (S b) false false) false 32), .long (sm_en (sm_one (V a) (S a) true false) false 32), .int 0, .ref m6]) ⟨hx, hb, hml, hown, hts⟩ (c_end l D cZ m0 m1 m2 m3 m4 m5 m6 0 V S M (sm_bI (decide (V a ^^^ (-2147483648) < V b ^^^ (-2147483648)))) 0 b (by omega) false false) (cwV 3 hts (sm_gV (i1 := 300) (i2 := 301) (i3 := 358) (i4 := 2) (i5 := 302) rfl rfl rfl rfl rfl) rfl rfl rfl (by decide +kernel) ⟨Nat.le_of_ble_eq_true rfl, Nat.le_of_ble_eq_true rfl⟩) hK [0] rfl hP hD hS hA 0 rfl rfl [0, 1, 2, 3, 4, 5, 6] [] rfl rfl (by decide) (by decide) (by decide) rfl hl.1 rfl (Nat.le_of_ble_eq_true rfl) dX1_op_625 ⟨Nat.le_of_ble_eq_true rfl, Nat.le_of_ble_eq_true rfl⟩ rfl rfl (fun H locs hP hD hS => ?_)
    refine W.lcmp hx hb dX1_op_628 ?_
    refine lv_if_lt (tgt := 655) hx hb dX1_op_629 rfl (fun h629 => ?_) (fun h629 => ?_)
    · refine lv_iconst (v := 0) hx hb dX1_op_655 (by decide) ?_
      refine sm_eqi (y := sm_bI (decide (sm_le (V a ^^^ (-2147483648)) (S a) < sm_he (V b ^^^ (-2147483648)) (S b)) && decide (sm_le (V b ^^^ (-2147483648)) (S b) ≤ sm_he (V a ^^^ (-2147483648)) (S a)))) (sm_o10f h629) ?_
      exact j656 _ _ _ (lv_sub hl [0, 1, 2, 3] rfl) hP hD hS
    · refine lv_aload_n hx hb dX1_op_632 rfl (lv_at hl 0 rfl) ?_
      refine lv_iload_n hx hb dX1_op_633 rfl (lv_at hl 2 rfl) ?_
      refine lv_iconst (v := 0) hx hb dX1_op_634 (by decide) ?_
      refine lv_iconst (v := 0) hx hb dX1_op_635 (by decide) ?_
      refine sm_callV (C := RX1) (As := [.int (nI a), .int (sm_bI false), .int (sm_bI false)]) (rest := [.int 0, .ref m6]) (wr := []) (wn := (sm_wM cZ m0 m1 m2 m3 m4 m5 m6 0 (sm_fb V) (sm_fb S) (sm_fo M) (sm_fl M) (sm_fw (sm_bI (decide (V a ^^^ (-2147483648) < V b ^^^ (-2147483648))))) (sm_fw 0))) (st1 := [.long (sm_en (sm_one (V a) (S a) false false) false 32), .int 0, .ref m6]) ⟨hx, hb, hml, hown, hts⟩ (c_end l D cZ m0 m1 m2 m3 m4 m5 m6 0 V S M (sm_bI (decide (V a ^^^ (-2147483648) < V b ^^^ (-2147483648)))) 0 a (by omega) false false) (cwV 3 hts (sm_gV (i1 := 300) (i2 := 301) (i3 := 358) (i4 := 2) (i5 := 302) rfl rfl rfl rfl rfl) rfl rfl rfl (by decide +kernel) ⟨Nat.le_of_ble_eq_true rfl, Nat.le_of_ble_eq_true rfl⟩) hK [0] rfl hP hD hS hA 0 rfl rfl [0, 1, 2, 3, 4, 5, 6] [] rfl rfl (by decide) (by decide) (by decide) rfl hl.1 rfl (Nat.le_of_ble_eq_true rfl) dX1_op_636 ⟨Nat.le_of_ble_eq_true rfl, Nat.le_of_ble_eq_true rfl⟩ rfl rfl (fun H locs hP hD hS => ?_)
      refine lv_aload_n hx hb dX1_op_639 rfl (lv_at hl 0 rfl) ?_
      refine lv_iload hx hb dX1_op_640 (lv_at hl 3 rfl) ?_
      refine lv_iconst (v := 1) hx hb dX1_op_642 (by decide) ?_
      refine lv_iconst (v := 0) hx hb dX1_op_643 (by decide) ?_
      refine sm_callV (C := RX1) (As := [.int (nI b), .int (sm_bI true), .int (sm_bI false)]) (rest := [.long (sm_en (sm_one (V a) (S a) false false) false 32), .int 0, .ref m6]) (wr := []) (wn := (sm_wM cZ m0 m1 m2 m3 m4 m5 m6 0 (sm_fb V) (sm_fb S) (sm_fo M) (sm_fl M) (sm_fw (sm_bI (decide (V a ^^^ (-2147483648) < V b ^^^ (-2147483648))))) (sm_fw 0))) (st1 := [.long (sm_en (sm_one (V b) (S b) true false) false 32), .long (sm_en (sm_one (V a) (S a) false false) false 32), .int 0, .ref m6]) ⟨hx, hb, hml, hown, hts⟩ (c_end l D cZ m0 m1 m2 m3 m4 m5 m6 0 V S M (sm_bI (decide (V a ^^^ (-2147483648) < V b ^^^ (-2147483648)))) 0 b (by omega) true false) (cwV 3 hts (sm_gV (i1 := 300) (i2 := 301) (i3 := 358) (i4 := 2) (i5 := 302) rfl rfl rfl rfl rfl) rfl rfl rfl (by decide +kernel) ⟨Nat.le_of_ble_eq_true rfl, Nat.le_of_ble_eq_true rfl⟩) hK [0] rfl hP hD hS hA 0 rfl rfl [0, 1, 2, 3, 4, 5, 6] [] rfl rfl (by decide) (by decide) (by decide) rfl hl.1 rfl (Nat.le_of_ble_eq_true rfl) dX1_op_644 ⟨Nat.le_of_ble_eq_true rfl, Nat.le_of_ble_eq_true rfl⟩ rfl rfl (fun H locs hP hD hS => ?_)
      refine W.lcmp hx hb dX1_op_647 ?_
      refine lv_if_ge (tgt := 655) hx hb dX1_op_648 rfl (fun h648 => ?_) (fun h648 => ?_)
      · refine lv_iconst (v := 0) hx hb dX1_op_655 (by decide) ?_
        refine sm_eqi (y := sm_bI (decide (sm_le (V a ^^^ (-2147483648)) (S a) < sm_he (V b ^^^ (-2147483648)) (S b)) && decide (sm_le (V b ^^^ (-2147483648)) (S b) ≤ sm_he (V a ^^^ (-2147483648)) (S a)))) (sm_o10g h629 h648) ?_
        exact j656 _ _ _ (lv_sub hl [0, 1, 2, 3] rfl) hP hD hS
      · refine lv_iconst (v := 1) hx hb dX1_op_651 (by decide) ?_
        refine lv_goto (tgt := 656) hx hb dX1_op_652 rfl ?_
        refine sm_eqi (y := sm_bI (decide (sm_le (V a ^^^ (-2147483648)) (S a) < sm_he (V b ^^^ (-2147483648)) (S b)) && decide (sm_le (V b ^^^ (-2147483648)) (S b) ≤ sm_he (V a ^^^ (-2147483648)) (S a)))) (sm_o10t h629 h648) ?_
        exact j656 _ _ _ (lv_sub hl [0, 1, 2, 3] rfl) hP hD hS
  refine sm_zast (f' := sm_fw (sm_bI (decide (sm_le (V a ^^^ (-2147483648)) (S a) < sm_he (V b ^^^ (-2147483648)) (S b)) && decide (sm_le (V b ^^^ (-2147483648)) (S b) ≤ sm_he (V a ^^^ (-2147483648)) (S a))))) (ws' := (sm_wM cZ m0 m1 m2 m3 m4 m5 m6 0 (sm_fb V) (sm_fb S) (sm_fo M) (sm_fl M) (sm_fw (sm_bI (decide (V a ^^^ (-2147483648) < V b ^^^ (-2147483648))))) (sm_fw (sm_bI (decide (sm_le (V a ^^^ (-2147483648)) (S a) < sm_he (V b ^^^ (-2147483648)) (S b)) && decide (sm_le (V b ^^^ (-2147483648)) (S b) ≤ sm_he (V a ^^^ (-2147483648)) (S a))))))) hx hb hK hP hD hS 6 0 rfl rfl (vp_in_nI (n := 0) (by omega) (by decide)) dX1_op_656 (sm_g0 _) rfl (fun H locs hP hD hS => ?_)
  refine lv_goto (tgt := 778) hx hb dX1_op_657 rfl ?_
  refine lv_aload_n hx hb dX1_op_778 rfl (lv_at hl 0 rfl) ?_
  refine lv_iload_n hx hb dX1_op_779 rfl (lv_at hl 1 rfl) ?_
  refine sm_callV (C := RX1) (As := [.int (nI d)]) (rest := []) (wr := []) (wn := (sm_wM cZ m0 m1 m2 m3 m4 m5 m6 0 (sm_fb (upd V d (sm_bI (decide (V a ^^^ (-2147483648) < V b ^^^ (-2147483648)))))) (sm_fb (upd S d (sm_bI (decide (sm_le (V a ^^^ (-2147483648)) (S a) < sm_he (V b ^^^ (-2147483648)) (S b)) && decide (sm_le (V b ^^^ (-2147483648)) (S b) ≤ sm_he (V a ^^^ (-2147483648)) (S a)))))) (sm_fo M) (sm_fl M) (sm_fw (sm_bI (decide (V a ^^^ (-2147483648) < V b ^^^ (-2147483648))))) (sm_fw (sm_bI (decide (sm_le (V a ^^^ (-2147483648)) (S a) < sm_he (V b ^^^ (-2147483648)) (S b)) && decide (sm_le (V b ^^^ (-2147483648)) (S b) ≤ sm_he (V a ^^^ (-2147483648)) (S a))))))) (st1 := []) ⟨hx, hb, hml, hown, hts⟩ (c_give l D cZ m0 m1 m2 m3 m4 m5 m6 0 V S M (sm_bI (decide (V a ^^^ (-2147483648) < V b ^^^ (-2147483648)))) (sm_bI (decide (sm_le (V a ^^^ (-2147483648)) (S a) < sm_he (V b ^^^ (-2147483648)) (S b)) && decide (sm_le (V b ^^^ (-2147483648)) (S b) ≤ sm_he (V a ^^^ (-2147483648)) (S a)))) d (by omega)) (cwV 1 hts (sm_gV (i1 := 272) (i2 := 273) (i3 := 350) (i4 := 2) (i5 := 274) rfl rfl rfl rfl rfl) rfl rfl rfl (by decide +kernel) ⟨Nat.le_of_ble_eq_true rfl, Nat.le_of_ble_eq_true rfl⟩) hK [0] rfl hP hD hS hA 0 rfl rfl [0, 1, 2, 3, 4, 5, 6] [] rfl rfl (by decide) (by decide) (by decide) rfl hl.1 rfl (Nat.le_of_ble_eq_true rfl) dX1_op_780 ⟨Nat.le_of_ble_eq_true rfl, Nat.le_of_ble_eq_true rfl⟩ rfl rfl (fun H locs hP hD hS => ?_)
  exact sm_vret hx hb hrt hlocks hS hP hD dX1_op_783
set_option maxHeartbeats 4000000 in
set_option maxRecDepth 100000 in
theorem c_mop_11 (l : Launch) (D : va_G) (cZ : ClassId) (m0 m1 m2 m3 m4 m5 m6 : Nat) (err : Int32) (V S M : Nat → Int32) (O G : Int32) (d a b : Nat) (hd : d < 16) (ha : a < 16) (hb' : b < 16) : sm_C l yX1_op wsX1_op ({ frames := 5, cells := 0, slots := 0, locals := 140 } : Room) D vwCl [(cZ, .boolean)] [.ref m0, .int 11, .int (nI d), .int (nI a), .int (nI b)] (sm_wM cZ m0 m1 m2 m3 m4 m5 m6 err (sm_fb V) (sm_fb S) (sm_fo M) (sm_fl M) (sm_fw O) (sm_fw G)) none (sm_wM cZ m0 m1 m2 m3 m4 m5 m6 0 (sm_fb (upd V d (sm_bI (decide (V a = V b))))) (sm_fb (upd S d (sm_bI (!decide (S a ||| S b = 0) && decide ((V a ^^^ V b) &&& ((S a ||| S b) ^^^ (-1)) = 0))))) (sm_fo M) (sm_fl M) (sm_fw (sm_bI (decide (V a = V b)))) (sm_fw (sm_bI (!decide (S a ||| S b = 0) && decide ((V a ^^^ V b) &&& ((S a ||| S b) ^^^ (-1)) = 0))))) := by
  refine sm_start (cc := cX1_op) (maxL := 11) (ret := none) (lv := [(0, .ref m0), (1, .int 11), (2, .int (nI d)), (3, .int (nI a)), (4, .int (nI b))]) (by decide) rfl (Nat.le_of_ble_eq_true rfl) rfl ?_
  intro p e s m below meth c hx hb hrt hts hown hlocks hml hin hK hP hD hS hA ls hl
  have hw := sm_hw hts
  have q5 := sm_tz_le (S a ||| S b)
  have q1 := sm_tz_le (S a)
  have q2 := sm_tz_le (S b)
  have q3 := sm_tz_le (V b ||| S b)
  have q4 := sm_tz_le (V a ||| S a)
  refine lv_aload_n hx hb dX1_op_0 rfl (lv_at hl 0 rfl) ?_
  refine lv_iload_n hx hb dX1_op_1 rfl (lv_at hl 1 rfl) ?_
  refine lv_if_lt (tgt := 11) hx hb dX1_op_2 rfl (fun z => absurd z (by decide)) (fun _ => ?_)
  refine lv_iload_n hx hb dX1_op_5 rfl (lv_at hl 1 rfl) ?_
  refine lv_bipush (v := 12) hx hb dX1_op_6 (by decide) ?_
  refine lv_icmp_le (tgt := 15) hx hb dX1_op_8 rfl (fun _ => ?_) (fun z => absurd (by decide) z)
  refine lv_iconst (v := 0) hx hb dX1_op_15 (by decide) ?_
  refine lv_iconst (v := 1) hx hb dX1_op_16 (by decide) ?_
  refine sm_callV (C := RX1) (As := [.int (sm_bI false), .int 1]) (rest := []) (wr := []) (wn := (sm_wM cZ m0 m1 m2 m3 m4 m5 m6 0 (sm_fb V) (sm_fb S) (sm_fo M) (sm_fl M) (sm_fw O) (sm_fw G))) (st1 := [.int (sm_bI false)]) ⟨hx, hb, hml, hown, hts⟩ (c_fails_f l D cZ m0 m1 m2 m3 m4 m5 m6 err V S M O G 1) (cwV 2 hts (sm_gV (i1 := 266) (i2 := 267) (i3 := 348) (i4 := 2) (i5 := 268) rfl rfl rfl rfl rfl) rfl rfl rfl (by decide +kernel) ⟨Nat.le_of_ble_eq_true rfl, Nat.le_of_ble_eq_true rfl⟩) hK [0] rfl hP hD hS hA 0 rfl rfl [0, 1, 2, 3, 4, 5, 6] [] rfl rfl (by decide) (by decide) (by decide) rfl hl.1 rfl (Nat.le_of_ble_eq_true rfl) dX1_op_17 ⟨Nat.le_of_ble_eq_true rfl, Nat.le_of_ble_eq_true rfl⟩ rfl rfl (fun H locs hP hD hS => ?_)
  refine lv_if_eq (tgt := 24) hx hb dX1_op_20 rfl (fun _ => ?_) (fun z => absurd (by decide) z)
  refine lv_aload_n hx hb dX1_op_24 rfl (lv_at hl 0 rfl) ?_
  refine lv_iload_n hx hb dX1_op_25 rfl (lv_at hl 2 rfl) ?_
  refine sm_callS (As := [.int (nI d)]) (rest := [.ref m0]) (wr := (sm_wM cZ m0 m1 m2 m3 m4 m5 m6 0 (sm_fb V) (sm_fb S) (sm_fo M) (sm_fl M) (sm_fw O) (sm_fw G))) (wn := (sm_wM cZ m0 m1 m2 m3 m4 m5 m6 0 (sm_fb V) (sm_fb S) (sm_fo M) (sm_fl M) (sm_fw O) (sm_fw G))) (st1 := [.int (sm_bI false), .ref m0]) ⟨hx, hb, hml, hown, hts⟩ (c_none_f l D d (by omega)) (va_cwS 1 hts (sm_gS (i1 := 263) (i2 := 264) (i4 := 2) (i5 := 265) rfl rfl rfl rfl) rfl rfl rfl (by decide +kernel) ⟨Nat.le_of_ble_eq_true rfl, Nat.le_of_ble_eq_true rfl⟩) hK [] rfl hP hD hS hA [] [0, 1, 2, 3, 4, 5, 6] rfl rfl (by decide) (by decide) (by decide) rfl hl.1 rfl (Nat.le_of_ble_eq_true rfl) dX1_op_26 ⟨Nat.le_of_ble_eq_true rfl, Nat.le_of_ble_eq_true rfl⟩ rfl rfl (fun H locs hP hD hS => ?_)
  refine lv_if_ne (tgt := 47) hx hb dX1_op_29 rfl (fun z => absurd (by decide) z) (fun _ => ?_)
  refine lv_iload_n hx hb dX1_op_32 rfl (lv_at hl 3 rfl) ?_
  refine sm_callS (As := [.int (nI a)]) (rest := [.ref m0]) (wr := (sm_wM cZ m0 m1 m2 m3 m4 m5 m6 0 (sm_fb V) (sm_fb S) (sm_fo M) (sm_fl M) (sm_fw O) (sm_fw G))) (wn := (sm_wM cZ m0 m1 m2 m3 m4 m5 m6 0 (sm_fb V) (sm_fb S) (sm_fo M) (sm_fl M) (sm_fw O) (sm_fw G))) (st1 := [.int (sm_bI false), .ref m0]) ⟨hx, hb, hml, hown, hts⟩ (c_none_f l D a (by omega)) (va_cwS 1 hts (sm_gS (i1 := 263) (i2 := 264) (i4 := 2) (i5 := 265) rfl rfl rfl rfl) rfl rfl rfl (by decide +kernel) ⟨Nat.le_of_ble_eq_true rfl, Nat.le_of_ble_eq_true rfl⟩) hK [] rfl hP hD hS hA [] [0, 1, 2, 3, 4, 5, 6] rfl rfl (by decide) (by decide) (by decide) rfl hl.1 rfl (Nat.le_of_ble_eq_true rfl) dX1_op_33 ⟨Nat.le_of_ble_eq_true rfl, Nat.le_of_ble_eq_true rfl⟩ rfl rfl (fun H locs hP hD hS => ?_)
  refine lv_if_ne (tgt := 47) hx hb dX1_op_36 rfl (fun z => absurd (by decide) z) (fun _ => ?_)
  refine lv_iload hx hb dX1_op_39 (lv_at hl 4 rfl) ?_
  refine sm_callS (As := [.int (nI b)]) (rest := [.ref m0]) (wr := (sm_wM cZ m0 m1 m2 m3 m4 m5 m6 0 (sm_fb V) (sm_fb S) (sm_fo M) (sm_fl M) (sm_fw O) (sm_fw G))) (wn := (sm_wM cZ m0 m1 m2 m3 m4 m5 m6 0 (sm_fb V) (sm_fb S) (sm_fo M) (sm_fl M) (sm_fw O) (sm_fw G))) (st1 := [.int (sm_bI false), .ref m0]) ⟨hx, hb, hml, hown, hts⟩ (c_none_f l D b (by omega)) (va_cwS 1 hts (sm_gS (i1 := 263) (i2 := 264) (i4 := 2) (i5 := 265) rfl rfl rfl rfl) rfl rfl rfl (by decide +kernel) ⟨Nat.le_of_ble_eq_true rfl, Nat.le_of_ble_eq_true rfl⟩) hK [] rfl hP hD hS hA [] [0, 1, 2, 3, 4, 5, 6] rfl rfl (by decide) (by decide) (by decide) rfl hl.1 rfl (Nat.le_of_ble_eq_true rfl) dX1_op_41 ⟨Nat.le_of_ble_eq_true rfl, Nat.le_of_ble_eq_true rfl⟩ rfl rfl (fun H locs hP hD hS => ?_)
  refine lv_if_eq (tgt := 51) hx hb dX1_op_44 rfl (fun _ => ?_) (fun z => absurd (by decide) z)
  refine lv_iconst (v := 0) hx hb dX1_op_51 (by decide) ?_
  refine lv_iconst (v := 2) hx hb dX1_op_52 (by decide) ?_
  refine sm_callV (C := RX1) (As := [.int (sm_bI false), .int 2]) (rest := []) (wr := []) (wn := (sm_wM cZ m0 m1 m2 m3 m4 m5 m6 0 (sm_fb V) (sm_fb S) (sm_fo M) (sm_fl M) (sm_fw O) (sm_fw G))) (st1 := [.int (sm_bI false)]) ⟨hx, hb, hml, hown, hts⟩ (c_fails_f l D cZ m0 m1 m2 m3 m4 m5 m6 0 V S M O G 2) (cwV 2 hts (sm_gV (i1 := 266) (i2 := 267) (i3 := 348) (i4 := 2) (i5 := 268) rfl rfl rfl rfl rfl) rfl rfl rfl (by decide +kernel) ⟨Nat.le_of_ble_eq_true rfl, Nat.le_of_ble_eq_true rfl⟩) hK [0] rfl hP hD hS hA 0 rfl rfl [0, 1, 2, 3, 4, 5, 6] [] rfl rfl (by decide) (by decide) (by decide) rfl hl.1 rfl (Nat.le_of_ble_eq_true rfl) dX1_op_53 ⟨Nat.le_of_ble_eq_true rfl, Nat.le_of_ble_eq_true rfl⟩ rfl rfl (fun H locs hP hD hS => ?_)
  refine lv_if_eq (tgt := 60) hx hb dX1_op_56 rfl (fun _ => ?_) (fun z => absurd (by decide) z)
  refine lv_aload_n hx hb dX1_op_60 rfl (lv_at hl 0 rfl) ?_
  refine lv_iload_n hx hb dX1_op_61 rfl (lv_at hl 3 rfl) ?_
  refine sm_callV (C := RX1) (As := [.int (nI a)]) (rest := []) (wr := []) (wn := (sm_wM cZ m0 m1 m2 m3 m4 m5 m6 0 (sm_fb V) (sm_fb S) (sm_fo M) (sm_fl M) (sm_fw O) (sm_fw G))) (st1 := [.int (V a)]) ⟨hx, hb, hml, hown, hts⟩ (c_number l D cZ m0 m1 m2 m3 m4 m5 m6 0 V S M O G a (by omega)) (cwV 1 hts (sm_gV (i1 := 279) (i2 := 280) (i3 := 351) (i4 := 2) (i5 := 281) rfl rfl rfl rfl rfl) rfl rfl rfl (by decide +kernel) ⟨Nat.le_of_ble_eq_true rfl, Nat.le_of_ble_eq_true rfl⟩) hK [0] rfl hP hD hS hA 0 rfl rfl [0, 1, 2, 3, 4, 5, 6] [] rfl rfl (by decide) (by decide) (by decide) rfl hl.1 rfl (Nat.le_of_ble_eq_true rfl) dX1_op_62 ⟨Nat.le_of_ble_eq_true rfl, Nat.le_of_ble_eq_true rfl⟩ rfl rfl (fun H locs hP hD hS => ?_)
  refine lv_istore (lv' := [(5, .int (V a)), (0, .ref m0), (1, .int 11), (2, .int (nI d)), (3, .int (nI a)), (4, .int (nI b))]) hx hb dX1_op_65 hl (by decide) rfl (fun ls hl => ?_)
  refine lv_aload_n hx hb dX1_op_67 rfl (lv_at hl 1 rfl) ?_
  refine lv_iload hx hb dX1_op_68 (lv_at hl 5 rfl) ?_
  refine sm_callV (C := RX1) (As := [.int (nI b)]) (rest := []) (wr := []) (wn := (sm_wM cZ m0 m1 m2 m3 m4 m5 m6 0 (sm_fb V) (sm_fb S) (sm_fo M) (sm_fl M) (sm_fw O) (sm_fw G))) (st1 := [.int (V b)]) ⟨hx, hb, hml, hown, hts⟩ (c_number l D cZ m0 m1 m2 m3 m4 m5 m6 0 V S M O G b (by omega)) (cwV 1 hts (sm_gV (i1 := 279) (i2 := 280) (i3 := 351) (i4 := 2) (i5 := 281) rfl rfl rfl rfl rfl) rfl rfl rfl (by decide +kernel) ⟨Nat.le_of_ble_eq_true rfl, Nat.le_of_ble_eq_true rfl⟩) hK [0] rfl hP hD hS hA 0 rfl rfl [0, 1, 2, 3, 4, 5, 6] [] rfl rfl (by decide) (by decide) (by decide) rfl hl.1 rfl (Nat.le_of_ble_eq_true rfl) dX1_op_70 ⟨Nat.le_of_ble_eq_true rfl, Nat.le_of_ble_eq_true rfl⟩ rfl rfl (fun H locs hP hD hS => ?_)
  refine lv_istore (lv' := [(6, .int (V b)), (5, .int (V a)), (0, .ref m0), (1, .int 11), (2, .int (nI d)), (3, .int (nI a)), (4, .int (nI b))]) hx hb dX1_op_73 hl (by decide) rfl (fun ls hl => ?_)
  refine lv_aload_n hx hb dX1_op_75 rfl (lv_at hl 2 rfl) ?_
  refine lv_iload_n hx hb dX1_op_76 rfl (lv_at hl 5 rfl) ?_
  refine sm_callV (C := RX1) (As := [.int (nI a)]) (rest := []) (wr := []) (wn := (sm_wM cZ m0 m1 m2 m3 m4 m5 m6 0 (sm_fb V) (sm_fb S) (sm_fo M) (sm_fl M) (sm_fw O) (sm_fw G))) (st1 := [.int (nI (sm_tz (S a)))]) ⟨hx, hb, hml, hown, hts⟩ (c_lowest l D cZ m0 m1 m2 m3 m4 m5 m6 0 V S M O G a (by omega)) (cwV 1 hts (sm_gV (i1 := 282) (i2 := 283) (i3 := 352) (i4 := 2) (i5 := 284) rfl rfl rfl rfl rfl) rfl rfl rfl (by decide +kernel) ⟨Nat.le_of_ble_eq_true rfl, Nat.le_of_ble_eq_true rfl⟩) hK [0] rfl hP hD hS hA 0 rfl rfl [0, 1, 2, 3, 4, 5, 6] [] rfl rfl (by decide) (by decide) (by decide) rfl hl.1 rfl (Nat.le_of_ble_eq_true rfl) dX1_op_77 ⟨Nat.le_of_ble_eq_true rfl, Nat.le_of_ble_eq_true rfl⟩ rfl rfl (fun H locs hP hD hS => ?_)
  refine lv_aload_n hx hb dX1_op_80 rfl (lv_at hl 2 rfl) ?_
  refine lv_iload hx hb dX1_op_81 (lv_at hl 6 rfl) ?_
  refine sm_callV (C := RX1) (As := [.int (nI b)]) (rest := [.int (nI (sm_tz (S a)))]) (wr := []) (wn := (sm_wM cZ m0 m1 m2 m3 m4 m5 m6 0 (sm_fb V) (sm_fb S) (sm_fo M) (sm_fl M) (sm_fw O) (sm_fw G))) (st1 := [.int (nI (sm_tz (S b))), .int (nI (sm_tz (S a)))]) ⟨hx, hb, hml, hown, hts⟩ (c_lowest l D cZ m0 m1 m2 m3 m4 m5 m6 0 V S M O G b (by omega)) (cwV 1 hts (sm_gV (i1 := 282) (i2 := 283) (i3 := 352) (i4 := 2) (i5 := 284) rfl rfl rfl rfl rfl) rfl rfl rfl (by decide +kernel) ⟨Nat.le_of_ble_eq_true rfl, Nat.le_of_ble_eq_true rfl⟩) hK [0] rfl hP hD hS hA 0 rfl rfl [0, 1, 2, 3, 4, 5, 6] [] rfl rfl (by decide) (by decide) (by decide) rfl hl.1 rfl (Nat.le_of_ble_eq_true rfl) dX1_op_83 ⟨Nat.le_of_ble_eq_true rfl, Nat.le_of_ble_eq_true rfl⟩ rfl rfl (fun H locs hP hD hS => ?_)
  refine sm_joinH (pcJ := 103) (t := nI (sm_tz (S a ||| S b))) (lv := [(0, .ref m0), (1, .int 11), (2, .int (nI d)), (3, .int (nI a)), (4, .int (nI b)), (5, .int (V a)), (6, .int (V b))]) (w := (sm_wM cZ m0 m1 m2 m3 m4 m5 m6 0 (sm_fb V) (sm_fb S) (sm_fo M) (sm_fl M) (sm_fw O) (sm_fw G))) (rest := []) hl hP hD hS (fun j103 => ?_) (fun H locs ls hl hP hD hS => ?_)
  · refine lv_icmp_ge (tgt := 97) hx hb dX1_op_86 rfl (fun h86 => ?_) (fun h86 => ?_)
    · refine lv_aload_n hx hb dX1_op_97 rfl (lv_at hl 2 rfl) ?_
      refine lv_iload hx hb dX1_op_98 (lv_at hl 6 rfl) ?_
      refine sm_callV (C := RX1) (As := [.int (nI b)]) (rest := []) (wr := []) (wn := (sm_wM cZ m0 m1 m2 m3 m4 m5 m6 0 (sm_fb V) (sm_fb S) (sm_fo M) (sm_fl M) (sm_fw O) (sm_fw G))) (st1 := [.int (nI (sm_tz (S b)))]) ⟨hx, hb, hml, hown, hts⟩ (c_lowest l D cZ m0 m1 m2 m3 m4 m5 m6 0 V S M O G b (by omega)) (cwV 1 hts (sm_gV (i1 := 282) (i2 := 283) (i3 := 352) (i4 := 2) (i5 := 284) rfl rfl rfl rfl rfl) rfl rfl rfl (by decide +kernel) ⟨Nat.le_of_ble_eq_true rfl, Nat.le_of_ble_eq_true rfl⟩) hK [0] rfl hP hD hS hA 0 rfl rfl [0, 1, 2, 3, 4, 5, 6] [] rfl rfl (by decide) (by decide) (by decide) rfl hl.1 rfl (Nat.le_of_ble_eq_true rfl) dX1_op_100 ⟨Nat.le_of_ble_eq_true rfl, Nat.le_of_ble_eq_true rfl⟩ rfl rfl (fun H locs hP hD hS => ?_)
      refine sm_eqi (y := nI (sm_tz (S a ||| S b))) (sm_low2 h86) ?_
      exact j103 _ _ _ (lv_sub hl [2, 3, 4, 5, 6, 1, 0] rfl) hP hD hS
    · refine lv_aload_n hx hb dX1_op_89 rfl (lv_at hl 2 rfl) ?_
      refine lv_iload_n hx hb dX1_op_90 rfl (lv_at hl 5 rfl) ?_
      refine sm_callV (C := RX1) (As := [.int (nI a)]) (rest := []) (wr := []) (wn := (sm_wM cZ m0 m1 m2 m3 m4 m5 m6 0 (sm_fb V) (sm_fb S) (sm_fo M) (sm_fl M) (sm_fw O) (sm_fw G))) (st1 := [.int (nI (sm_tz (S a)))]) ⟨hx, hb, hml, hown, hts⟩ (c_lowest l D cZ m0 m1 m2 m3 m4 m5 m6 0 V S M O G a (by omega)) (cwV 1 hts (sm_gV (i1 := 282) (i2 := 283) (i3 := 352) (i4 := 2) (i5 := 284) rfl rfl rfl rfl rfl) rfl rfl rfl (by decide +kernel) ⟨Nat.le_of_ble_eq_true rfl, Nat.le_of_ble_eq_true rfl⟩) hK [0] rfl hP hD hS hA 0 rfl rfl [0, 1, 2, 3, 4, 5, 6] [] rfl rfl (by decide) (by decide) (by decide) rfl hl.1 rfl (Nat.le_of_ble_eq_true rfl) dX1_op_91 ⟨Nat.le_of_ble_eq_true rfl, Nat.le_of_ble_eq_true rfl⟩ rfl rfl (fun H locs hP hD hS => ?_)
      refine lv_goto (tgt := 103) hx hb dX1_op_94 rfl ?_
      refine sm_eqi (y := nI (sm_tz (S a ||| S b))) (sm_low1 h86) ?_
      exact j103 _ _ _ (lv_sub hl [2, 3, 4, 5, 6, 1, 0] rfl) hP hD hS
  refine lv_istore (lv' := [(7, .int (nI (sm_tz (S a ||| S b)))), (0, .ref m0), (1, .int 11), (2, .int (nI d)), (3, .int (nI a)), (4, .int (nI b)), (5, .int (V a)), (6, .int (V b))]) hx hb dX1_op_103 hl (by decide) rfl (fun ls hl => ?_)
  refine lv_iload_n hx hb dX1_op_105 rfl (lv_at hl 2 rfl) ?_
  refine lv_tableIn (off := 554) (tgt := 660) hx hb dX1_op_106 (by decide) (by decide) (by decide) (by decide) ?_
  refine lv_aload_n hx hb dX1_op_660 rfl (lv_at hl 1 rfl) ?_
  refine sm_joinH (pcJ := 673) (t := sm_bI (decide (V a = V b))) (lv := [(0, .ref m0), (2, .int (nI d)), (3, .int (nI a)), (4, .int (nI b))]) (w := (sm_wM cZ m0 m1 m2 m3 m4 m5 m6 0 (sm_fb V) (sm_fb S) (sm_fo M) (sm_fl M) (sm_fw O) (sm_fw G))) (rest := [.ref m0]) hl hP hD hS (fun j673 => ?_) (fun H locs ls hl hP hD hS => ?_)
  · refine lv_iload hx hb dX1_op_661 (lv_at hl 6 rfl) ?_
    refine lv_iload hx hb dX1_op_663 (lv_at hl 7 rfl) ?_
    refine lv_icmp_ne (tgt := 672) hx hb dX1_op_665 rfl (fun h665 => ?_) (fun h665 => ?_)
    · refine lv_iconst (v := 0) hx hb dX1_op_672 (by decide) ?_
      refine sm_eqi (y := sm_bI (decide (V a = V b))) (by simp [sm_bI, h665]) ?_
      exact j673 _ _ _ (lv_sub hl [1, 3, 4, 5] rfl) hP hD hS
    · refine lv_iconst (v := 1) hx hb dX1_op_668 (by decide) ?_
      refine lv_goto (tgt := 673) hx hb dX1_op_669 rfl ?_
      refine sm_eqi (y := sm_bI (decide (V a = V b))) (by simp [sm_bI, h665]) ?_
      exact j673 _ _ _ (lv_sub hl [1, 3, 4, 5] rfl) hP hD hS
  refine sm_callV (C := RX1) (As := [.int (sm_bI (decide (V a = V b)))]) (rest := []) (wr := []) (wn := (sm_wM cZ m0 m1 m2 m3 m4 m5 m6 0 (sm_fb V) (sm_fb S) (sm_fo M) (sm_fl M) (sm_fw (sm_bI (decide (V a = V b)))) (sm_fw 0))) (st1 := []) ⟨hx, hb, hml, hown, hts⟩ (c_make l D cZ m0 m1 m2 m3 m4 m5 m6 0 V S M O G (sm_bI (decide (V a = V b)))) (cwV 1 hts (sm_gV (i1 := 269) (i2 := 270) (i3 := 349) (i4 := 2) (i5 := 271) rfl rfl rfl rfl rfl) rfl rfl rfl (by decide +kernel) ⟨Nat.le_of_ble_eq_true rfl, Nat.le_of_ble_eq_true rfl⟩) hK [0] rfl hP hD hS hA 0 rfl rfl [0, 1, 2, 3, 4, 5, 6] [] rfl rfl (by decide) (by decide) (by decide) rfl hl.1 rfl (Nat.le_of_ble_eq_true rfl) dX1_op_673 ⟨Nat.le_of_ble_eq_true rfl, Nat.le_of_ble_eq_true rfl⟩ rfl rfl (fun H locs hP hD hS => ?_)
  refine lv_iconst (v := 0) hx hb dX1_op_676 (by decide) ?_
  refine lv_istore (lv' := [(8, .int 0), (0, .ref m0), (2, .int (nI d)), (3, .int (nI a)), (4, .int (nI b))]) hx hb dX1_op_677 hl (by decide) rfl (fun ls hl => ?_)
  refine lv_iconst (v := 1) hx hb dX1_op_679 (by decide) ?_
  refine lv_istore (lv' := [(9, .int 1), (8, .int 0), (0, .ref m0), (2, .int (nI d)), (3, .int (nI a)), (4, .int (nI b))]) hx hb dX1_op_680 hl (by decide) rfl (fun ls hl => ?_)
  refine lv_iconst (v := 0) hx hb dX1_op_682 (by decide) ?_
  refine lv_istore (lv' := [(10, .int 0), (9, .int 1), (8, .int 0), (0, .ref m0), (2, .int (nI d)), (3, .int (nI a)), (4, .int (nI b))]) hx hb dX1_op_683 hl (by decide) rfl (fun ls hl => ?_)
  refine sm_loopW (nL := 11) (lv := fun k => [(0, .ref m0), (2, .int (nI d)), (3, .int (nI a)), (4, .int (nI b)), (8, .int (sm_bI (sm_any (fun i => !(bt (S a) i || bt (S b) i) && (bt (V a) i != bt (V b) i)) k))), (9, .int (sm_bI (!sm_any (fun i => bt (S a) i || bt (S b) i) k))), (10, .int (nI k))]) (w := fun k => (sm_wM cZ m0 m1 m2 m3 m4 m5 m6 0 (sm_fb V) (sm_fb S) (sm_fo M) (sm_fl M) (sm_fw (sm_bI (decide (V a = V b)))) (sm_fw 0))) 32 (fun H locs ls hl hP hD hS => ?_) (fun k hk ih H locs ls hl hP hD hS => ?_) (lv_sub hl [3, 4, 5, 6, 2, 1, 0] rfl) (sm_cP (rfl) hP) (sm_cD (rfl) hD) hS
  · have hl : lv_has ls 11 [(0, .ref m0), (2, .int (nI d)), (3, .int (nI a)), (4, .int (nI b)), (8, .int (sm_bI (sm_any (fun i => !(bt (S a) i || bt (S b) i) && (bt (V a) i != bt (V b) i)) 32))), (9, .int (sm_bI (!sm_any (fun i => bt (S a) i || bt (S b) i) 32))), (10, .int (nI 32))] := hl
    have hP : va_P D vwCl (sm_wM cZ m0 m1 m2 m3 m4 m5 m6 0 (sm_fb V) (sm_fb S) (sm_fo M) (sm_fl M) (sm_fw (sm_bI (decide (V a = V b)))) (sm_fw 0)) H := hP
    have hD : va_D _ (sm_wM cZ m0 m1 m2 m3 m4 m5 m6 0 (sm_fb V) (sm_fb S) (sm_fo M) (sm_fl M) (sm_fw (sm_bI (decide (V a = V b)))) (sm_fw 0)) := hD
    refine lv_iload hx hb dX1_op_685 (lv_at hl 6 rfl) ?_
    refine lv_bipush (v := 32) hx hb dX1_op_687 (by decide) ?_
    refine lv_icmp_ge (tgt := 746) hx hb dX1_op_689 rfl (fun _ => ?_) (fun z => absurd (by decide) z)
    refine lv_aload_n hx hb dX1_op_746 rfl (lv_at hl 0 rfl) ?_
    refine va_get (D := D) (ci := 1) (v := .ref m6) (C := RX1) (T := TX1) (N := 7) hx hb hts inX1 hown hK hP 0 rfl rfl 6 (by decide) (hw 238 rfl) (fun _ h9 => h9) rfl dX1_op_747 ?_
    refine lv_iconst (v := 0) hx hb dX1_op_750 (by decide) ?_
    refine sm_joinH (pcJ := 766) (t := sm_bI (!decide (S a ||| S b = 0) && decide ((V a ^^^ V b) &&& ((S a ||| S b) ^^^ (-1)) = 0))) (lv := [(0, .ref m0), (2, .int (nI d)), (3, .int (nI a)), (4, .int (nI b))]) (w := (sm_wM cZ m0 m1 m2 m3 m4 m5 m6 0 (sm_fb V) (sm_fb S) (sm_fo M) (sm_fl M) (sm_fw (sm_bI (decide (V a = V b)))) (sm_fw 0))) (rest := [.int 0, .ref m6]) hl hP hD hS (fun j766 => ?_) (fun H locs ls hl hP hD hS => ?_)
    · refine lv_iload hx hb dX1_op_751 (lv_at hl 4 rfl) ?_
      refine sm_ifb_ne (tgt := 765) hx hb dX1_op_753 rfl (fun h753 => ?_) (fun h753 => ?_)
      · refine lv_iconst (v := 0) hx hb dX1_op_765 (by decide) ?_
        refine sm_eqi (y := sm_bI (!decide (S a ||| S b = 0) && decide ((V a ^^^ V b) &&& ((S a ||| S b) ^^^ (-1)) = 0))) (sm_same2 h753) ?_
        exact j766 _ _ _ (lv_sub hl [0, 1, 2, 3] rfl) hP hD hS
      · refine lv_iload hx hb dX1_op_756 (lv_at hl 5 rfl) ?_
        refine sm_ifb_ne (tgt := 765) hx hb dX1_op_758 rfl (fun h758 => ?_) (fun h758 => ?_)
        · refine lv_iconst (v := 0) hx hb dX1_op_765 (by decide) ?_
          refine sm_eqi (y := sm_bI (!decide (S a ||| S b = 0) && decide ((V a ^^^ V b) &&& ((S a ||| S b) ^^^ (-1)) = 0))) (sm_same3 h753 h758) ?_
          exact j766 _ _ _ (lv_sub hl [0, 1, 2, 3] rfl) hP hD hS
        · refine lv_iconst (v := 1) hx hb dX1_op_761 (by decide) ?_
          refine lv_goto (tgt := 766) hx hb dX1_op_762 rfl ?_
          refine sm_eqi (y := sm_bI (!decide (S a ||| S b = 0) && decide ((V a ^^^ V b) &&& ((S a ||| S b) ^^^ (-1)) = 0))) (sm_same1 h753 h758) ?_
          exact j766 _ _ _ (lv_sub hl [0, 1, 2, 3] rfl) hP hD hS
    refine sm_zast (f' := sm_fw (sm_bI (!decide (S a ||| S b = 0) && decide ((V a ^^^ V b) &&& ((S a ||| S b) ^^^ (-1)) = 0)))) (ws' := (sm_wM cZ m0 m1 m2 m3 m4 m5 m6 0 (sm_fb V) (sm_fb S) (sm_fo M) (sm_fl M) (sm_fw (sm_bI (decide (V a = V b)))) (sm_fw (sm_bI (!decide (S a ||| S b = 0) && decide ((V a ^^^ V b) &&& ((S a ||| S b) ^^^ (-1)) = 0)))))) hx hb hK hP hD hS 6 0 rfl rfl (vp_in_nI (n := 0) (by omega) (by decide)) dX1_op_766 (sm_g0 _) rfl (fun H locs hP hD hS => ?_)
    refine lv_goto (tgt := 778) hx hb dX1_op_767 rfl ?_
    refine lv_aload_n hx hb dX1_op_778 rfl (lv_at hl 0 rfl) ?_
    refine lv_iload_n hx hb dX1_op_779 rfl (lv_at hl 1 rfl) ?_
    refine sm_callV (C := RX1) (As := [.int (nI d)]) (rest := []) (wr := []) (wn := (sm_wM cZ m0 m1 m2 m3 m4 m5 m6 0 (sm_fb (upd V d (sm_bI (decide (V a = V b))))) (sm_fb (upd S d (sm_bI (!decide (S a ||| S b = 0) && decide ((V a ^^^ V b) &&& ((S a ||| S b) ^^^ (-1)) = 0))))) (sm_fo M) (sm_fl M) (sm_fw (sm_bI (decide (V a = V b)))) (sm_fw (sm_bI (!decide (S a ||| S b = 0) && decide ((V a ^^^ V b) &&& ((S a ||| S b) ^^^ (-1)) = 0)))))) (st1 := []) ⟨hx, hb, hml, hown, hts⟩ (c_give l D cZ m0 m1 m2 m3 m4 m5 m6 0 V S M (sm_bI (decide (V a = V b))) (sm_bI (!decide (S a ||| S b = 0) && decide ((V a ^^^ V b) &&& ((S a ||| S b) ^^^ (-1)) = 0))) d (by omega)) (cwV 1 hts (sm_gV (i1 := 272) (i2 := 273) (i3 := 350) (i4 := 2) (i5 := 274) rfl rfl rfl rfl rfl) rfl rfl rfl (by decide +kernel) ⟨Nat.le_of_ble_eq_true rfl, Nat.le_of_ble_eq_true rfl⟩) hK [0] rfl hP hD hS hA 0 rfl rfl [0, 1, 2, 3, 4, 5, 6] [] rfl rfl (by decide) (by decide) (by decide) rfl hl.1 rfl (Nat.le_of_ble_eq_true rfl) dX1_op_780 ⟨Nat.le_of_ble_eq_true rfl, Nat.le_of_ble_eq_true rfl⟩ rfl rfl (fun H locs hP hD hS => ?_)
    exact sm_vret hx hb hrt hlocks hS hP hD dX1_op_783
  · have hl : lv_has ls 11 [(0, .ref m0), (2, .int (nI d)), (3, .int (nI a)), (4, .int (nI b)), (8, .int (sm_bI (sm_any (fun i => !(bt (S a) i || bt (S b) i) && (bt (V a) i != bt (V b) i)) k))), (9, .int (sm_bI (!sm_any (fun i => bt (S a) i || bt (S b) i) k))), (10, .int (nI k))] := hl
    have hP : va_P D vwCl (sm_wM cZ m0 m1 m2 m3 m4 m5 m6 0 (sm_fb V) (sm_fb S) (sm_fo M) (sm_fl M) (sm_fw (sm_bI (decide (V a = V b)))) (sm_fw 0)) H := hP
    have hD : va_D _ (sm_wM cZ m0 m1 m2 m3 m4 m5 m6 0 (sm_fb V) (sm_fb S) (sm_fo M) (sm_fl M) (sm_fw (sm_bI (decide (V a = V b)))) (sm_fw 0)) := hD
    refine lv_iload hx hb dX1_op_685 (lv_at hl 6 rfl) ?_
    refine lv_bipush (v := 32) hx hb dX1_op_687 (by decide) ?_
    refine lv_icmp_ge (tgt := 746) hx hb dX1_op_689 rfl (fun z => absurd z (nI_ge (b := 32) hk (by decide))) (fun _ => ?_)
    refine lv_aload_n hx hb dX1_op_692 rfl (lv_at hl 0 rfl) ?_
    refine lv_iload_n hx hb dX1_op_693 rfl (lv_at hl 2 rfl) ?_
    refine lv_iload hx hb dX1_op_694 (lv_at hl 6 rfl) ?_
    refine sm_callV (C := RX1) (As := [.int (nI a), .int (nI k)]) (rest := []) (wr := []) (wn := (sm_wM cZ m0 m1 m2 m3 m4 m5 m6 0 (sm_fb V) (sm_fb S) (sm_fo M) (sm_fl M) (sm_fw (sm_bI (decide (V a = V b)))) (sm_fw 0))) (st1 := [.int (sm_bI (bt (S a) k))]) ⟨hx, hb, hml, hown, hts⟩ (c_un l D cZ m0 m1 m2 m3 m4 m5 m6 0 (sm_fb V) (sm_fo M) (sm_fl M) (sm_fw (sm_bI (decide (V a = V b)))) (sm_fw 0) S a k (by omega) (by omega)) (cwV 2 hts (sm_gV (i1 := 285) (i2 := 286) (i3 := 353) (i4 := 2) (i5 := 287) rfl rfl rfl rfl rfl) rfl rfl rfl (by decide +kernel) ⟨Nat.le_of_ble_eq_true rfl, Nat.le_of_ble_eq_true rfl⟩) hK [0] rfl hP hD hS hA 0 rfl rfl [0, 1, 2, 3, 4, 5, 6] [] rfl rfl (by decide) (by decide) (by decide) rfl hl.1 rfl (Nat.le_of_ble_eq_true rfl) dX1_op_696 ⟨Nat.le_of_ble_eq_true rfl, Nat.le_of_ble_eq_true rfl⟩ rfl rfl (fun H locs hP hD hS => ?_)
    refine sm_ifb_ne (tgt := 713) hx hb dX1_op_699 rfl (fun h699 => ?_) (fun h699 => ?_)
    · refine lv_iconst (v := 0) hx hb dX1_op_713 (by decide) ?_
      refine lv_istore (lv' := [(9, .int 0), (0, .ref m0), (2, .int (nI d)), (3, .int (nI a)), (4, .int (nI b)), (8, .int (sm_bI (sm_any (fun i => !(bt (S a) i || bt (S b) i) && (bt (V a) i != bt (V b) i)) k))), (10, .int (nI k))]) hx hb dX1_op_714 hl (by decide) rfl (fun ls hl => ?_)
      refine lv_goto (tgt := 740) hx hb dX1_op_716 rfl ?_
      obtain ⟨e8, e9⟩ := sm_an1 h699
      have hl : lv_has ls 11 [(9, .int (sm_bI (!sm_any (fun i => bt (S a) i || bt (S b) i) (k + 1)))), (0, .ref m0), (2, .int (nI d)), (3, .int (nI a)), (4, .int (nI b)), (8, .int (sm_bI (sm_any (fun i => !(bt (S a) i || bt (S b) i) && (bt (V a) i != bt (V b) i)) (k + 1)))), (10, .int (nI k))] := by rw [e8, e9]; exact hl
      refine lv_iinc (k := 6) (v := nI (k + 1)) (lv' := [(10, .int (nI (k + 1))), (9, .int (sm_bI (!sm_any (fun i => bt (S a) i || bt (S b) i) (k + 1)))), (0, .ref m0), (2, .int (nI d)), (3, .int (nI a)), (4, .int (nI b)), (8, .int (sm_bI (sm_any (fun i => !(bt (S a) i || bt (S b) i) && (bt (V a) i != bt (V b) i)) (k + 1))))]) hx hb dX1_op_740 hl rfl (sm_inc k) (by decide) rfl (fun ls hl => ?_)
      refine lv_goto (tgt := 685) hx hb dX1_op_743 rfl ?_
      exact ih _ _ _ (lv_sub hl [2, 3, 4, 5, 6, 1, 0] rfl) (sm_cP (rfl) hP) (sm_cD (rfl) hD) hS
    · refine lv_aload_n hx hb dX1_op_702 rfl (lv_at hl 0 rfl) ?_
      refine lv_iload hx hb dX1_op_703 (lv_at hl 3 rfl) ?_
      refine lv_iload hx hb dX1_op_705 (lv_at hl 6 rfl) ?_
      refine sm_callV (C := RX1) (As := [.int (nI b), .int (nI k)]) (rest := []) (wr := []) (wn := (sm_wM cZ m0 m1 m2 m3 m4 m5 m6 0 (sm_fb V) (sm_fb S) (sm_fo M) (sm_fl M) (sm_fw (sm_bI (decide (V a = V b)))) (sm_fw 0))) (st1 := [.int (sm_bI (bt (S b) k))]) ⟨hx, hb, hml, hown, hts⟩ (c_un l D cZ m0 m1 m2 m3 m4 m5 m6 0 (sm_fb V) (sm_fo M) (sm_fl M) (sm_fw (sm_bI (decide (V a = V b)))) (sm_fw 0) S b k (by omega) (by omega)) (cwV 2 hts (sm_gV (i1 := 285) (i2 := 286) (i3 := 353) (i4 := 2) (i5 := 287) rfl rfl rfl rfl rfl) rfl rfl rfl (by decide +kernel) ⟨Nat.le_of_ble_eq_true rfl, Nat.le_of_ble_eq_true rfl⟩) hK [0] rfl hP hD hS hA 0 rfl rfl [0, 1, 2, 3, 4, 5, 6] [] rfl rfl (by decide) (by decide) (by decide) rfl hl.1 rfl (Nat.le_of_ble_eq_true rfl) dX1_op_707 ⟨Nat.le_of_ble_eq_true rfl, Nat.le_of_ble_eq_true rfl⟩ rfl rfl (fun H locs hP hD hS => ?_)
      refine sm_ifb_eq (tgt := 719) hx hb dX1_op_710 rfl (fun h710 => ?_) (fun h710 => ?_)
      · refine lv_aload_n hx hb dX1_op_719 rfl (lv_at hl 0 rfl) ?_
        refine lv_iload_n hx hb dX1_op_720 rfl (lv_at hl 2 rfl) ?_
        refine lv_iload hx hb dX1_op_721 (lv_at hl 6 rfl) ?_
        refine sm_callV (C := RX1) (As := [.int (nI a), .int (nI k)]) (rest := []) (wr := []) (wn := (sm_wM cZ m0 m1 m2 m3 m4 m5 m6 0 (sm_fb V) (sm_fb S) (sm_fo M) (sm_fl M) (sm_fw (sm_bI (decide (V a = V b)))) (sm_fw 0))) (st1 := [.int (sm_bI (bt (V a) k))]) ⟨hx, hb, hml, hown, hts⟩ (c_is l D cZ m0 m1 m2 m3 m4 m5 m6 0 (sm_fb S) (sm_fo M) (sm_fl M) (sm_fw (sm_bI (decide (V a = V b)))) (sm_fw 0) V a k (by omega) (by omega)) (cwV 2 hts (sm_gV (i1 := 291) (i2 := 292) (i3 := 355) (i4 := 2) (i5 := 293) rfl rfl rfl rfl rfl) rfl rfl rfl (by decide +kernel) ⟨Nat.le_of_ble_eq_true rfl, Nat.le_of_ble_eq_true rfl⟩) hK [0] rfl hP hD hS hA 0 rfl rfl [0, 1, 2, 3, 4, 5, 6] [] rfl rfl (by decide) (by decide) (by decide) rfl hl.1 rfl (Nat.le_of_ble_eq_true rfl) dX1_op_723 ⟨Nat.le_of_ble_eq_true rfl, Nat.le_of_ble_eq_true rfl⟩ rfl rfl (fun H locs hP hD hS => ?_)
        refine lv_aload_n hx hb dX1_op_726 rfl (lv_at hl 0 rfl) ?_
        refine lv_iload hx hb dX1_op_727 (lv_at hl 3 rfl) ?_
        refine lv_iload hx hb dX1_op_729 (lv_at hl 6 rfl) ?_
        refine sm_callV (C := RX1) (As := [.int (nI b), .int (nI k)]) (rest := [.int (sm_bI (bt (V a) k))]) (wr := []) (wn := (sm_wM cZ m0 m1 m2 m3 m4 m5 m6 0 (sm_fb V) (sm_fb S) (sm_fo M) (sm_fl M) (sm_fw (sm_bI (decide (V a = V b)))) (sm_fw 0))) (st1 := [.int (sm_bI (bt (V b) k)), .int (sm_bI (bt (V a) k))]) ⟨hx, hb, hml, hown, hts⟩ (c_is l D cZ m0 m1 m2 m3 m4 m5 m6 0 (sm_fb S) (sm_fo M) (sm_fl M) (sm_fw (sm_bI (decide (V a = V b)))) (sm_fw 0) V b k (by omega) (by omega)) (cwV 2 hts (sm_gV (i1 := 291) (i2 := 292) (i3 := 355) (i4 := 2) (i5 := 293) rfl rfl rfl rfl rfl) rfl rfl rfl (by decide +kernel) ⟨Nat.le_of_ble_eq_true rfl, Nat.le_of_ble_eq_true rfl⟩) hK [0] rfl hP hD hS hA 0 rfl rfl [0, 1, 2, 3, 4, 5, 6] [] rfl rfl (by decide) (by decide) (by decide) rfl hl.1 rfl (Nat.le_of_ble_eq_true rfl) dX1_op_731 ⟨Nat.le_of_ble_eq_true rfl, Nat.le_of_ble_eq_true rfl⟩ rfl rfl (fun H locs hP hD hS => ?_)
        refine lv_icmp_eq (tgt := 740) hx hb dX1_op_734 rfl (fun h734 => ?_) (fun h734 => ?_)
        · obtain ⟨e8, e9⟩ := sm_an4 h699 h710 h734
          have hl : lv_has ls 11 [(0, .ref m0), (2, .int (nI d)), (3, .int (nI a)), (4, .int (nI b)), (8, .int (sm_bI (sm_any (fun i => !(bt (S a) i || bt (S b) i) && (bt (V a) i != bt (V b) i)) (k + 1)))), (9, .int (sm_bI (!sm_any (fun i => bt (S a) i || bt (S b) i) (k + 1)))), (10, .int (nI k))] := by rw [e8, e9]; exact hl
          refine lv_iinc (k := 6) (v := nI (k + 1)) (lv' := [(10, .int (nI (k + 1))), (0, .ref m0), (2, .int (nI d)), (3, .int (nI a)), (4, .int (nI b)), (8, .int (sm_bI (sm_any (fun i => !(bt (S a) i || bt (S b) i) && (bt (V a) i != bt (V b) i)) (k + 1)))), (9, .int (sm_bI (!sm_any (fun i => bt (S a) i || bt (S b) i) (k + 1))))]) hx hb dX1_op_740 hl rfl (sm_inc k) (by decide) rfl (fun ls hl => ?_)
          refine lv_goto (tgt := 685) hx hb dX1_op_743 rfl ?_
          exact ih _ _ _ (lv_sub hl [1, 2, 3, 4, 5, 6, 0] rfl) (sm_cP (rfl) hP) (sm_cD (rfl) hD) hS
        · refine lv_iconst (v := 1) hx hb dX1_op_737 (by decide) ?_
          refine lv_istore (lv' := [(8, .int 1), (0, .ref m0), (2, .int (nI d)), (3, .int (nI a)), (4, .int (nI b)), (9, .int (sm_bI (!sm_any (fun i => bt (S a) i || bt (S b) i) k))), (10, .int (nI k))]) hx hb dX1_op_738 hl (by decide) rfl (fun ls hl => ?_)
          obtain ⟨e8, e9⟩ := sm_an3 h699 h710 h734
          have hl : lv_has ls 11 [(8, .int (sm_bI (sm_any (fun i => !(bt (S a) i || bt (S b) i) && (bt (V a) i != bt (V b) i)) (k + 1)))), (0, .ref m0), (2, .int (nI d)), (3, .int (nI a)), (4, .int (nI b)), (9, .int (sm_bI (!sm_any (fun i => bt (S a) i || bt (S b) i) (k + 1)))), (10, .int (nI k))] := by rw [e8, e9]; exact hl
          refine lv_iinc (k := 6) (v := nI (k + 1)) (lv' := [(10, .int (nI (k + 1))), (8, .int (sm_bI (sm_any (fun i => !(bt (S a) i || bt (S b) i) && (bt (V a) i != bt (V b) i)) (k + 1)))), (0, .ref m0), (2, .int (nI d)), (3, .int (nI a)), (4, .int (nI b)), (9, .int (sm_bI (!sm_any (fun i => bt (S a) i || bt (S b) i) (k + 1))))]) hx hb dX1_op_740 hl rfl (sm_inc k) (by decide) rfl (fun ls hl => ?_)
          refine lv_goto (tgt := 685) hx hb dX1_op_743 rfl ?_
          exact ih _ _ _ (lv_sub hl [2, 3, 4, 5, 1, 6, 0] rfl) (sm_cP (rfl) hP) (sm_cD (rfl) hD) hS
      · refine lv_iconst (v := 0) hx hb dX1_op_713 (by decide) ?_
        refine lv_istore (lv' := [(9, .int 0), (0, .ref m0), (2, .int (nI d)), (3, .int (nI a)), (4, .int (nI b)), (8, .int (sm_bI (sm_any (fun i => !(bt (S a) i || bt (S b) i) && (bt (V a) i != bt (V b) i)) k))), (10, .int (nI k))]) hx hb dX1_op_714 hl (by decide) rfl (fun ls hl => ?_)
        refine lv_goto (tgt := 740) hx hb dX1_op_716 rfl ?_
        obtain ⟨e8, e9⟩ := sm_an2 h710
        have hl : lv_has ls 11 [(9, .int (sm_bI (!sm_any (fun i => bt (S a) i || bt (S b) i) (k + 1)))), (0, .ref m0), (2, .int (nI d)), (3, .int (nI a)), (4, .int (nI b)), (8, .int (sm_bI (sm_any (fun i => !(bt (S a) i || bt (S b) i) && (bt (V a) i != bt (V b) i)) (k + 1)))), (10, .int (nI k))] := by rw [e8, e9]; exact hl
        refine lv_iinc (k := 6) (v := nI (k + 1)) (lv' := [(10, .int (nI (k + 1))), (9, .int (sm_bI (!sm_any (fun i => bt (S a) i || bt (S b) i) (k + 1)))), (0, .ref m0), (2, .int (nI d)), (3, .int (nI a)), (4, .int (nI b)), (8, .int (sm_bI (sm_any (fun i => !(bt (S a) i || bt (S b) i) && (bt (V a) i != bt (V b) i)) (k + 1))))]) hx hb dX1_op_740 hl rfl (sm_inc k) (by decide) rfl (fun ls hl => ?_)
        refine lv_goto (tgt := 685) hx hb dX1_op_743 rfl ?_
        exact ih _ _ _ (lv_sub hl [2, 3, 4, 5, 6, 1, 0] rfl) (sm_cP (rfl) hP) (sm_cD (rfl) hD) hS
set_option maxHeartbeats 4000000 in
set_option maxRecDepth 100000 in
theorem c_mop_12 (l : Launch) (D : va_G) (cZ : ClassId) (m0 m1 m2 m3 m4 m5 m6 : Nat) (err : Int32) (V S M : Nat → Int32) (O G : Int32) (d a b : Nat) (hd : d < 16) (ha : a < 16) (hb' : b < 16) : sm_C l yX1_op wsX1_op ({ frames := 5, cells := 0, slots := 0, locals := 140 } : Room) D vwCl [(cZ, .boolean)] [.ref m0, .int 12, .int (nI d), .int (nI a), .int (nI b)] (sm_wM cZ m0 m1 m2 m3 m4 m5 m6 err (sm_fb V) (sm_fb S) (sm_fo M) (sm_fl M) (sm_fw O) (sm_fw G)) none (sm_wM cZ m0 m1 m2 m3 m4 m5 m6 0 (sm_fb (upd V d (if bt (V b) 0 then V a else V d))) (sm_fb (upd S d (if bt (S b) 0 then S a ||| S d ||| (V a ^^^ V d) else if bt (V b) 0 then S a else S d))) (sm_fo M) (sm_fl M) (sm_fw (if bt (V b) 0 then V a else V d)) (sm_fw (if bt (S b) 0 then S a ||| S d ||| (V a ^^^ V d) else if bt (V b) 0 then S a else S d))) := by
  refine sm_start (cc := cX1_op) (maxL := 11) (ret := none) (lv := [(0, .ref m0), (1, .int 12), (2, .int (nI d)), (3, .int (nI a)), (4, .int (nI b))]) (by decide) rfl (Nat.le_of_ble_eq_true rfl) rfl ?_
  intro p e s m below meth c hx hb hrt hts hown hlocks hml hin hK hP hD hS hA ls hl
  have hw := sm_hw hts
  have q5 := sm_tz_le (S a ||| S b)
  have q1 := sm_tz_le (S a)
  have q2 := sm_tz_le (S b)
  have q3 := sm_tz_le (V b ||| S b)
  have q4 := sm_tz_le (V a ||| S a)
  refine lv_aload_n hx hb dX1_op_0 rfl (lv_at hl 0 rfl) ?_
  refine lv_iload_n hx hb dX1_op_1 rfl (lv_at hl 1 rfl) ?_
  refine lv_if_lt (tgt := 11) hx hb dX1_op_2 rfl (fun z => absurd z (by decide)) (fun _ => ?_)
  refine lv_iload_n hx hb dX1_op_5 rfl (lv_at hl 1 rfl) ?_
  refine lv_bipush (v := 12) hx hb dX1_op_6 (by decide) ?_
  refine lv_icmp_le (tgt := 15) hx hb dX1_op_8 rfl (fun _ => ?_) (fun z => absurd (by decide) z)
  refine lv_iconst (v := 0) hx hb dX1_op_15 (by decide) ?_
  refine lv_iconst (v := 1) hx hb dX1_op_16 (by decide) ?_
  refine sm_callV (C := RX1) (As := [.int (sm_bI false), .int 1]) (rest := []) (wr := []) (wn := (sm_wM cZ m0 m1 m2 m3 m4 m5 m6 0 (sm_fb V) (sm_fb S) (sm_fo M) (sm_fl M) (sm_fw O) (sm_fw G))) (st1 := [.int (sm_bI false)]) ⟨hx, hb, hml, hown, hts⟩ (c_fails_f l D cZ m0 m1 m2 m3 m4 m5 m6 err V S M O G 1) (cwV 2 hts (sm_gV (i1 := 266) (i2 := 267) (i3 := 348) (i4 := 2) (i5 := 268) rfl rfl rfl rfl rfl) rfl rfl rfl (by decide +kernel) ⟨Nat.le_of_ble_eq_true rfl, Nat.le_of_ble_eq_true rfl⟩) hK [0] rfl hP hD hS hA 0 rfl rfl [0, 1, 2, 3, 4, 5, 6] [] rfl rfl (by decide) (by decide) (by decide) rfl hl.1 rfl (Nat.le_of_ble_eq_true rfl) dX1_op_17 ⟨Nat.le_of_ble_eq_true rfl, Nat.le_of_ble_eq_true rfl⟩ rfl rfl (fun H locs hP hD hS => ?_)
  refine lv_if_eq (tgt := 24) hx hb dX1_op_20 rfl (fun _ => ?_) (fun z => absurd (by decide) z)
  refine lv_aload_n hx hb dX1_op_24 rfl (lv_at hl 0 rfl) ?_
  refine lv_iload_n hx hb dX1_op_25 rfl (lv_at hl 2 rfl) ?_
  refine sm_callS (As := [.int (nI d)]) (rest := [.ref m0]) (wr := (sm_wM cZ m0 m1 m2 m3 m4 m5 m6 0 (sm_fb V) (sm_fb S) (sm_fo M) (sm_fl M) (sm_fw O) (sm_fw G))) (wn := (sm_wM cZ m0 m1 m2 m3 m4 m5 m6 0 (sm_fb V) (sm_fb S) (sm_fo M) (sm_fl M) (sm_fw O) (sm_fw G))) (st1 := [.int (sm_bI false), .ref m0]) ⟨hx, hb, hml, hown, hts⟩ (c_none_f l D d (by omega)) (va_cwS 1 hts (sm_gS (i1 := 263) (i2 := 264) (i4 := 2) (i5 := 265) rfl rfl rfl rfl) rfl rfl rfl (by decide +kernel) ⟨Nat.le_of_ble_eq_true rfl, Nat.le_of_ble_eq_true rfl⟩) hK [] rfl hP hD hS hA [] [0, 1, 2, 3, 4, 5, 6] rfl rfl (by decide) (by decide) (by decide) rfl hl.1 rfl (Nat.le_of_ble_eq_true rfl) dX1_op_26 ⟨Nat.le_of_ble_eq_true rfl, Nat.le_of_ble_eq_true rfl⟩ rfl rfl (fun H locs hP hD hS => ?_)
  refine lv_if_ne (tgt := 47) hx hb dX1_op_29 rfl (fun z => absurd (by decide) z) (fun _ => ?_)
  refine lv_iload_n hx hb dX1_op_32 rfl (lv_at hl 3 rfl) ?_
  refine sm_callS (As := [.int (nI a)]) (rest := [.ref m0]) (wr := (sm_wM cZ m0 m1 m2 m3 m4 m5 m6 0 (sm_fb V) (sm_fb S) (sm_fo M) (sm_fl M) (sm_fw O) (sm_fw G))) (wn := (sm_wM cZ m0 m1 m2 m3 m4 m5 m6 0 (sm_fb V) (sm_fb S) (sm_fo M) (sm_fl M) (sm_fw O) (sm_fw G))) (st1 := [.int (sm_bI false), .ref m0]) ⟨hx, hb, hml, hown, hts⟩ (c_none_f l D a (by omega)) (va_cwS 1 hts (sm_gS (i1 := 263) (i2 := 264) (i4 := 2) (i5 := 265) rfl rfl rfl rfl) rfl rfl rfl (by decide +kernel) ⟨Nat.le_of_ble_eq_true rfl, Nat.le_of_ble_eq_true rfl⟩) hK [] rfl hP hD hS hA [] [0, 1, 2, 3, 4, 5, 6] rfl rfl (by decide) (by decide) (by decide) rfl hl.1 rfl (Nat.le_of_ble_eq_true rfl) dX1_op_33 ⟨Nat.le_of_ble_eq_true rfl, Nat.le_of_ble_eq_true rfl⟩ rfl rfl (fun H locs hP hD hS => ?_)
  refine lv_if_ne (tgt := 47) hx hb dX1_op_36 rfl (fun z => absurd (by decide) z) (fun _ => ?_)
  refine lv_iload hx hb dX1_op_39 (lv_at hl 4 rfl) ?_
  refine sm_callS (As := [.int (nI b)]) (rest := [.ref m0]) (wr := (sm_wM cZ m0 m1 m2 m3 m4 m5 m6 0 (sm_fb V) (sm_fb S) (sm_fo M) (sm_fl M) (sm_fw O) (sm_fw G))) (wn := (sm_wM cZ m0 m1 m2 m3 m4 m5 m6 0 (sm_fb V) (sm_fb S) (sm_fo M) (sm_fl M) (sm_fw O) (sm_fw G))) (st1 := [.int (sm_bI false), .ref m0]) ⟨hx, hb, hml, hown, hts⟩ (c_none_f l D b (by omega)) (va_cwS 1 hts (sm_gS (i1 := 263) (i2 := 264) (i4 := 2) (i5 := 265) rfl rfl rfl rfl) rfl rfl rfl (by decide +kernel) ⟨Nat.le_of_ble_eq_true rfl, Nat.le_of_ble_eq_true rfl⟩) hK [] rfl hP hD hS hA [] [0, 1, 2, 3, 4, 5, 6] rfl rfl (by decide) (by decide) (by decide) rfl hl.1 rfl (Nat.le_of_ble_eq_true rfl) dX1_op_41 ⟨Nat.le_of_ble_eq_true rfl, Nat.le_of_ble_eq_true rfl⟩ rfl rfl (fun H locs hP hD hS => ?_)
  refine lv_if_eq (tgt := 51) hx hb dX1_op_44 rfl (fun _ => ?_) (fun z => absurd (by decide) z)
  refine lv_iconst (v := 0) hx hb dX1_op_51 (by decide) ?_
  refine lv_iconst (v := 2) hx hb dX1_op_52 (by decide) ?_
  refine sm_callV (C := RX1) (As := [.int (sm_bI false), .int 2]) (rest := []) (wr := []) (wn := (sm_wM cZ m0 m1 m2 m3 m4 m5 m6 0 (sm_fb V) (sm_fb S) (sm_fo M) (sm_fl M) (sm_fw O) (sm_fw G))) (st1 := [.int (sm_bI false)]) ⟨hx, hb, hml, hown, hts⟩ (c_fails_f l D cZ m0 m1 m2 m3 m4 m5 m6 0 V S M O G 2) (cwV 2 hts (sm_gV (i1 := 266) (i2 := 267) (i3 := 348) (i4 := 2) (i5 := 268) rfl rfl rfl rfl rfl) rfl rfl rfl (by decide +kernel) ⟨Nat.le_of_ble_eq_true rfl, Nat.le_of_ble_eq_true rfl⟩) hK [0] rfl hP hD hS hA 0 rfl rfl [0, 1, 2, 3, 4, 5, 6] [] rfl rfl (by decide) (by decide) (by decide) rfl hl.1 rfl (Nat.le_of_ble_eq_true rfl) dX1_op_53 ⟨Nat.le_of_ble_eq_true rfl, Nat.le_of_ble_eq_true rfl⟩ rfl rfl (fun H locs hP hD hS => ?_)
  refine lv_if_eq (tgt := 60) hx hb dX1_op_56 rfl (fun _ => ?_) (fun z => absurd (by decide) z)
  refine lv_aload_n hx hb dX1_op_60 rfl (lv_at hl 0 rfl) ?_
  refine lv_iload_n hx hb dX1_op_61 rfl (lv_at hl 3 rfl) ?_
  refine sm_callV (C := RX1) (As := [.int (nI a)]) (rest := []) (wr := []) (wn := (sm_wM cZ m0 m1 m2 m3 m4 m5 m6 0 (sm_fb V) (sm_fb S) (sm_fo M) (sm_fl M) (sm_fw O) (sm_fw G))) (st1 := [.int (V a)]) ⟨hx, hb, hml, hown, hts⟩ (c_number l D cZ m0 m1 m2 m3 m4 m5 m6 0 V S M O G a (by omega)) (cwV 1 hts (sm_gV (i1 := 279) (i2 := 280) (i3 := 351) (i4 := 2) (i5 := 281) rfl rfl rfl rfl rfl) rfl rfl rfl (by decide +kernel) ⟨Nat.le_of_ble_eq_true rfl, Nat.le_of_ble_eq_true rfl⟩) hK [0] rfl hP hD hS hA 0 rfl rfl [0, 1, 2, 3, 4, 5, 6] [] rfl rfl (by decide) (by decide) (by decide) rfl hl.1 rfl (Nat.le_of_ble_eq_true rfl) dX1_op_62 ⟨Nat.le_of_ble_eq_true rfl, Nat.le_of_ble_eq_true rfl⟩ rfl rfl (fun H locs hP hD hS => ?_)
  refine lv_istore (lv' := [(5, .int (V a)), (0, .ref m0), (1, .int 12), (2, .int (nI d)), (3, .int (nI a)), (4, .int (nI b))]) hx hb dX1_op_65 hl (by decide) rfl (fun ls hl => ?_)
  refine lv_aload_n hx hb dX1_op_67 rfl (lv_at hl 1 rfl) ?_
  refine lv_iload hx hb dX1_op_68 (lv_at hl 5 rfl) ?_
  refine sm_callV (C := RX1) (As := [.int (nI b)]) (rest := []) (wr := []) (wn := (sm_wM cZ m0 m1 m2 m3 m4 m5 m6 0 (sm_fb V) (sm_fb S) (sm_fo M) (sm_fl M) (sm_fw O) (sm_fw G))) (st1 := [.int (V b)]) ⟨hx, hb, hml, hown, hts⟩ (c_number l D cZ m0 m1 m2 m3 m4 m5 m6 0 V S M O G b (by omega)) (cwV 1 hts (sm_gV (i1 := 279) (i2 := 280) (i3 := 351) (i4 := 2) (i5 := 281) rfl rfl rfl rfl rfl) rfl rfl rfl (by decide +kernel) ⟨Nat.le_of_ble_eq_true rfl, Nat.le_of_ble_eq_true rfl⟩) hK [0] rfl hP hD hS hA 0 rfl rfl [0, 1, 2, 3, 4, 5, 6] [] rfl rfl (by decide) (by decide) (by decide) rfl hl.1 rfl (Nat.le_of_ble_eq_true rfl) dX1_op_70 ⟨Nat.le_of_ble_eq_true rfl, Nat.le_of_ble_eq_true rfl⟩ rfl rfl (fun H locs hP hD hS => ?_)
  refine lv_istore (lv' := [(6, .int (V b)), (5, .int (V a)), (0, .ref m0), (1, .int 12), (2, .int (nI d)), (3, .int (nI a)), (4, .int (nI b))]) hx hb dX1_op_73 hl (by decide) rfl (fun ls hl => ?_)
  refine lv_aload_n hx hb dX1_op_75 rfl (lv_at hl 2 rfl) ?_
  refine lv_iload_n hx hb dX1_op_76 rfl (lv_at hl 5 rfl) ?_
  refine sm_callV (C := RX1) (As := [.int (nI a)]) (rest := []) (wr := []) (wn := (sm_wM cZ m0 m1 m2 m3 m4 m5 m6 0 (sm_fb V) (sm_fb S) (sm_fo M) (sm_fl M) (sm_fw O) (sm_fw G))) (st1 := [.int (nI (sm_tz (S a)))]) ⟨hx, hb, hml, hown, hts⟩ (c_lowest l D cZ m0 m1 m2 m3 m4 m5 m6 0 V S M O G a (by omega)) (cwV 1 hts (sm_gV (i1 := 282) (i2 := 283) (i3 := 352) (i4 := 2) (i5 := 284) rfl rfl rfl rfl rfl) rfl rfl rfl (by decide +kernel) ⟨Nat.le_of_ble_eq_true rfl, Nat.le_of_ble_eq_true rfl⟩) hK [0] rfl hP hD hS hA 0 rfl rfl [0, 1, 2, 3, 4, 5, 6] [] rfl rfl (by decide) (by decide) (by decide) rfl hl.1 rfl (Nat.le_of_ble_eq_true rfl) dX1_op_77 ⟨Nat.le_of_ble_eq_true rfl, Nat.le_of_ble_eq_true rfl⟩ rfl rfl (fun H locs hP hD hS => ?_)
  refine lv_aload_n hx hb dX1_op_80 rfl (lv_at hl 2 rfl) ?_
  refine lv_iload hx hb dX1_op_81 (lv_at hl 6 rfl) ?_
  refine sm_callV (C := RX1) (As := [.int (nI b)]) (rest := [.int (nI (sm_tz (S a)))]) (wr := []) (wn := (sm_wM cZ m0 m1 m2 m3 m4 m5 m6 0 (sm_fb V) (sm_fb S) (sm_fo M) (sm_fl M) (sm_fw O) (sm_fw G))) (st1 := [.int (nI (sm_tz (S b))), .int (nI (sm_tz (S a)))]) ⟨hx, hb, hml, hown, hts⟩ (c_lowest l D cZ m0 m1 m2 m3 m4 m5 m6 0 V S M O G b (by omega)) (cwV 1 hts (sm_gV (i1 := 282) (i2 := 283) (i3 := 352) (i4 := 2) (i5 := 284) rfl rfl rfl rfl rfl) rfl rfl rfl (by decide +kernel) ⟨Nat.le_of_ble_eq_true rfl, Nat.le_of_ble_eq_true rfl⟩) hK [0] rfl hP hD hS hA 0 rfl rfl [0, 1, 2, 3, 4, 5, 6] [] rfl rfl (by decide) (by decide) (by decide) rfl hl.1 rfl (Nat.le_of_ble_eq_true rfl) dX1_op_83 ⟨Nat.le_of_ble_eq_true rfl, Nat.le_of_ble_eq_true rfl⟩ rfl rfl (fun H locs hP hD hS => ?_)
  refine sm_joinH (pcJ := 103) (t := nI (sm_tz (S a ||| S b))) (lv := [(0, .ref m0), (1, .int 12), (2, .int (nI d)), (3, .int (nI a)), (4, .int (nI b)), (5, .int (V a)), (6, .int (V b))]) (w := (sm_wM cZ m0 m1 m2 m3 m4 m5 m6 0 (sm_fb V) (sm_fb S) (sm_fo M) (sm_fl M) (sm_fw O) (sm_fw G))) (rest := []) hl hP hD hS (fun j103 => ?_) (fun H locs ls hl hP hD hS => ?_)
  · refine lv_icmp_ge (tgt := 97) hx hb dX1_op_86 rfl (fun h86 => ?_) (fun h86 => ?_)
    · refine lv_aload_n hx hb dX1_op_97 rfl (lv_at hl 2 rfl) ?_
      refine lv_iload hx hb dX1_op_98 (lv_at hl 6 rfl) ?_
      refine sm_callV (C := RX1) (As := [.int (nI b)]) (rest := []) (wr := []) (wn := (sm_wM cZ m0 m1 m2 m3 m4 m5 m6 0 (sm_fb V) (sm_fb S) (sm_fo M) (sm_fl M) (sm_fw O) (sm_fw G))) (st1 := [.int (nI (sm_tz (S b)))]) ⟨hx, hb, hml, hown, hts⟩ (c_lowest l D cZ m0 m1 m2 m3 m4 m5 m6 0 V S M O G b (by omega)) (cwV 1 hts (sm_gV (i1 := 282) (i2 := 283) (i3 := 352) (i4 := 2) (i5 := 284) rfl rfl rfl rfl rfl) rfl rfl rfl (by decide +kernel) ⟨Nat.le_of_ble_eq_true rfl, Nat.le_of_ble_eq_true rfl⟩) hK [0] rfl hP hD hS hA 0 rfl rfl [0, 1, 2, 3, 4, 5, 6] [] rfl rfl (by decide) (by decide) (by decide) rfl hl.1 rfl (Nat.le_of_ble_eq_true rfl) dX1_op_100 ⟨Nat.le_of_ble_eq_true rfl, Nat.le_of_ble_eq_true rfl⟩ rfl rfl (fun H locs hP hD hS => ?_)
      refine sm_eqi (y := nI (sm_tz (S a ||| S b))) (sm_low2 h86) ?_
      exact j103 _ _ _ (lv_sub hl [2, 3, 4, 5, 6, 1, 0] rfl) hP hD hS
    · refine lv_aload_n hx hb dX1_op_89 rfl (lv_at hl 2 rfl) ?_
      refine lv_iload_n hx hb dX1_op_90 rfl (lv_at hl 5 rfl) ?_
      refine sm_callV (C := RX1) (As := [.int (nI a)]) (rest := []) (wr := []) (wn := (sm_wM cZ m0 m1 m2 m3 m4 m5 m6 0 (sm_fb V) (sm_fb S) (sm_fo M) (sm_fl M) (sm_fw O) (sm_fw G))) (st1 := [.int (nI (sm_tz (S a)))]) ⟨hx, hb, hml, hown, hts⟩ (c_lowest l D cZ m0 m1 m2 m3 m4 m5 m6 0 V S M O G a (by omega)) (cwV 1 hts (sm_gV (i1 := 282) (i2 := 283) (i3 := 352) (i4 := 2) (i5 := 284) rfl rfl rfl rfl rfl) rfl rfl rfl (by decide +kernel) ⟨Nat.le_of_ble_eq_true rfl, Nat.le_of_ble_eq_true rfl⟩) hK [0] rfl hP hD hS hA 0 rfl rfl [0, 1, 2, 3, 4, 5, 6] [] rfl rfl (by decide) (by decide) (by decide) rfl hl.1 rfl (Nat.le_of_ble_eq_true rfl) dX1_op_91 ⟨Nat.le_of_ble_eq_true rfl, Nat.le_of_ble_eq_true rfl⟩ rfl rfl (fun H locs hP hD hS => ?_)
      refine lv_goto (tgt := 103) hx hb dX1_op_94 rfl ?_
      refine sm_eqi (y := nI (sm_tz (S a ||| S b))) (sm_low1 h86) ?_
      exact j103 _ _ _ (lv_sub hl [2, 3, 4, 5, 6, 1, 0] rfl) hP hD hS
  refine lv_istore (lv' := [(7, .int (nI (sm_tz (S a ||| S b)))), (0, .ref m0), (1, .int 12), (2, .int (nI d)), (3, .int (nI a)), (4, .int (nI b)), (5, .int (V a)), (6, .int (V b))]) hx hb dX1_op_103 hl (by decide) rfl (fun ls hl => ?_)
  refine lv_iload_n hx hb dX1_op_105 rfl (lv_at hl 2 rfl) ?_
  refine lv_tableOut (tgt := 770) hx hb dX1_op_106 (Or.inr (by decide)) (by decide) ?_
  refine lv_aload_n hx hb dX1_op_770 rfl (lv_at hl 1 rfl) ?_
  refine lv_iload_n hx hb dX1_op_771 rfl (lv_at hl 3 rfl) ?_
  refine lv_iload_n hx hb dX1_op_772 rfl (lv_at hl 4 rfl) ?_
  refine lv_iload hx hb dX1_op_773 (lv_at hl 5 rfl) ?_
  refine sm_callV (C := RX1) (As := [.int (nI d), .int (nI a), .int (nI b)]) (rest := []) (wr := []) (wn := (sm_wM cZ m0 m1 m2 m3 m4 m5 m6 0 (sm_fb V) (sm_fb S) (sm_fo M) (sm_fl M) (sm_fw (if bt (V b) 0 then V a else V d)) (sm_fw (if bt (S b) 0 then S a ||| S d ||| (V a ^^^ V d) else if bt (V b) 0 then S a else S d)))) (st1 := []) ⟨hx, hb, hml, hown, hts⟩ (c_choose l D cZ m0 m1 m2 m3 m4 m5 m6 0 V S M O G d a b (by omega) (by omega) (by omega)) (cwV 3 hts (sm_gV (i1 := 304) (i2 := 305) (i3 := 359) (i4 := 2) (i5 := 306) rfl rfl rfl rfl rfl) rfl rfl rfl (by decide +kernel) ⟨Nat.le_of_ble_eq_true rfl, Nat.le_of_ble_eq_true rfl⟩) hK [0] rfl hP hD hS hA 0 rfl rfl [0, 1, 2, 3, 4, 5, 6] [] rfl rfl (by decide) (by decide) (by decide) rfl hl.1 rfl (Nat.le_of_ble_eq_true rfl) dX1_op_775 ⟨Nat.le_of_ble_eq_true rfl, Nat.le_of_ble_eq_true rfl⟩ rfl rfl (fun H locs hP hD hS => ?_)
  refine lv_aload_n hx hb dX1_op_778 rfl (lv_at hl 1 rfl) ?_
  refine lv_iload_n hx hb dX1_op_779 rfl (lv_at hl 3 rfl) ?_
  refine sm_callV (C := RX1) (As := [.int (nI d)]) (rest := []) (wr := []) (wn := (sm_wM cZ m0 m1 m2 m3 m4 m5 m6 0 (sm_fb (upd V d (if bt (V b) 0 then V a else V d))) (sm_fb (upd S d (if bt (S b) 0 then S a ||| S d ||| (V a ^^^ V d) else if bt (V b) 0 then S a else S d))) (sm_fo M) (sm_fl M) (sm_fw (if bt (V b) 0 then V a else V d)) (sm_fw (if bt (S b) 0 then S a ||| S d ||| (V a ^^^ V d) else if bt (V b) 0 then S a else S d)))) (st1 := []) ⟨hx, hb, hml, hown, hts⟩ (c_give l D cZ m0 m1 m2 m3 m4 m5 m6 0 V S M (if bt (V b) 0 then V a else V d) (if bt (S b) 0 then S a ||| S d ||| (V a ^^^ V d) else if bt (V b) 0 then S a else S d) d (by omega)) (cwV 1 hts (sm_gV (i1 := 272) (i2 := 273) (i3 := 350) (i4 := 2) (i5 := 274) rfl rfl rfl rfl rfl) rfl rfl rfl (by decide +kernel) ⟨Nat.le_of_ble_eq_true rfl, Nat.le_of_ble_eq_true rfl⟩) hK [0] rfl hP hD hS hA 0 rfl rfl [0, 1, 2, 3, 4, 5, 6] [] rfl rfl (by decide) (by decide) (by decide) rfl hl.1 rfl (Nat.le_of_ble_eq_true rfl) dX1_op_780 ⟨Nat.le_of_ble_eq_true rfl, Nat.le_of_ble_eq_true rfl⟩ rfl rfl (fun H locs hP hD hS => ?_)
  exact sm_vret hx hb hrt hlocks hS hP hD dX1_op_783
