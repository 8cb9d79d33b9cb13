set_option maxHeartbeats 4000000 in
set_option maxRecDepth 100000 in
theorem c_placeLostBy (l : Launch) (D : va_G) (x y n : Int32) : sm_C l yX0_placeLostBy wsX0_placeLostBy ({ frames := 1, cells := 0, slots := 0, locals := 21 } : Room) D vwCl [] [.int x, .int y, .int n] [] (some (.int (nI (sm_tz x + sm_tz (y ||| n))))) [] := by
  refine sm_start (cc := cX0_placeLostBy) (maxL := 3) (ret := some .int) (lv := [(0, .int x), (1, .int y), (2, .int n)]) (by decide) rfl (Nat.le_of_ble_eq_true rfl) rfl ?_
  intro p e s m below meth c hx hb hrt hts hown hlocks hml hin hK hP hD hS hA ls hl
  have hw := sm_hw hts
  refine lv_iload_n hx hb dX0_placeLostBy_0 rfl (lv_at hl 0 rfl) ?_
  refine sm_callS (As := [.int x]) (rest := []) (wr := []) (wn := []) (st1 := [.int (nI (sm_tz x))]) ⟨hx, hb, hml, hown, hts⟩ (c_ntz l D x) (va_cwS 1 hts (sm_gS (i1 := 142) (i2 := 143) (i4 := 8) (i5 := 144) rfl rfl rfl rfl) rfl rfl rfl (by decide +kernel) ⟨Nat.le_of_ble_eq_true rfl, Nat.le_of_ble_eq_true rfl⟩) hK [] rfl hP hD hS hA [] [] rfl rfl (by decide) (by decide) (by decide) rfl hl.1 rfl (Nat.le_of_ble_eq_true rfl) dX0_placeLostBy_1 ⟨Nat.le_of_ble_eq_true rfl, Nat.le_of_ble_eq_true rfl⟩ rfl rfl (fun H locs hP hD hS => ?_)
  refine lv_iload_n hx hb dX0_placeLostBy_4 rfl (lv_at hl 1 rfl) ?_
  refine lv_iload_n hx hb dX0_placeLostBy_5 rfl (lv_at hl 2 rfl) ?_
  refine lv_ior hx hb dX0_placeLostBy_6 ?_
  refine sm_callS (As := [.int (y ||| n)]) (rest := [.int (nI (sm_tz x))]) (wr := []) (wn := []) (st1 := [.int (nI (sm_tz (y ||| n))), .int (nI (sm_tz x))]) ⟨hx, hb, hml, hown, hts⟩ (c_ntz l D (y ||| n)) (va_cwS 1 hts (sm_gS (i1 := 142) (i2 := 143) (i4 := 8) (i5 := 144) rfl rfl rfl rfl) rfl rfl rfl (by decide +kernel) ⟨Nat.le_of_ble_eq_true rfl, Nat.le_of_ble_eq_true rfl⟩) hK [] rfl hP hD hS hA [] [] rfl rfl (by decide) (by decide) (by decide) rfl hl.1 rfl (Nat.le_of_ble_eq_true rfl) dX0_placeLostBy_7 ⟨Nat.le_of_ble_eq_true rfl, Nat.le_of_ble_eq_true rfl⟩ rfl rfl (fun H locs hP hD hS => ?_)
  refine lv_iadd hx hb dX0_placeLostBy_10 ?_
  refine sm_eqi (y := nI ((sm_tz x) + (sm_tz (y ||| n)))) (nI_add (sm_tz x) (sm_tz (y ||| n))) ?_
  refine sm_eqi (y := nI (sm_tz x + sm_tz (y ||| n))) (rfl) ?_
  exact sm_iret hx hb hrt hlocks hS hP hD dX0_placeLostBy_11
set_option maxHeartbeats 4000000 in
set_option maxRecDepth 100000 in
theorem c_valueOf_0 (l : Launch) (D : va_G) (cI : ClassId) (x0 x1 x2 x3 : Nat) (V S M : Nat → Int32) (d a b : Nat) (hd : d < 16) (ha : a < 16) (hb' : b < 16) : sm_C l yX0_valueOf wsX0_valueOf ({ frames := 2, cells := 0, slots := 0, locals := 64 } : Room) D vwCl [(cI, .int)] [.ref x0, .int 0, .int (nI d), .int (nI a), .int (nI b)] (sm_wX cI x0 x1 x2 x3 V S M) (some (.int (V a + V b))) (sm_wX cI x0 x1 x2 x3 V S M) := by
  refine sm_start (cc := cX0_valueOf) (maxL := 7) (ret := some .int) (lv := [(0, .ref x0), (1, .int 0), (2, .int (nI d)), (3, .int (nI a)), (4, .int (nI b))]) (by decide) rfl (Nat.le_of_ble_eq_true rfl) rfl ?_
  intro p e s m below meth c hx hb hrt hts hown hlocks hml hin hK hP hD hS hA ls hl
  have hw := sm_hw hts
  refine lv_aload_n hx hb dX0_valueOf_0 rfl (lv_at hl 0 rfl) ?_
  refine va_get (D := D) (ci := 0) (v := .ref x1) (C := RX0) (T := TX0) (N := 3) hx hb hts inX0 hown hK hP 0 rfl rfl 0 (by decide) (hw 18 rfl) (fun _ h9 => h9) rfl dX0_valueOf_1 ?_
  refine lv_iload_n hx hb dX0_valueOf_4 rfl (lv_at hl 3 rfl) ?_
  refine va_iald hx hb hK hP 1 0 rfl rfl (vp_in_nI (n := a) (by omega) (by decide)) dX0_valueOf_5 ?_
  refine sm_eqi (y := V a) (sm_cl V (n := a) (by omega)) ?_
  refine lv_istore (lv' := [(5, .int (V a)), (0, .ref x0), (1, .int 0), (2, .int (nI d)), (3, .int (nI a)), (4, .int (nI b))]) hx hb dX0_valueOf_6 hl (by decide) rfl (fun ls hl => ?_)
  refine lv_aload_n hx hb dX0_valueOf_8 rfl (lv_at hl 1 rfl) ?_
  refine va_get (D := D) (ci := 0) (v := .ref x1) (C := RX0) (T := TX0) (N := 3) hx hb hts inX0 hown hK hP 0 rfl rfl 0 (by decide) (hw 18 rfl) (fun _ h9 => h9) rfl dX0_valueOf_9 ?_
  refine lv_iload hx hb dX0_valueOf_12 (lv_at hl 5 rfl) ?_
  refine va_iald hx hb hK hP 1 0 rfl rfl (vp_in_nI (n := b) (by omega) (by decide)) dX0_valueOf_14 ?_
  refine sm_eqi (y := V b) (sm_cl V (n := b) (by omega)) ?_
  refine lv_istore (lv' := [(6, .int (V b)), (5, .int (V a)), (0, .ref x0), (1, .int 0), (2, .int (nI d)), (3, .int (nI a)), (4, .int (nI b))]) hx hb dX0_valueOf_15 hl (by decide) rfl (fun ls hl => ?_)
  refine lv_iload_n hx hb dX0_valueOf_17 rfl (lv_at hl 3 rfl) ?_
  refine lv_tableIn (off := 62) (tgt := 80) hx hb dX0_valueOf_18 (by decide) (by decide) (by decide) (by decide) ?_
  refine lv_iload hx hb dX0_valueOf_80 (lv_at hl 1 rfl) ?_
  refine lv_iload hx hb dX0_valueOf_82 (lv_at hl 0 rfl) ?_
  refine lv_iadd hx hb dX0_valueOf_84 ?_
  refine sm_eqi (y := V a + V b) (rfl) ?_
  exact sm_iret hx hb hrt hlocks hS hP hD dX0_valueOf_85
set_option maxHeartbeats 4000000 in
set_option maxRecDepth 100000 in
theorem c_valueOf_1 (l : Launch) (D : va_G) (cI : ClassId) (x0 x1 x2 x3 : Nat) (V S M : Nat → Int32) (d a b : Nat) (hd : d < 16) (ha : a < 16) (hb' : b < 16) : sm_C l yX0_valueOf wsX0_valueOf ({ frames := 2, cells := 0, slots := 0, locals := 64 } : Room) D vwCl [(cI, .int)] [.ref x0, .int 1, .int (nI d), .int (nI a), .int (nI b)] (sm_wX cI x0 x1 x2 x3 V S M) (some (.int (V a - V b))) (sm_wX cI x0 x1 x2 x3 V S M) := by
  refine sm_start (cc := cX0_valueOf) (maxL := 7) (ret := some .int) (lv := [(0, .ref x0), (1, .int 1), (2, .int (nI d)), (3, .int (nI a)), (4, .int (nI b))]) (by decide) rfl (Nat.le_of_ble_eq_true rfl) rfl ?_
  intro p e s m below meth c hx hb hrt hts hown hlocks hml hin hK hP hD hS hA ls hl
  have hw := sm_hw hts
  refine lv_aload_n hx hb dX0_valueOf_0 rfl (lv_at hl 0 rfl) ?_
  refine va_get (D := D) (ci := 0) (v := .ref x1) (C := RX0) (T := TX0) (N := 3) hx hb hts inX0 hown hK hP 0 rfl rfl 0 (by decide) (hw 18 rfl) (fun _ h9 => h9) rfl dX0_valueOf_1 ?_
  refine lv_iload_n hx hb dX0_valueOf_4 rfl (lv_at hl 3 rfl) ?_
  refine va_iald hx hb hK hP 1 0 rfl rfl (vp_in_nI (n := a) (by omega) (by decide)) dX0_valueOf_5 ?_
  refine sm_eqi (y := V a) (sm_cl V (n := a) (by omega)) ?_
  refine lv_istore (lv' := [(5, .int (V a)), (0, .ref x0), (1, .int 1), (2, .int (nI d)), (3, .int (nI a)), (4, .int (nI b))]) hx hb dX0_valueOf_6 hl (by decide) rfl (fun ls hl => ?_)
  refine lv_aload_n hx hb dX0_valueOf_8 rfl (lv_at hl 1 rfl) ?_
  refine va_get (D := D) (ci := 0) (v := .ref x1) (C := RX0) (T := TX0) (N := 3) hx hb hts inX0 hown hK hP 0 rfl rfl 0 (by decide) (hw 18 rfl) (fun _ h9 => h9) rfl dX0_valueOf_9 ?_
  refine lv_iload hx hb dX0_valueOf_12 (lv_at hl 5 rfl) ?_
  refine va_iald hx hb hK hP 1 0 rfl rfl (vp_in_nI (n := b) (by omega) (by decide)) dX0_valueOf_14 ?_
  refine sm_eqi (y := V b) (sm_cl V (n := b) (by omega)) ?_
  refine lv_istore (lv' := [(6, .int (V b)), (5, .int (V a)), (0, .ref x0), (1, .int 1), (2, .int (nI d)), (3, .int (nI a)), (4, .int (nI b))]) hx hb dX0_valueOf_15 hl (by decide) rfl (fun ls hl => ?_)
  refine lv_iload_n hx hb dX0_valueOf_17 rfl (lv_at hl 3 rfl) ?_
  refine lv_tableIn (off := 68) (tgt := 86) hx hb dX0_valueOf_18 (by decide) (by decide) (by decide) (by decide) ?_
  refine lv_iload hx hb dX0_valueOf_86 (lv_at hl 1 rfl) ?_
  refine lv_iload hx hb dX0_valueOf_88 (lv_at hl 0 rfl) ?_
  refine lv_isub hx hb dX0_valueOf_90 ?_
  refine sm_eqi (y := V a - V b) (rfl) ?_
  exact sm_iret hx hb hrt hlocks hS hP hD dX0_valueOf_91
set_option maxHeartbeats 4000000 in
set_option maxRecDepth 100000 in
theorem c_valueOf_2 (l : Launch) (D : va_G) (cI : ClassId) (x0 x1 x2 x3 : Nat) (V S M : Nat → Int32) (d a b : Nat) (hd : d < 16) (ha : a < 16) (hb' : b < 16) : sm_C l yX0_valueOf wsX0_valueOf ({ frames := 2, cells := 0, slots := 0, locals := 64 } : Room) D vwCl [(cI, .int)] [.ref x0, .int 2, .int (nI d), .int (nI a), .int (nI b)] (sm_wX cI x0 x1 x2 x3 V S M) (some (.int (V a &&& V b))) (sm_wX cI x0 x1 x2 x3 V S M) := by
  refine sm_start (cc := cX0_valueOf) (maxL := 7) (ret := some .int) (lv := [(0, .ref x0), (1, .int 2), (2, .int (nI d)), (3, .int (nI a)), (4, .int (nI b))]) (by decide) rfl (Nat.le_of_ble_eq_true rfl) rfl ?_
  intro p e s m below meth c hx hb hrt hts hown hlocks hml hin hK hP hD hS hA ls hl
  have hw := sm_hw hts
  refine lv_aload_n hx hb dX0_valueOf_0 rfl (lv_at hl 0 rfl) ?_
  refine va_get (D := D) (ci := 0) (v := .ref x1) (C := RX0) (T := TX0) (N := 3) hx hb hts inX0 hown hK hP 0 rfl rfl 0 (by decide) (hw 18 rfl) (fun _ h9 => h9) rfl dX0_valueOf_1 ?_
  refine lv_iload_n hx hb dX0_valueOf_4 rfl (lv_at hl 3 rfl) ?_
  refine va_iald hx hb hK hP 1 0 rfl rfl (vp_in_nI (n := a) (by omega) (by decide)) dX0_valueOf_5 ?_
  refine sm_eqi (y := V a) (sm_cl V (n := a) (by omega)) ?_
  refine lv_istore (lv' := [(5, .int (V a)), (0, .ref x0), (1, .int 2), (2, .int (nI d)), (3, .int (nI a)), (4, .int (nI b))]) hx hb dX0_valueOf_6 hl (by decide) rfl (fun ls hl => ?_)
  refine lv_aload_n hx hb dX0_valueOf_8 rfl (lv_at hl 1 rfl) ?_
  refine va_get (D := D) (ci := 0) (v := .ref x1) (C := RX0) (T := TX0) (N := 3) hx hb hts inX0 hown hK hP 0 rfl rfl 0 (by decide) (hw 18 rfl) (fun _ h9 => h9) rfl dX0_valueOf_9 ?_
  refine lv_iload hx hb dX0_valueOf_12 (lv_at hl 5 rfl) ?_
  refine va_iald hx hb hK hP 1 0 rfl rfl (vp_in_nI (n := b) (by omega) (by decide)) dX0_valueOf_14 ?_
  refine sm_eqi (y := V b) (sm_cl V (n := b) (by omega)) ?_
  refine lv_istore (lv' := [(6, .int (V b)), (5, .int (V a)), (0, .ref x0), (1, .int 2), (2, .int (nI d)), (3, .int (nI a)), (4, .int (nI b))]) hx hb dX0_valueOf_15 hl (by decide) rfl (fun ls hl => ?_)
  refine lv_iload_n hx hb dX0_valueOf_17 rfl (lv_at hl 3 rfl) ?_
  refine lv_tableIn (off := 74) (tgt := 92) hx hb dX0_valueOf_18 (by decide) (by decide) (by decide) (by decide) ?_
  refine lv_iload hx hb dX0_valueOf_92 (lv_at hl 1 rfl) ?_
  refine lv_iload hx hb dX0_valueOf_94 (lv_at hl 0 rfl) ?_
  refine lv_iand hx hb dX0_valueOf_96 ?_
  refine sm_eqi (y := V a &&& V b) (rfl) ?_
  exact sm_iret hx hb hrt hlocks hS hP hD dX0_valueOf_97
set_option maxHeartbeats 4000000 in
set_option maxRecDepth 100000 in
theorem c_valueOf_3 (l : Launch) (D : va_G) (cI : ClassId) (x0 x1 x2 x3 : Nat) (V S M : Nat → Int32) (d a b : Nat) (hd : d < 16) (ha : a < 16) (hb' : b < 16) : sm_C l yX0_valueOf wsX0_valueOf ({ frames := 2, cells := 0, slots := 0, locals := 64 } : Room) D vwCl [(cI, .int)] [.ref x0, .int 3, .int (nI d), .int (nI a), .int (nI b)] (sm_wX cI x0 x1 x2 x3 V S M) (some (.int (V a ||| V b))) (sm_wX cI x0 x1 x2 x3 V S M) := by
  refine sm_start (cc := cX0_valueOf) (maxL := 7) (ret := some .int) (lv := [(0, .ref x0), (1, .int 3), (2, .int (nI d)), (3, .int (nI a)), (4, .int (nI b))]) (by decide) rfl (Nat.le_of_ble_eq_true rfl) rfl ?_
  intro p e s m below meth c hx hb hrt hts hown hlocks hml hin hK hP hD hS hA ls hl
  have hw := sm_hw hts
  refine lv_aload_n hx hb dX0_valueOf_0 rfl (lv_at hl 0 rfl) ?_
  refine va_get (D := D) (ci := 0) (v := .ref x1) (C := RX0) (T := TX0) (N := 3) hx hb hts inX0 hown hK hP 0 rfl rfl 0 (by decide) (hw 18 rfl) (fun _ h9 => h9) rfl dX0_valueOf_1 ?_
  refine lv_iload_n hx hb dX0_valueOf_4 rfl (lv_at hl 3 rfl) ?_
  refine va_iald hx hb hK hP 1 0 rfl rfl (vp_in_nI (n := a) (by omega) (by decide)) dX0_valueOf_5 ?_
  refine sm_eqi (y := V a) (sm_cl V (n := a) (by omega)) ?_
  refine lv_istore (lv' := [(5, .int (V a)), (0, .ref x0), (1, .int 3), (2, .int (nI d)), (3, .int (nI a)), (4, .int (nI b))]) hx hb dX0_valueOf_6 hl (by decide) rfl (fun ls hl => ?_)
  refine lv_aload_n hx hb dX0_valueOf_8 rfl (lv_at hl 1 rfl) ?_
  refine va_get (D := D) (ci := 0) (v := .ref x1) (C := RX0) (T := TX0) (N := 3) hx hb hts inX0 hown hK hP 0 rfl rfl 0 (by decide) (hw 18 rfl) (fun _ h9 => h9) rfl dX0_valueOf_9 ?_
  refine lv_iload hx hb dX0_valueOf_12 (lv_at hl 5 rfl) ?_
  refine va_iald hx hb hK hP 1 0 rfl rfl (vp_in_nI (n := b) (by omega) (by decide)) dX0_valueOf_14 ?_
  refine sm_eqi (y := V b) (sm_cl V (n := b) (by omega)) ?_
  refine lv_istore (lv' := [(6, .int (V b)), (5, .int (V a)), (0, .ref x0), (1, .int 3), (2, .int (nI d)), (3, .int (nI a)), (4, .int (nI b))]) hx hb dX0_valueOf_15 hl (by decide) rfl (fun ls hl => ?_)
  refine lv_iload_n hx hb dX0_valueOf_17 rfl (lv_at hl 3 rfl) ?_
  refine lv_tableIn (off := 80) (tgt := 98) hx hb dX0_valueOf_18 (by decide) (by decide) (by decide) (by decide) ?_
  refine lv_iload hx hb dX0_valueOf_98 (lv_at hl 1 rfl) ?_
  refine lv_iload hx hb dX0_valueOf_100 (lv_at hl 0 rfl) ?_
  refine lv_ior hx hb dX0_valueOf_102 ?_
  refine sm_eqi (y := V a ||| V b) (rfl) ?_
  exact sm_iret hx hb hrt hlocks hS hP hD dX0_valueOf_103
set_option maxHeartbeats 4000000 in
set_option maxRecDepth 100000 in
theorem c_valueOf_4 (l : Launch) (D : va_G) (cI : ClassId) (x0 x1 x2 x3 : Nat) (V S M : Nat → Int32) (d a b : Nat) (hd : d < 16) (ha : a < 16) (hb' : b < 16) : sm_C l yX0_valueOf wsX0_valueOf ({ frames := 2, cells := 0, slots := 0, locals := 64 } : Room) D vwCl [(cI, .int)] [.ref x0, .int 4, .int (nI d), .int (nI a), .int (nI b)] (sm_wX cI x0 x1 x2 x3 V S M) (some (.int (V a ^^^ V b))) (sm_wX cI x0 x1 x2 x3 V S M) := by
  refine sm_start (cc := cX0_valueOf) (maxL := 7) (ret := some .int) (lv := [(0, .ref x0), (1, .int 4), (2, .int (nI d)), (3, .int (nI a)), (4, .int (nI b))]) (by decide) rfl (Nat.le_of_ble_eq_true rfl) rfl ?_
  intro p e s m below meth c hx hb hrt hts hown hlocks hml hin hK hP hD hS hA ls hl
  have hw := sm_hw hts
  refine lv_aload_n hx hb dX0_valueOf_0 rfl (lv_at hl 0 rfl) ?_
  refine va_get (D := D) (ci := 0) (v := .ref x1) (C := RX0) (T := TX0) (N := 3) hx hb hts inX0 hown hK hP 0 rfl rfl 0 (by decide) (hw 18 rfl) (fun _ h9 => h9) rfl dX0_valueOf_1 ?_
  refine lv_iload_n hx hb dX0_valueOf_4 rfl (lv_at hl 3 rfl) ?_
  refine va_iald hx hb hK hP 1 0 rfl rfl (vp_in_nI (n := a) (by omega) (by decide)) dX0_valueOf_5 ?_
  refine sm_eqi (y := V a) (sm_cl V (n := a) (by omega)) ?_
  refine lv_istore (lv' := [(5, .int (V a)), (0, .ref x0), (1, .int 4), (2, .int (nI d)), (3, .int (nI a)), (4, .int (nI b))]) hx hb dX0_valueOf_6 hl (by decide) rfl (fun ls hl => ?_)
  refine lv_aload_n hx hb dX0_valueOf_8 rfl (lv_at hl 1 rfl) ?_
  refine va_get (D := D) (ci := 0) (v := .ref x1) (C := RX0) (T := TX0) (N := 3) hx hb hts inX0 hown hK hP 0 rfl rfl 0 (by decide) (hw 18 rfl) (fun _ h9 => h9) rfl dX0_valueOf_9 ?_
  refine lv_iload hx hb dX0_valueOf_12 (lv_at hl 5 rfl) ?_
  refine va_iald hx hb hK hP 1 0 rfl rfl (vp_in_nI (n := b) (by omega) (by decide)) dX0_valueOf_14 ?_
  refine sm_eqi (y := V b) (sm_cl V (n := b) (by omega)) ?_
  refine lv_istore (lv' := [(6, .int (V b)), (5, .int (V a)), (0, .ref x0), (1, .int 4), (2, .int (nI d)), (3, .int (nI a)), (4, .int (nI b))]) hx hb dX0_valueOf_15 hl (by decide) rfl (fun ls hl => ?_)
  refine lv_iload_n hx hb dX0_valueOf_17 rfl (lv_at hl 3 rfl) ?_
  refine lv_tableIn (off := 86) (tgt := 104) hx hb dX0_valueOf_18 (by decide) (by decide) (by decide) (by decide) ?_
  refine lv_iload hx hb dX0_valueOf_104 (lv_at hl 1 rfl) ?_
  refine lv_iload hx hb dX0_valueOf_106 (lv_at hl 0 rfl) ?_
  refine lv_ixor hx hb dX0_valueOf_108 ?_
  refine sm_eqi (y := V a ^^^ V b) (rfl) ?_
  exact sm_iret hx hb hrt hlocks hS hP hD dX0_valueOf_109
set_option maxHeartbeats 4000000 in
set_option maxRecDepth 100000 in
theorem c_valueOf_5 (l : Launch) (D : va_G) (cI : ClassId) (x0 x1 x2 x3 : Nat) (V S M : Nat → Int32) (d a b : Nat) (hd : d < 16) (ha : a < 16) (hb' : b < 16) : sm_C l yX0_valueOf wsX0_valueOf ({ frames := 2, cells := 0, slots := 0, locals := 64 } : Room) D vwCl [(cI, .int)] [.ref x0, .int 5, .int (nI d), .int (nI a), .int (nI b)] (sm_wX cI x0 x1 x2 x3 V S M) (some (.int (V a <<< ((V b &&& 31) &&& 31)))) (sm_wX cI x0 x1 x2 x3 V S M) := by
  refine sm_start (cc := cX0_valueOf) (maxL := 7) (ret := some .int) (lv := [(0, .ref x0), (1, .int 5), (2, .int (nI d)), (3, .int (nI a)), (4, .int (nI b))]) (by decide) rfl (Nat.le_of_ble_eq_true rfl) rfl ?_
  intro p e s m below meth c hx hb hrt hts hown hlocks hml hin hK hP hD hS hA ls hl
  have hw := sm_hw hts
  refine lv_aload_n hx hb dX0_valueOf_0 rfl (lv_at hl 0 rfl) ?_
  refine va_get (D := D) (ci := 0) (v := .ref x1) (C := RX0) (T := TX0) (N := 3) hx hb hts inX0 hown hK hP 0 rfl rfl 0 (by decide) (hw 18 rfl) (fun _ h9 => h9) rfl dX0_valueOf_1 ?_
  refine lv_iload_n hx hb dX0_valueOf_4 rfl (lv_at hl 3 rfl) ?_
  refine va_iald hx hb hK hP 1 0 rfl rfl (vp_in_nI (n := a) (by omega) (by decide)) dX0_valueOf_5 ?_
  refine sm_eqi (y := V a) (sm_cl V (n := a) (by omega)) ?_
  refine lv_istore (lv' := [(5, .int (V a)), (0, .ref x0), (1, .int 5), (2, .int (nI d)), (3, .int (nI a)), (4, .int (nI b))]) hx hb dX0_valueOf_6 hl (by decide) rfl (fun ls hl => ?_)
  refine lv_aload_n hx hb dX0_valueOf_8 rfl (lv_at hl 1 rfl) ?_
  refine va_get (D := D) (ci := 0) (v := .ref x1) (C := RX0) (T := TX0) (N := 3) hx hb hts inX0 hown hK hP 0 rfl rfl 0 (by decide) (hw 18 rfl) (fun _ h9 => h9) rfl dX0_valueOf_9 ?_
  refine lv_iload hx hb dX0_valueOf_12 (lv_at hl 5 rfl) ?_
  refine va_iald hx hb hK hP 1 0 rfl rfl (vp_in_nI (n := b) (by omega) (by decide)) dX0_valueOf_14 ?_
  refine sm_eqi (y := V b) (sm_cl V (n := b) (by omega)) ?_
  refine lv_istore (lv' := [(6, .int (V b)), (5, .int (V a)), (0, .ref x0), (1, .int 5), (2, .int (nI d)), (3, .int (nI a)), (4, .int (nI b))]) hx hb dX0_valueOf_15 hl (by decide) rfl (fun ls hl => ?_)
  refine lv_iload_n hx hb dX0_valueOf_17 rfl (lv_at hl 3 rfl) ?_
  refine lv_tableIn (off := 92) (tgt := 110) hx hb dX0_valueOf_18 (by decide) (by decide) (by decide) (by decide) ?_
  refine lv_iload_n hx hb dX0_valueOf_110 rfl (lv_at hl 3 rfl) ?_
  refine lv_iload hx hb dX0_valueOf_111 (lv_at hl 1 rfl) ?_
  refine lv_iload hx hb dX0_valueOf_113 (lv_at hl 0 rfl) ?_
  refine lv_bipush (v := 31) hx hb dX0_valueOf_115 (by decide) ?_
  refine lv_iand hx hb dX0_valueOf_117 ?_
  refine sm_callS (As := [.int 5, .int (V a), .int ((V b) &&& 31)]) (rest := []) (wr := (sm_wX cI x0 x1 x2 x3 V S M)) (wn := (sm_wX cI x0 x1 x2 x3 V S M)) (st1 := [.int ((V a) <<< (((V b) &&& 31) &&& 31))]) ⟨hx, hb, hml, hown, hts⟩ (c_shifted_5 l D (V a) ((V b) &&& 31)) (va_cwS 3 hts (sm_gS (i1 := 126) (i2 := 127) (i4 := 1) (i5 := 128) rfl rfl rfl rfl) rfl rfl rfl (by decide +kernel) ⟨Nat.le_of_ble_eq_true rfl, Nat.le_of_ble_eq_true rfl⟩) hK [] rfl hP hD hS hA [] [0, 1, 2, 3] rfl rfl (by decide) (by decide) (by decide) rfl hl.1 rfl (Nat.le_of_ble_eq_true rfl) dX0_valueOf_118 ⟨Nat.le_of_ble_eq_true rfl, Nat.le_of_ble_eq_true rfl⟩ rfl rfl (fun H locs hP hD hS => ?_)
  refine sm_eqi (y := V a <<< ((V b &&& 31) &&& 31)) (rfl) ?_
  exact sm_iret hx hb hrt hlocks hS hP hD dX0_valueOf_121
set_option maxHeartbeats 4000000 in
set_option maxRecDepth 100000 in
theorem c_valueOf_6 (l : Launch) (D : va_G) (cI : ClassId) (x0 x1 x2 x3 : Nat) (V S M : Nat → Int32) (d a b : Nat) (hd : d < 16) (ha : a < 16) (hb' : b < 16) : sm_C l yX0_valueOf wsX0_valueOf ({ frames := 2, cells := 0, slots := 0, locals := 64 } : Room) D vwCl [(cI, .int)] [.ref x0, .int 6, .int (nI d), .int (nI a), .int (nI b)] (sm_wX cI x0 x1 x2 x3 V S M) (some (.int (sm_ushr (V a) (V b &&& 31)))) (sm_wX cI x0 x1 x2 x3 V S M) := by
  refine sm_start (cc := cX0_valueOf) (maxL := 7) (ret := some .int) (lv := [(0, .ref x0), (1, .int 6), (2, .int (nI d)), (3, .int (nI a)), (4, .int (nI b))]) (by decide) rfl (Nat.le_of_ble_eq_true rfl) rfl ?_
  intro p e s m below meth c hx hb hrt hts hown hlocks hml hin hK hP hD hS hA ls hl
  have hw := sm_hw hts
  refine lv_aload_n hx hb dX0_valueOf_0 rfl (lv_at hl 0 rfl) ?_
  refine va_get (D := D) (ci := 0) (v := .ref x1) (C := RX0) (T := TX0) (N := 3) hx hb hts inX0 hown hK hP 0 rfl rfl 0 (by decide) (hw 18 rfl) (fun _ h9 => h9) rfl dX0_valueOf_1 ?_
  refine lv_iload_n hx hb dX0_valueOf_4 rfl (lv_at hl 3 rfl) ?_
  refine va_iald hx hb hK hP 1 0 rfl rfl (vp_in_nI (n := a) (by omega) (by decide)) dX0_valueOf_5 ?_
  refine sm_eqi (y := V a) (sm_cl V (n := a) (by omega)) ?_
  refine lv_istore (lv' := [(5, .int (V a)), (0, .ref x0), (1, .int 6), (2, .int (nI d)), (3, .int (nI a)), (4, .int (nI b))]) hx hb dX0_valueOf_6 hl (by decide) rfl (fun ls hl => ?_)
  refine lv_aload_n hx hb dX0_valueOf_8 rfl (lv_at hl 1 rfl) ?_
  refine va_get (D := D) (ci := 0) (v := .ref x1) (C := RX0) (T := TX0) (N := 3) hx hb hts inX0 hown hK hP 0 rfl rfl 0 (by decide) (hw 18 rfl) (fun _ h9 => h9) rfl dX0_valueOf_9 ?_
  refine lv_iload hx hb dX0_valueOf_12 (lv_at hl 5 rfl) ?_
  refine va_iald hx hb hK hP 1 0 rfl rfl (vp_in_nI (n := b) (by omega) (by decide)) dX0_valueOf_14 ?_
  refine sm_eqi (y := V b) (sm_cl V (n := b) (by omega)) ?_
  refine lv_istore (lv' := [(6, .int (V b)), (5, .int (V a)), (0, .ref x0), (1, .int 6), (2, .int (nI d)), (3, .int (nI a)), (4, .int (nI b))]) hx hb dX0_valueOf_15 hl (by decide) rfl (fun ls hl => ?_)
  refine lv_iload_n hx hb dX0_valueOf_17 rfl (lv_at hl 3 rfl) ?_
  refine lv_tableIn (off := 92) (tgt := 110) hx hb dX0_valueOf_18 (by decide) (by decide) (by decide) (by decide) ?_
  refine lv_iload_n hx hb dX0_valueOf_110 rfl (lv_at hl 3 rfl) ?_
  refine lv_iload hx hb dX0_valueOf_111 (lv_at hl 1 rfl) ?_
  refine lv_iload hx hb dX0_valueOf_113 (lv_at hl 0 rfl) ?_
  refine lv_bipush (v := 31) hx hb dX0_valueOf_115 (by decide) ?_
  refine lv_iand hx hb dX0_valueOf_117 ?_
  refine sm_callS (As := [.int 6, .int (V a), .int ((V b) &&& 31)]) (rest := []) (wr := (sm_wX cI x0 x1 x2 x3 V S M)) (wn := (sm_wX cI x0 x1 x2 x3 V S M)) (st1 := [.int (sm_ushr (V a) ((V b) &&& 31))]) ⟨hx, hb, hml, hown, hts⟩ (c_shifted_6 l D (V a) ((V b) &&& 31)) (va_cwS 3 hts (sm_gS (i1 := 126) (i2 := 127) (i4 := 1) (i5 := 128) rfl rfl rfl rfl) rfl rfl rfl (by decide +kernel) ⟨Nat.le_of_ble_eq_true rfl, Nat.le_of_ble_eq_true rfl⟩) hK [] rfl hP hD hS hA [] [0, 1, 2, 3] rfl rfl (by decide) (by decide) (by decide) rfl hl.1 rfl (Nat.le_of_ble_eq_true rfl) dX0_valueOf_118 ⟨Nat.le_of_ble_eq_true rfl, Nat.le_of_ble_eq_true rfl⟩ rfl rfl (fun H locs hP hD hS => ?_)
  refine sm_eqi (y := sm_ushr (V a) (V b &&& 31)) (rfl) ?_
  exact sm_iret hx hb hrt hlocks hS hP hD dX0_valueOf_121
set_option maxHeartbeats 4000000 in
set_option maxRecDepth 100000 in
theorem c_valueOf_7 (l : Launch) (D : va_G) (cI : ClassId) (x0 x1 x2 x3 : Nat) (V S M : Nat → Int32) (d a b : Nat) (hd : d < 16) (ha : a < 16) (hb' : b < 16) : sm_C l yX0_valueOf wsX0_valueOf ({ frames := 2, cells := 0, slots := 0, locals := 64 } : Room) D vwCl [(cI, .int)] [.ref x0, .int 7, .int (nI d), .int (nI a), .int (nI b)] (sm_wX cI x0 x1 x2 x3 V S M) (some (.int (V a >>> ((V b &&& 31) &&& 31)))) (sm_wX cI x0 x1 x2 x3 V S M) := by
  refine sm_start (cc := cX0_valueOf) (maxL := 7) (ret := some .int) (lv := [(0, .ref x0), (1, .int 7), (2, .int (nI d)), (3, .int (nI a)), (4, .int (nI b))]) (by decide) rfl (Nat.le_of_ble_eq_true rfl) rfl ?_
  intro p e s m below meth c hx hb hrt hts hown hlocks hml hin hK hP hD hS hA ls hl
  have hw := sm_hw hts
  refine lv_aload_n hx hb dX0_valueOf_0 rfl (lv_at hl 0 rfl) ?_
  refine va_get (D := D) (ci := 0) (v := .ref x1) (C := RX0) (T := TX0) (N := 3) hx hb hts inX0 hown hK hP 0 rfl rfl 0 (by decide) (hw 18 rfl) (fun _ h9 => h9) rfl dX0_valueOf_1 ?_
  refine lv_iload_n hx hb dX0_valueOf_4 rfl (lv_at hl 3 rfl) ?_
  refine va_iald hx hb hK hP 1 0 rfl rfl (vp_in_nI (n := a) (by omega) (by decide)) dX0_valueOf_5 ?_
  refine sm_eqi (y := V a) (sm_cl V (n := a) (by omega)) ?_
  refine lv_istore (lv' := [(5, .int (V a)), (0, .ref x0), (1, .int 7), (2, .int (nI d)), (3, .int (nI a)), (4, .int (nI b))]) hx hb dX0_valueOf_6 hl (by decide) rfl (fun ls hl => ?_)
  refine lv_aload_n hx hb dX0_valueOf_8 rfl (lv_at hl 1 rfl) ?_
  refine va_get (D := D) (ci := 0) (v := .ref x1) (C := RX0) (T := TX0) (N := 3) hx hb hts inX0 hown hK hP 0 rfl rfl 0 (by decide) (hw 18 rfl) (fun _ h9 => h9) rfl dX0_valueOf_9 ?_
  refine lv_iload hx hb dX0_valueOf_12 (lv_at hl 5 rfl) ?_
  refine va_iald hx hb hK hP 1 0 rfl rfl (vp_in_nI (n := b) (by omega) (by decide)) dX0_valueOf_14 ?_
  refine sm_eqi (y := V b) (sm_cl V (n := b) (by omega)) ?_
  refine lv_istore (lv' := [(6, .int (V b)), (5, .int (V a)), (0, .ref x0), (1, .int 7), (2, .int (nI d)), (3, .int (nI a)), (4, .int (nI b))]) hx hb dX0_valueOf_15 hl (by decide) rfl (fun ls hl => ?_)
  refine lv_iload_n hx hb dX0_valueOf_17 rfl (lv_at hl 3 rfl) ?_
  refine lv_tableIn (off := 92) (tgt := 110) hx hb dX0_valueOf_18 (by decide) (by decide) (by decide) (by decide) ?_
  refine lv_iload_n hx hb dX0_valueOf_110 rfl (lv_at hl 3 rfl) ?_
  refine lv_iload hx hb dX0_valueOf_111 (lv_at hl 1 rfl) ?_
  refine lv_iload hx hb dX0_valueOf_113 (lv_at hl 0 rfl) ?_
  refine lv_bipush (v := 31) hx hb dX0_valueOf_115 (by decide) ?_
  refine lv_iand hx hb dX0_valueOf_117 ?_
  refine sm_callS (As := [.int 7, .int (V a), .int ((V b) &&& 31)]) (rest := []) (wr := (sm_wX cI x0 x1 x2 x3 V S M)) (wn := (sm_wX cI x0 x1 x2 x3 V S M)) (st1 := [.int ((V a) >>> (((V b) &&& 31) &&& 31))]) ⟨hx, hb, hml, hown, hts⟩ (c_shifted_7 l D (V a) ((V b) &&& 31)) (va_cwS 3 hts (sm_gS (i1 := 126) (i2 := 127) (i4 := 1) (i5 := 128) rfl rfl rfl rfl) rfl rfl rfl (by decide +kernel) ⟨Nat.le_of_ble_eq_true rfl, Nat.le_of_ble_eq_true rfl⟩) hK [] rfl hP hD hS hA [] [0, 1, 2, 3] rfl rfl (by decide) (by decide) (by decide) rfl hl.1 rfl (Nat.le_of_ble_eq_true rfl) dX0_valueOf_118 ⟨Nat.le_of_ble_eq_true rfl, Nat.le_of_ble_eq_true rfl⟩ rfl rfl (fun H locs hP hD hS => ?_)
  refine sm_eqi (y := V a >>> ((V b &&& 31) &&& 31)) (rfl) ?_
  exact sm_iret hx hb hrt hlocks hS hP hD dX0_valueOf_121
set_option maxHeartbeats 4000000 in
set_option maxRecDepth 100000 in
theorem c_valueOf_8 (l : Launch) (D : va_G) (cI : ClassId) (x0 x1 x2 x3 : Nat) (V S M : Nat → Int32) (d a b : Nat) (hd : d < 16) (ha : a < 16) (hb' : b < 16) : sm_C l yX0_valueOf wsX0_valueOf ({ frames := 2, cells := 0, slots := 0, locals := 64 } : Room) D vwCl [(cI, .int)] [.ref x0, .int 8, .int (nI d), .int (nI a), .int (nI b)] (sm_wX cI x0 x1 x2 x3 V S M) (some (.int (V a * V b))) (sm_wX cI x0 x1 x2 x3 V S M) := by
  refine sm_start (cc := cX0_valueOf) (maxL := 7) (ret := some .int) (lv := [(0, .ref x0), (1, .int 8), (2, .int (nI d)), (3, .int (nI a)), (4, .int (nI b))]) (by decide) rfl (Nat.le_of_ble_eq_true rfl) rfl ?_
  intro p e s m below meth c hx hb hrt hts hown hlocks hml hin hK hP hD hS hA ls hl
  have hw := sm_hw hts
  refine lv_aload_n hx hb dX0_valueOf_0 rfl (lv_at hl 0 rfl) ?_
  refine va_get (D := D) (ci := 0) (v := .ref x1) (C := RX0) (T := TX0) (N := 3) hx hb hts inX0 hown hK hP 0 rfl rfl 0 (by decide) (hw 18 rfl) (fun _ h9 => h9) rfl dX0_valueOf_1 ?_
  refine lv_iload_n hx hb dX0_valueOf_4 rfl (lv_at hl 3 rfl) ?_
  refine va_iald hx hb hK hP 1 0 rfl rfl (vp_in_nI (n := a) (by omega) (by decide)) dX0_valueOf_5 ?_
  refine sm_eqi (y := V a) (sm_cl V (n := a) (by omega)) ?_
  refine lv_istore (lv' := [(5, .int (V a)), (0, .ref x0), (1, .int 8), (2, .int (nI d)), (3, .int (nI a)), (4, .int (nI b))]) hx hb dX0_valueOf_6 hl (by decide) rfl (fun ls hl => ?_)
  refine lv_aload_n hx hb dX0_valueOf_8 rfl (lv_at hl 1 rfl) ?_
  refine va_get (D := D) (ci := 0) (v := .ref x1) (C := RX0) (T := TX0) (N := 3) hx hb hts inX0 hown hK hP 0 rfl rfl 0 (by decide) (hw 18 rfl) (fun _ h9 => h9) rfl dX0_valueOf_9 ?_
  refine lv_iload hx hb dX0_valueOf_12 (lv_at hl 5 rfl) ?_
  refine va_iald hx hb hK hP 1 0 rfl rfl (vp_in_nI (n := b) (by omega) (by decide)) dX0_valueOf_14 ?_
  refine sm_eqi (y := V b) (sm_cl V (n := b) (by omega)) ?_
  refine lv_istore (lv' := [(6, .int (V b)), (5, .int (V a)), (0, .ref x0), (1, .int 8), (2, .int (nI d)), (3, .int (nI a)), (4, .int (nI b))]) hx hb dX0_valueOf_15 hl (by decide) rfl (fun ls hl => ?_)
  refine lv_iload_n hx hb dX0_valueOf_17 rfl (lv_at hl 3 rfl) ?_
  refine lv_tableIn (off := 104) (tgt := 122) hx hb dX0_valueOf_18 (by decide) (by decide) (by decide) (by decide) ?_
  refine lv_iload hx hb dX0_valueOf_122 (lv_at hl 1 rfl) ?_
  refine lv_iload hx hb dX0_valueOf_124 (lv_at hl 0 rfl) ?_
  refine lv_imul hx hb dX0_valueOf_126 ?_
  refine sm_eqi (y := V a * V b) (rfl) ?_
  exact sm_iret hx hb hrt hlocks hS hP hD dX0_valueOf_127
set_option maxHeartbeats 4000000 in
set_option maxRecDepth 100000 in
theorem c_valueOf_9 (l : Launch) (D : va_G) (cI : ClassId) (x0 x1 x2 x3 : Nat) (V S M : Nat → Int32) (d a b : Nat) (hd : d < 16) (ha : a < 16) (hb' : b < 16) : sm_C l yX0_valueOf wsX0_valueOf ({ frames := 2, cells := 0, slots := 0, locals := 64 } : Room) D vwCl [(cI, .int)] [.ref x0, .int 9, .int (nI d), .int (nI a), .int (nI b)] (sm_wX cI x0 x1 x2 x3 V S M) (some (.int (sm_bI (decide (V a < V b))))) (sm_wX cI x0 x1 x2 x3 V S M) := by
  refine sm_start (cc := cX0_valueOf) (maxL := 7) (ret := some .int) (lv := [(0, .ref x0), (1, .int 9), (2, .int (nI d)), (3, .int (nI a)), (4, .int (nI b))]) (by decide) rfl (Nat.le_of_ble_eq_true rfl) rfl ?_
  intro p e s m below meth c hx hb hrt hts hown hlocks hml hin hK hP hD hS hA ls hl
  have hw := sm_hw hts
  refine lv_aload_n hx hb dX0_valueOf_0 rfl (lv_at hl 0 rfl) ?_
  refine va_get (D := D) (ci := 0) (v := .ref x1) (C := RX0) (T := TX0) (N := 3) hx hb hts inX0 hown hK hP 0 rfl rfl 0 (by decide) (hw 18 rfl) (fun _ h9 => h9) rfl dX0_valueOf_1 ?_
  refine lv_iload_n hx hb dX0_valueOf_4 rfl (lv_at hl 3 rfl) ?_
  refine va_iald hx hb hK hP 1 0 rfl rfl (vp_in_nI (n := a) (by omega) (by decide)) dX0_valueOf_5 ?_
  refine sm_eqi (y := V a) (sm_cl V (n := a) (by omega)) ?_
  refine lv_istore (lv' := [(5, .int (V a)), (0, .ref x0), (1, .int 9), (2, .int (nI d)), (3, .int (nI a)), (4, .int (nI b))]) hx hb dX0_valueOf_6 hl (by decide) rfl (fun ls hl => ?_)
  refine lv_aload_n hx hb dX0_valueOf_8 rfl (lv_at hl 1 rfl) ?_
  refine va_get (D := D) (ci := 0) (v := .ref x1) (C := RX0) (T := TX0) (N := 3) hx hb hts inX0 hown hK hP 0 rfl rfl 0 (by decide) (hw 18 rfl) (fun _ h9 => h9) rfl dX0_valueOf_9 ?_
  refine lv_iload hx hb dX0_valueOf_12 (lv_at hl 5 rfl) ?_
  refine va_iald hx hb hK hP 1 0 rfl rfl (vp_in_nI (n := b) (by omega) (by decide)) dX0_valueOf_14 ?_
  refine sm_eqi (y := V b) (sm_cl V (n := b) (by omega)) ?_
  refine lv_istore (lv' := [(6, .int (V b)), (5, .int (V a)), (0, .ref x0), (1, .int 9), (2, .int (nI d)), (3, .int (nI a)), (4, .int (nI b))]) hx hb dX0_valueOf_15 hl (by decide) rfl (fun ls hl => ?_)
  refine lv_iload_n hx hb dX0_valueOf_17 rfl (lv_at hl 3 rfl) ?_
  refine lv_tableIn (off := 110) (tgt := 128) hx hb dX0_valueOf_18 (by decide) (by decide) (by decide) (by decide) ?_
  refine lv_iload hx hb dX0_valueOf_128 (lv_at hl 1 rfl) ?_
  refine lv_iload hx hb dX0_valueOf_130 (lv_at hl 0 rfl) ?_
  refine lv_icmp_ge (tgt := 139) hx hb dX0_valueOf_132 rfl (fun h132 => ?_) (fun h132 => ?_)
  · refine lv_iconst (v := 0) hx hb dX0_valueOf_139 (by decide) ?_
    refine sm_callS (As := [.int (sm_bI false)]) (rest := []) (wr := (sm_wX cI x0 x1 x2 x3 V S M)) (wn := (sm_wX cI x0 x1 x2 x3 V S M)) (st1 := [.int (sm_bI false)]) ⟨hx, hb, hml, hown, hts⟩ (c_bit l D false) (va_cwS 1 hts (sm_gS (i1 := 129) (i2 := 130) (i4 := 1) (i5 := 131) rfl rfl rfl rfl) rfl rfl rfl (by decide +kernel) ⟨Nat.le_of_ble_eq_true rfl, Nat.le_of_ble_eq_true rfl⟩) hK [] rfl hP hD hS hA [] [0, 1, 2, 3] rfl rfl (by decide) (by decide) (by decide) rfl hl.1 rfl (Nat.le_of_ble_eq_true rfl) dX0_valueOf_140 ⟨Nat.le_of_ble_eq_true rfl, Nat.le_of_ble_eq_true rfl⟩ rfl rfl (fun H locs hP hD hS => ?_)
    refine sm_eqi (y := sm_bI (decide (V a < V b))) (by simp [sm_bI, h132]) ?_
    exact sm_iret hx hb hrt hlocks hS hP hD dX0_valueOf_143
  · refine lv_iconst (v := 1) hx hb dX0_valueOf_135 (by decide) ?_
    refine lv_goto (tgt := 140) hx hb dX0_valueOf_136 rfl ?_
    refine sm_callS (As := [.int (sm_bI true)]) (rest := []) (wr := (sm_wX cI x0 x1 x2 x3 V S M)) (wn := (sm_wX cI x0 x1 x2 x3 V S M)) (st1 := [.int (sm_bI true)]) ⟨hx, hb, hml, hown, hts⟩ (c_bit l D true) (va_cwS 1 hts (sm_gS (i1 := 129) (i2 := 130) (i4 := 1) (i5 := 131) rfl rfl rfl rfl) rfl rfl rfl (by decide +kernel) ⟨Nat.le_of_ble_eq_true rfl, Nat.le_of_ble_eq_true rfl⟩) hK [] rfl hP hD hS hA [] [0, 1, 2, 3] rfl rfl (by decide) (by decide) (by decide) rfl hl.1 rfl (Nat.le_of_ble_eq_true rfl) dX0_valueOf_140 ⟨Nat.le_of_ble_eq_true rfl, Nat.le_of_ble_eq_true rfl⟩ rfl rfl (fun H locs hP hD hS => ?_)
    refine sm_eqi (y := sm_bI (decide (V a < V b))) (by simp [sm_bI, h132]) ?_
    exact sm_iret hx hb hrt hlocks hS hP hD dX0_valueOf_143
set_option maxHeartbeats 4000000 in
set_option maxRecDepth 100000 in
theorem c_valueOf_10 (l : Launch) (D : va_G) (cI : ClassId) (x0 x1 x2 x3 : Nat) (V S M : Nat → Int32) (d a b : Nat) (hd : d < 16) (ha : a < 16) (hb' : b < 16) : sm_C l yX0_valueOf wsX0_valueOf ({ frames := 2, cells := 0, slots := 0, locals := 64 } : Room) D vwCl [(cI, .int)] [.ref x0, .int 10, .int (nI d), .int (nI a), .int (nI b)] (sm_wX cI x0 x1 x2 x3 V S M) (some (.int (sm_bI (decide (V a ^^^ (-2147483648) < V b ^^^ (-2147483648)))))) (sm_wX cI x0 x1 x2 x3 V S M) := by
  refine sm_start (cc := cX0_valueOf) (maxL := 7) (ret := some .int) (lv := [(0, .ref x0), (1, .int 10), (2, .int (nI d)), (3, .int (nI a)), (4, .int (nI b))]) (by decide) rfl (Nat.le_of_ble_eq_true rfl) rfl ?_
  intro p e s m below meth c hx hb hrt hts hown hlocks hml hin hK hP hD hS hA ls hl
  have hw := sm_hw hts
  refine lv_aload_n hx hb dX0_valueOf_0 rfl (lv_at hl 0 rfl) ?_
  refine va_get (D := D) (ci := 0) (v := .ref x1) (C := RX0) (T := TX0) (N := 3) hx hb hts inX0 hown hK hP 0 rfl rfl 0 (by decide) (hw 18 rfl) (fun _ h9 => h9) rfl dX0_valueOf_1 ?_
  refine lv_iload_n hx hb dX0_valueOf_4 rfl (lv_at hl 3 rfl) ?_
  refine va_iald hx hb hK hP 1 0 rfl rfl (vp_in_nI (n := a) (by omega) (by decide)) dX0_valueOf_5 ?_
  refine sm_eqi (y := V a) (sm_cl V (n := a) (by omega)) ?_
  refine lv_istore (lv' := [(5, .int (V a)), (0, .ref x0), (1, .int 10), (2, .int (nI d)), (3, .int (nI a)), (4, .int (nI b))]) hx hb dX0_valueOf_6 hl (by decide) rfl (fun ls hl => ?_)
  refine lv_aload_n hx hb dX0_valueOf_8 rfl (lv_at hl 1 rfl) ?_
  refine va_get (D := D) (ci := 0) (v := .ref x1) (C := RX0) (T := TX0) (N := 3) hx hb hts inX0 hown hK hP 0 rfl rfl 0 (by decide) (hw 18 rfl) (fun _ h9 => h9) rfl dX0_valueOf_9 ?_
  refine lv_iload hx hb dX0_valueOf_12 (lv_at hl 5 rfl) ?_
  refine va_iald hx hb hK hP 1 0 rfl rfl (vp_in_nI (n := b) (by omega) (by decide)) dX0_valueOf_14 ?_
  refine sm_eqi (y := V b) (sm_cl V (n := b) (by omega)) ?_
  refine lv_istore (lv' := [(6, .int (V b)), (5, .int (V a)), (0, .ref x0), (1, .int 10), (2, .int (nI d)), (3, .int (nI a)), (4, .int (nI b))]) hx hb dX0_valueOf_15 hl (by decide) rfl (fun ls hl => ?_)
  refine lv_iload_n hx hb dX0_valueOf_17 rfl (lv_at hl 3 rfl) ?_
  refine lv_tableIn (off := 126) (tgt := 144) hx hb dX0_valueOf_18 (by decide) (by decide) (by decide) (by decide) ?_
  refine lv_iload hx hb dX0_valueOf_144 (lv_at hl 1 rfl) ?_
  refine sm_callS (As := [.int (V a)]) (rest := []) (wr := (sm_wX cI x0 x1 x2 x3 V S M)) (wn := (sm_wX cI x0 x1 x2 x3 V S M)) (st1 := [.int ((V a) ^^^ (-2147483648))]) ⟨hx, hb, hml, hown, hts⟩ (c_signTurned l D (V a)) (va_cwS 1 hts (sm_gS (i1 := 132) (i2 := 133) (i4 := 1) (i5 := 134) rfl rfl rfl rfl) rfl rfl rfl (by decide +kernel) ⟨Nat.le_of_ble_eq_true rfl, Nat.le_of_ble_eq_true rfl⟩) hK [] rfl hP hD hS hA [] [0, 1, 2, 3] rfl rfl (by decide) (by decide) (by decide) rfl hl.1 rfl (Nat.le_of_ble_eq_true rfl) dX0_valueOf_146 ⟨Nat.le_of_ble_eq_true rfl, Nat.le_of_ble_eq_true rfl⟩ rfl rfl (fun H locs hP hD hS => ?_)
  refine lv_iload hx hb dX0_valueOf_149 (lv_at hl 0 rfl) ?_
  refine sm_callS (As := [.int (V b)]) (rest := [.int ((V a) ^^^ (-2147483648))]) (wr := (sm_wX cI x0 x1 x2 x3 V S M)) (wn := (sm_wX cI x0 x1 x2 x3 V S M)) (st1 := [.int ((V b) ^^^ (-2147483648)), .int ((V a) ^^^ (-2147483648))]) ⟨hx, hb, hml, hown, hts⟩ (c_signTurned l D (V b)) (va_cwS 1 hts (sm_gS (i1 := 132) (i2 := 133) (i4 := 1) (i5 := 134) rfl rfl rfl rfl) rfl rfl rfl (by decide +kernel) ⟨Nat.le_of_ble_eq_true rfl, Nat.le_of_ble_eq_true rfl⟩) hK [] rfl hP hD hS hA [] [0, 1, 2, 3] rfl rfl (by decide) (by decide) (by decide) rfl hl.1 rfl (Nat.le_of_ble_eq_true rfl) dX0_valueOf_151 ⟨Nat.le_of_ble_eq_true rfl, Nat.le_of_ble_eq_true rfl⟩ rfl rfl (fun H locs hP hD hS => ?_)
  refine lv_icmp_ge (tgt := 161) hx hb dX0_valueOf_154 rfl (fun h154 => ?_) (fun h154 => ?_)
  · refine lv_iconst (v := 0) hx hb dX0_valueOf_161 (by decide) ?_
    refine sm_callS (As := [.int (sm_bI false)]) (rest := []) (wr := (sm_wX cI x0 x1 x2 x3 V S M)) (wn := (sm_wX cI x0 x1 x2 x3 V S M)) (st1 := [.int (sm_bI false)]) ⟨hx, hb, hml, hown, hts⟩ (c_bit l D false) (va_cwS 1 hts (sm_gS (i1 := 129) (i2 := 130) (i4 := 1) (i5 := 131) rfl rfl rfl rfl) rfl rfl rfl (by decide +kernel) ⟨Nat.le_of_ble_eq_true rfl, Nat.le_of_ble_eq_true rfl⟩) hK [] rfl hP hD hS hA [] [0, 1, 2, 3] rfl rfl (by decide) (by decide) (by decide) rfl hl.1 rfl (Nat.le_of_ble_eq_true rfl) dX0_valueOf_162 ⟨Nat.le_of_ble_eq_true rfl, Nat.le_of_ble_eq_true rfl⟩ rfl rfl (fun H locs hP hD hS => ?_)
    refine sm_eqi (y := sm_bI (decide (V a ^^^ (-2147483648) < V b ^^^ (-2147483648)))) (by simp [sm_bI, h154]) ?_
    exact sm_iret hx hb hrt hlocks hS hP hD dX0_valueOf_165
  · refine lv_iconst (v := 1) hx hb dX0_valueOf_157 (by decide) ?_
    refine lv_goto (tgt := 162) hx hb dX0_valueOf_158 rfl ?_
    refine sm_callS (As := [.int (sm_bI true)]) (rest := []) (wr := (sm_wX cI x0 x1 x2 x3 V S M)) (wn := (sm_wX cI x0 x1 x2 x3 V S M)) (st1 := [.int (sm_bI true)]) ⟨hx, hb, hml, hown, hts⟩ (c_bit l D true) (va_cwS 1 hts (sm_gS (i1 := 129) (i2 := 130) (i4 := 1) (i5 := 131) rfl rfl rfl rfl) rfl rfl rfl (by decide +kernel) ⟨Nat.le_of_ble_eq_true rfl, Nat.le_of_ble_eq_true rfl⟩) hK [] rfl hP hD hS hA [] [0, 1, 2, 3] rfl rfl (by decide) (by decide) (by decide) rfl hl.1 rfl (Nat.le_of_ble_eq_true rfl) dX0_valueOf_162 ⟨Nat.le_of_ble_eq_true rfl, Nat.le_of_ble_eq_true rfl⟩ rfl rfl (fun H locs hP hD hS => ?_)
    refine sm_eqi (y := sm_bI (decide (V a ^^^ (-2147483648) < V b ^^^ (-2147483648)))) (by simp [sm_bI, h154]) ?_
    exact sm_iret hx hb hrt hlocks hS hP hD dX0_valueOf_165
set_option maxHeartbeats 4000000 in
set_option maxRecDepth 100000 in
theorem c_valueOf_11 (l : Launch) (D : va_G) (cI : ClassId) (x0 x1 x2 x3 : Nat) (V S M : Nat → Int32) (d a b : Nat) (hd : d < 16) (ha : a < 16) (hb' : b < 16) : sm_C l yX0_valueOf wsX0_valueOf ({ frames := 2, cells := 0, slots := 0, locals := 64 } : Room) D vwCl [(cI, .int)] [.ref x0, .int 11, .int (nI d), .int (nI a), .int (nI b)] (sm_wX cI x0 x1 x2 x3 V S M) (some (.int (sm_bI (decide (V a = V b))))) (sm_wX cI x0 x1 x2 x3 V S M) := by
  refine sm_start (cc := cX0_valueOf) (maxL := 7) (ret := some .int) (lv := [(0, .ref x0), (1, .int 11), (2, .int (nI d)), (3, .int (nI a)), (4, .int (nI b))]) (by decide) rfl (Nat.le_of_ble_eq_true rfl) rfl ?_
  intro p e s m below meth c hx hb hrt hts hown hlocks hml hin hK hP hD hS hA ls hl
  have hw := sm_hw hts
  refine lv_aload_n hx hb dX0_valueOf_0 rfl (lv_at hl 0 rfl) ?_
  refine va_get (D := D) (ci := 0) (v := .ref x1) (C := RX0) (T := TX0) (N := 3) hx hb hts inX0 hown hK hP 0 rfl rfl 0 (by decide) (hw 18 rfl) (fun _ h9 => h9) rfl dX0_valueOf_1 ?_
  refine lv_iload_n hx hb dX0_valueOf_4 rfl (lv_at hl 3 rfl) ?_
  refine va_iald hx hb hK hP 1 0 rfl rfl (vp_in_nI (n := a) (by omega) (by decide)) dX0_valueOf_5 ?_
  refine sm_eqi (y := V a) (sm_cl V (n := a) (by omega)) ?_
  refine lv_istore (lv' := [(5, .int (V a)), (0, .ref x0), (1, .int 11), (2, .int (nI d)), (3, .int (nI a)), (4, .int (nI b))]) hx hb dX0_valueOf_6 hl (by decide) rfl (fun ls hl => ?_)
  refine lv_aload_n hx hb dX0_valueOf_8 rfl (lv_at hl 1 rfl) ?_
  refine va_get (D := D) (ci := 0) (v := .ref x1) (C := RX0) (T := TX0) (N := 3) hx hb hts inX0 hown hK hP 0 rfl rfl 0 (by decide) (hw 18 rfl) (fun _ h9 => h9) rfl dX0_valueOf_9 ?_
  refine lv_iload hx hb dX0_valueOf_12 (lv_at hl 5 rfl) ?_
  refine va_iald hx hb hK hP 1 0 rfl rfl (vp_in_nI (n := b) (by omega) (by decide)) dX0_valueOf_14 ?_
  refine sm_eqi (y := V b) (sm_cl V (n := b) (by omega)) ?_
  refine lv_istore (lv' := [(6, .int (V b)), (5, .int (V a)), (0, .ref x0), (1, .int 11), (2, .int (nI d)), (3, .int (nI a)), (4, .int (nI b))]) hx hb dX0_valueOf_15 hl (by decide) rfl (fun ls hl => ?_)
  refine lv_iload_n hx hb dX0_valueOf_17 rfl (lv_at hl 3 rfl) ?_
  refine lv_tableIn (off := 148) (tgt := 166) hx hb dX0_valueOf_18 (by decide) (by decide) (by decide) (by decide) ?_
  refine lv_iload hx hb dX0_valueOf_166 (lv_at hl 1 rfl) ?_
  refine lv_iload hx hb dX0_valueOf_168 (lv_at hl 0 rfl) ?_
  refine lv_icmp_ne (tgt := 177) hx hb dX0_valueOf_170 rfl (fun h170 => ?_) (fun h170 => ?_)
  · refine lv_iconst (v := 0) hx hb dX0_valueOf_177 (by decide) ?_
    refine sm_callS (As := [.int (sm_bI false)]) (rest := []) (wr := (sm_wX cI x0 x1 x2 x3 V S M)) (wn := (sm_wX cI x0 x1 x2 x3 V S M)) (st1 := [.int (sm_bI false)]) ⟨hx, hb, hml, hown, hts⟩ (c_bit l D false) (va_cwS 1 hts (sm_gS (i1 := 129) (i2 := 130) (i4 := 1) (i5 := 131) rfl rfl rfl rfl) rfl rfl rfl (by decide +kernel) ⟨Nat.le_of_ble_eq_true rfl, Nat.le_of_ble_eq_true rfl⟩) hK [] rfl hP hD hS hA [] [0, 1, 2, 3] rfl rfl (by decide) (by decide) (by decide) rfl hl.1 rfl (Nat.le_of_ble_eq_true rfl) dX0_valueOf_178 ⟨Nat.le_of_ble_eq_true rfl, Nat.le_of_ble_eq_true rfl⟩ rfl rfl (fun H locs hP hD hS => ?_)
    refine sm_eqi (y := sm_bI (decide (V a = V b))) (by simp [sm_bI, h170]) ?_
    exact sm_iret hx hb hrt hlocks hS hP hD dX0_valueOf_181
  · refine lv_iconst (v := 1) hx hb dX0_valueOf_173 (by decide) ?_
    refine lv_goto (tgt := 178) hx hb dX0_valueOf_174 rfl ?_
    refine sm_callS (As := [.int (sm_bI true)]) (rest := []) (wr := (sm_wX cI x0 x1 x2 x3 V S M)) (wn := (sm_wX cI x0 x1 x2 x3 V S M)) (st1 := [.int (sm_bI true)]) ⟨hx, hb, hml, hown, hts⟩ (c_bit l D true) (va_cwS 1 hts (sm_gS (i1 := 129) (i2 := 130) (i4 := 1) (i5 := 131) rfl rfl rfl rfl) rfl rfl rfl (by decide +kernel) ⟨Nat.le_of_ble_eq_true rfl, Nat.le_of_ble_eq_true rfl⟩) hK [] rfl hP hD hS hA [] [0, 1, 2, 3] rfl rfl (by decide) (by decide) (by decide) rfl hl.1 rfl (Nat.le_of_ble_eq_true rfl) dX0_valueOf_178 ⟨Nat.le_of_ble_eq_true rfl, Nat.le_of_ble_eq_true rfl⟩ rfl rfl (fun H locs hP hD hS => ?_)
    refine sm_eqi (y := sm_bI (decide (V a = V b))) (by simp [sm_bI, h170]) ?_
    exact sm_iret hx hb hrt hlocks hS hP hD dX0_valueOf_181
set_option maxHeartbeats 4000000 in
set_option maxRecDepth 100000 in
theorem c_valueOf_12 (l : Launch) (D : va_G) (cI : ClassId) (x0 x1 x2 x3 : Nat) (V S M : Nat → Int32) (d a b : Nat) (hd : d < 16) (ha : a < 16) (hb' : b < 16) : sm_C l yX0_valueOf wsX0_valueOf ({ frames := 2, cells := 0, slots := 0, locals := 64 } : Room) D vwCl [(cI, .int)] [.ref x0, .int 12, .int (nI d), .int (nI a), .int (nI b)] (sm_wX cI x0 x1 x2 x3 V S M) (some (.int (if bt (V b) 0 then V a else V d))) (sm_wX cI x0 x1 x2 x3 V S M) := by
  refine sm_start (cc := cX0_valueOf) (maxL := 7) (ret := some .int) (lv := [(0, .ref x0), (1, .int 12), (2, .int (nI d)), (3, .int (nI a)), (4, .int (nI b))]) (by decide) rfl (Nat.le_of_ble_eq_true rfl) rfl ?_
  intro p e s m below meth c hx hb hrt hts hown hlocks hml hin hK hP hD hS hA ls hl
  have hw := sm_hw hts
  refine lv_aload_n hx hb dX0_valueOf_0 rfl (lv_at hl 0 rfl) ?_
  refine va_get (D := D) (ci := 0) (v := .ref x1) (C := RX0) (T := TX0) (N := 3) hx hb hts inX0 hown hK hP 0 rfl rfl 0 (by decide) (hw 18 rfl) (fun _ h9 => h9) rfl dX0_valueOf_1 ?_
  refine lv_iload_n hx hb dX0_valueOf_4 rfl (lv_at hl 3 rfl) ?_
  refine va_iald hx hb hK hP 1 0 rfl rfl (vp_in_nI (n := a) (by omega) (by decide)) dX0_valueOf_5 ?_
  refine sm_eqi (y := V a) (sm_cl V (n := a) (by omega)) ?_
  refine lv_istore (lv' := [(5, .int (V a)), (0, .ref x0), (1, .int 12), (2, .int (nI d)), (3, .int (nI a)), (4, .int (nI b))]) hx hb dX0_valueOf_6 hl (by decide) rfl (fun ls hl => ?_)
  refine lv_aload_n hx hb dX0_valueOf_8 rfl (lv_at hl 1 rfl) ?_
  refine va_get (D := D) (ci := 0) (v := .ref x1) (C := RX0) (T := TX0) (N := 3) hx hb hts inX0 hown hK hP 0 rfl rfl 0 (by decide) (hw 18 rfl) (fun _ h9 => h9) rfl dX0_valueOf_9 ?_
  refine lv_iload hx hb dX0_valueOf_12 (lv_at hl 5 rfl) ?_
  refine va_iald hx hb hK hP 1 0 rfl rfl (vp_in_nI (n := b) (by omega) (by decide)) dX0_valueOf_14 ?_
  refine sm_eqi (y := V b) (sm_cl V (n := b) (by omega)) ?_
  refine lv_istore (lv' := [(6, .int (V b)), (5, .int (V a)), (0, .ref x0), (1, .int 12), (2, .int (nI d)), (3, .int (nI a)), (4, .int (nI b))]) hx hb dX0_valueOf_15 hl (by decide) rfl (fun ls hl => ?_)
  refine lv_iload_n hx hb dX0_valueOf_17 rfl (lv_at hl 3 rfl) ?_
  refine lv_tableOut (tgt := 182) hx hb dX0_valueOf_18 (Or.inr (by decide)) (by decide) ?_
  refine lv_aload_n hx hb dX0_valueOf_182 rfl (lv_at hl 2 rfl) ?_
  refine lv_iload hx hb dX0_valueOf_183 (lv_at hl 6 rfl) ?_
  refine sm_callV (C := RX0) (As := [.int (nI b)]) (rest := []) (wr := []) (wn := (sm_wX cI x0 x1 x2 x3 V S M)) (st1 := [.int (sm_bI (bt (V b) 0))]) ⟨hx, hb, hml, hown, hts⟩ (c_chosen l D cI x0 x1 x2 x3 V S M b (by omega)) (cwV 1 hts (sm_gV (i1 := 136) (i2 := 137) (i3 := 345) (i4 := 1) (i5 := 138) rfl rfl rfl rfl rfl) rfl rfl rfl (by decide +kernel) ⟨Nat.le_of_ble_eq_true rfl, Nat.le_of_ble_eq_true rfl⟩) hK [0] rfl hP hD hS hA 0 rfl rfl [0, 1, 2, 3] [] rfl rfl (by decide) (by decide) (by decide) rfl hl.1 rfl (Nat.le_of_ble_eq_true rfl) dX0_valueOf_185 ⟨Nat.le_of_ble_eq_true rfl, Nat.le_of_ble_eq_true rfl⟩ rfl rfl (fun H locs hP hD hS => ?_)
  refine sm_ifb_eq (tgt := 196) hx hb dX0_valueOf_188 rfl (fun h188 => ?_) (fun h188 => ?_)
  · refine lv_aload_n hx hb dX0_valueOf_196 rfl (lv_at hl 2 rfl) ?_
    refine va_get (D := D) (ci := 0) (v := .ref x1) (C := RX0) (T := TX0) (N := 3) hx hb hts inX0 hown hK hP 0 rfl rfl 0 (by decide) (hw 18 rfl) (fun _ h9 => h9) rfl dX0_valueOf_197 ?_
    refine lv_iload_n hx hb dX0_valueOf_200 rfl (lv_at hl 4 rfl) ?_
    refine va_iald hx hb hK hP 1 0 rfl rfl (vp_in_nI (n := d) (by omega) (by decide)) dX0_valueOf_201 ?_
    refine sm_eqi (y := V d) (sm_cl V (n := d) (by omega)) ?_
    refine sm_eqi (y := if bt (V b) 0 then V a else V d) (by simp [sm_bI, h188]) ?_
    exact sm_iret hx hb hrt hlocks hS hP hD dX0_valueOf_202
  · refine lv_iload hx hb dX0_valueOf_191 (lv_at hl 1 rfl) ?_
    refine lv_goto (tgt := 202) hx hb dX0_valueOf_193 rfl ?_
    refine sm_eqi (y := if bt (V b) 0 then V a else V d) (by simp [sm_bI, h188]) ?_
    exact sm_iret hx hb hrt hlocks hS hP hD dX0_valueOf_202
set_option maxHeartbeats 4000000 in
set_option maxRecDepth 100000 in
theorem c_shadowOf_0 (l : Launch) (D : va_G) (cI : ClassId) (x0 x1 x2 x3 : Nat) (V S M : Nat → Int32) (d a b : Nat) (hd : d < 16) (ha : a < 16) (hb' : b < 16) : sm_C l yX0_shadowOf wsX0_shadowOf ({ frames := 3, cells := 0, slots := 0, locals := 96 } : Room) D vwCl [(cI, .int)] [.ref x0, .int 0, .int (nI d), .int (nI a), .int (nI b)] (sm_wX cI x0 x1 x2 x3 V S M) (some (.int (sm_fr (sm_tz (S a ||| S b))))) (sm_wX cI x0 x1 x2 x3 V S M) := by
  refine sm_start (cc := cX0_shadowOf) (maxL := 9) (ret := some .int) (lv := [(0, .ref x0), (1, .int 0), (2, .int (nI d)), (3, .int (nI a)), (4, .int (nI b))]) (by decide) rfl (Nat.le_of_ble_eq_true rfl) rfl ?_
  intro p e s m below meth c hx hb hrt hts hown hlocks hml hin hK hP hD hS hA ls hl
  have hw := sm_hw hts
  have q1 := sm_tz_le (S a)
  have q2 := sm_tz_le (S b)
  have q3 := sm_tz_le (V b ||| S b)
  have q4 := sm_tz_le (V a ||| S a)
  have q5 := sm_tz_le (S a ||| S b)
  have q6 := sm_min_le (sm_tz (S a) + sm_tz (V b ||| S b)) (sm_tz (S b) + sm_tz (V a ||| S a))
  refine lv_aload_n hx hb dX0_shadowOf_0 rfl (lv_at hl 0 rfl) ?_
  refine va_get (D := D) (ci := 0) (v := .ref x1) (C := RX0) (T := TX0) (N := 3) hx hb hts inX0 hown hK hP 0 rfl rfl 0 (by decide) (hw 18 rfl) (fun _ h9 => h9) rfl dX0_shadowOf_1 ?_
  refine lv_iload_n hx hb dX0_shadowOf_4 rfl (lv_at hl 3 rfl) ?_
  refine va_iald hx hb hK hP 1 0 rfl rfl (vp_in_nI (n := a) (by omega) (by decide)) dX0_shadowOf_5 ?_
  refine sm_eqi (y := V a) (sm_cl V (n := a) (by omega)) ?_
  refine lv_istore (lv' := [(5, .int (V a)), (0, .ref x0), (1, .int 0), (2, .int (nI d)), (3, .int (nI a)), (4, .int (nI b))]) hx hb dX0_shadowOf_6 hl (by decide) rfl (fun ls hl => ?_)
  refine lv_aload_n hx hb dX0_shadowOf_8 rfl (lv_at hl 1 rfl) ?_
  refine va_get (D := D) (ci := 0) (v := .ref x1) (C := RX0) (T := TX0) (N := 3) hx hb hts inX0 hown hK hP 0 rfl rfl 0 (by decide) (hw 18 rfl) (fun _ h9 => h9) rfl dX0_shadowOf_9 ?_
  refine lv_iload hx hb dX0_shadowOf_12 (lv_at hl 5 rfl) ?_
  refine va_iald hx hb hK hP 1 0 rfl rfl (vp_in_nI (n := b) (by omega) (by decide)) dX0_shadowOf_14 ?_
  refine sm_eqi (y := V b) (sm_cl V (n := b) (by omega)) ?_
  refine lv_istore (lv' := [(6, .int (V b)), (5, .int (V a)), (0, .ref x0), (1, .int 0), (2, .int (nI d)), (3, .int (nI a)), (4, .int (nI b))]) hx hb dX0_shadowOf_15 hl (by decide) rfl (fun ls hl => ?_)
  refine lv_aload_n hx hb dX0_shadowOf_17 rfl (lv_at hl 2 rfl) ?_
  refine va_get (D := D) (ci := 0) (v := .ref x2) (C := RX0) (T := TX0) (N := 3) hx hb hts inX0 hown hK hP 0 rfl rfl 1 (by decide) (hw 19 rfl) (fun _ h9 => h9) rfl dX0_shadowOf_18 ?_
  refine lv_iload_n hx hb dX0_shadowOf_21 rfl (lv_at hl 5 rfl) ?_
  refine va_iald hx hb hK hP 2 0 rfl rfl (vp_in_nI (n := a) (by omega) (by decide)) dX0_shadowOf_22 ?_
  refine sm_eqi (y := S a) (sm_cl S (n := a) (by omega)) ?_
  refine lv_istore (lv' := [(7, .int (S a)), (6, .int (V b)), (5, .int (V a)), (0, .ref x0), (1, .int 0), (2, .int (nI d)), (3, .int (nI a)), (4, .int (nI b))]) hx hb dX0_shadowOf_23 hl (by decide) rfl (fun ls hl => ?_)
  refine lv_aload_n hx hb dX0_shadowOf_25 rfl (lv_at hl 3 rfl) ?_
  refine va_get (D := D) (ci := 0) (v := .ref x2) (C := RX0) (T := TX0) (N := 3) hx hb hts inX0 hown hK hP 0 rfl rfl 1 (by decide) (hw 19 rfl) (fun _ h9 => h9) rfl dX0_shadowOf_26 ?_
  refine lv_iload hx hb dX0_shadowOf_29 (lv_at hl 7 rfl) ?_
  refine va_iald hx hb hK hP 2 0 rfl rfl (vp_in_nI (n := b) (by omega) (by decide)) dX0_shadowOf_31 ?_
  refine sm_eqi (y := S b) (sm_cl S (n := b) (by omega)) ?_
  refine lv_istore (lv' := [(8, .int (S b)), (7, .int (S a)), (6, .int (V b)), (5, .int (V a)), (0, .ref x0), (1, .int 0), (2, .int (nI d)), (3, .int (nI a)), (4, .int (nI b))]) hx hb dX0_shadowOf_32 hl (by decide) rfl (fun ls hl => ?_)
  refine lv_iload_n hx hb dX0_shadowOf_34 rfl (lv_at hl 5 rfl) ?_
  refine lv_tableIn (off := 61) (tgt := 96) hx hb dX0_shadowOf_35 (by decide) (by decide) (by decide) (by decide) ?_
  refine lv_iload hx hb dX0_shadowOf_96 (lv_at hl 1 rfl) ?_
  refine lv_iload hx hb dX0_shadowOf_98 (lv_at hl 0 rfl) ?_
  refine lv_ior hx hb dX0_shadowOf_100 ?_
  refine sm_callS (As := [.int ((S a) ||| (S b))]) (rest := []) (wr := (sm_wX cI x0 x1 x2 x3 V S M)) (wn := (sm_wX cI x0 x1 x2 x3 V S M)) (st1 := [.int (nI (sm_tz ((S a) ||| (S b))))]) ⟨hx, hb, hml, hown, hts⟩ (c_ntz l D ((S a) ||| (S b))) (va_cwS 1 hts (sm_gS (i1 := 142) (i2 := 143) (i4 := 8) (i5 := 144) rfl rfl rfl rfl) rfl rfl rfl (by decide +kernel) ⟨Nat.le_of_ble_eq_true rfl, Nat.le_of_ble_eq_true rfl⟩) hK [] rfl hP hD hS hA [] [0, 1, 2, 3] rfl rfl (by decide) (by decide) (by decide) rfl hl.1 rfl (Nat.le_of_ble_eq_true rfl) dX0_shadowOf_101 ⟨Nat.le_of_ble_eq_true rfl, Nat.le_of_ble_eq_true rfl⟩ rfl rfl (fun H locs hP hD hS => ?_)
  refine sm_callS (As := [.int (nI (sm_tz ((S a) ||| (S b))))]) (rest := []) (wr := (sm_wX cI x0 x1 x2 x3 V S M)) (wn := (sm_wX cI x0 x1 x2 x3 V S M)) (st1 := [.int (sm_fr (sm_tz ((S a) ||| (S b))))]) ⟨hx, hb, hml, hown, hts⟩ (c_fromPlaceOn l D (sm_tz ((S a) ||| (S b))) (by omega)) (va_cwS 1 hts (sm_gS (i1 := 146) (i2 := 147) (i4 := 1) (i5 := 148) rfl rfl rfl rfl) rfl rfl rfl (by decide +kernel) ⟨Nat.le_of_ble_eq_true rfl, Nat.le_of_ble_eq_true rfl⟩) hK [] rfl hP hD hS hA [] [0, 1, 2, 3] rfl rfl (by decide) (by decide) (by decide) rfl hl.1 rfl (Nat.le_of_ble_eq_true rfl) dX0_shadowOf_104 ⟨Nat.le_of_ble_eq_true rfl, Nat.le_of_ble_eq_true rfl⟩ rfl rfl (fun H locs hP hD hS => ?_)
  refine sm_eqi (y := sm_fr (sm_tz (S a ||| S b))) (rfl) ?_
  exact sm_iret hx hb hrt hlocks hS hP hD dX0_shadowOf_107
set_option maxHeartbeats 4000000 in
set_option maxRecDepth 100000 in
theorem c_shadowOf_1 (l : Launch) (D : va_G) (cI : ClassId) (x0 x1 x2 x3 : Nat) (V S M : Nat → Int32) (d a b : Nat) (hd : d < 16) (ha : a < 16) (hb' : b < 16) : sm_C l yX0_shadowOf wsX0_shadowOf ({ frames := 3, cells := 0, slots := 0, locals := 96 } : Room) D vwCl [(cI, .int)] [.ref x0, .int 1, .int (nI d), .int (nI a), .int (nI b)] (sm_wX cI x0 x1 x2 x3 V S M) (some (.int (sm_fr (sm_tz (S a ||| S b))))) (sm_wX cI x0 x1 x2 x3 V S M) := by
  refine sm_start (cc := cX0_shadowOf) (maxL := 9) (ret := some .int) (lv := [(0, .ref x0), (1, .int 1), (2, .int (nI d)), (3, .int (nI a)), (4, .int (nI b))]) (by decide) rfl (Nat.le_of_ble_eq_true rfl) rfl ?_
  intro p e s m below meth c hx hb hrt hts hown hlocks hml hin hK hP hD hS hA ls hl
  have hw := sm_hw hts
  have q1 := sm_tz_le (S a)
  have q2 := sm_tz_le (S b)
  have q3 := sm_tz_le (V b ||| S b)
  have q4 := sm_tz_le (V a ||| S a)
  have q5 := sm_tz_le (S a ||| S b)
  have q6 := sm_min_le (sm_tz (S a) + sm_tz (V b ||| S b)) (sm_tz (S b) + sm_tz (V a ||| S a))
  refine lv_aload_n hx hb dX0_shadowOf_0 rfl (lv_at hl 0 rfl) ?_
  refine va_get (D := D) (ci := 0) (v := .ref x1) (C := RX0) (T := TX0) (N := 3) hx hb hts inX0 hown hK hP 0 rfl rfl 0 (by decide) (hw 18 rfl) (fun _ h9 => h9) rfl dX0_shadowOf_1 ?_
  refine lv_iload_n hx hb dX0_shadowOf_4 rfl (lv_at hl 3 rfl) ?_
  refine va_iald hx hb hK hP 1 0 rfl rfl (vp_in_nI (n := a) (by omega) (by decide)) dX0_shadowOf_5 ?_
  refine sm_eqi (y := V a) (sm_cl V (n := a) (by omega)) ?_
  refine lv_istore (lv' := [(5, .int (V a)), (0, .ref x0), (1, .int 1), (2, .int (nI d)), (3, .int (nI a)), (4, .int (nI b))]) hx hb dX0_shadowOf_6 hl (by decide) rfl (fun ls hl => ?_)
  refine lv_aload_n hx hb dX0_shadowOf_8 rfl (lv_at hl 1 rfl) ?_
  refine va_get (D := D) (ci := 0) (v := .ref x1) (C := RX0) (T := TX0) (N := 3) hx hb hts inX0 hown hK hP 0 rfl rfl 0 (by decide) (hw 18 rfl) (fun _ h9 => h9) rfl dX0_shadowOf_9 ?_
  refine lv_iload hx hb dX0_shadowOf_12 (lv_at hl 5 rfl) ?_
  refine va_iald hx hb hK hP 1 0 rfl rfl (vp_in_nI (n := b) (by omega) (by decide)) dX0_shadowOf_14 ?_
  refine sm_eqi (y := V b) (sm_cl V (n := b) (by omega)) ?_
  refine lv_istore (lv' := [(6, .int (V b)), (5, .int (V a)), (0, .ref x0), (1, .int 1), (2, .int (nI d)), (3, .int (nI a)), (4, .int (nI b))]) hx hb dX0_shadowOf_15 hl (by decide) rfl (fun ls hl => ?_)
  refine lv_aload_n hx hb dX0_shadowOf_17 rfl (lv_at hl 2 rfl) ?_
  refine va_get (D := D) (ci := 0) (v := .ref x2) (C := RX0) (T := TX0) (N := 3) hx hb hts inX0 hown hK hP 0 rfl rfl 1 (by decide) (hw 19 rfl) (fun _ h9 => h9) rfl dX0_shadowOf_18 ?_
  refine lv_iload_n hx hb dX0_shadowOf_21 rfl (lv_at hl 5 rfl) ?_
  refine va_iald hx hb hK hP 2 0 rfl rfl (vp_in_nI (n := a) (by omega) (by decide)) dX0_shadowOf_22 ?_
  refine sm_eqi (y := S a) (sm_cl S (n := a) (by omega)) ?_
  refine lv_istore (lv' := [(7, .int (S a)), (6, .int (V b)), (5, .int (V a)), (0, .ref x0), (1, .int 1), (2, .int (nI d)), (3, .int (nI a)), (4, .int (nI b))]) hx hb dX0_shadowOf_23 hl (by decide) rfl (fun ls hl => ?_)
  refine lv_aload_n hx hb dX0_shadowOf_25 rfl (lv_at hl 3 rfl) ?_
  refine va_get (D := D) (ci := 0) (v := .ref x2) (C := RX0) (T := TX0) (N := 3) hx hb hts inX0 hown hK hP 0 rfl rfl 1 (by decide) (hw 19 rfl) (fun _ h9 => h9) rfl dX0_shadowOf_26 ?_
  refine lv_iload hx hb dX0_shadowOf_29 (lv_at hl 7 rfl) ?_
  refine va_iald hx hb hK hP 2 0 rfl rfl (vp_in_nI (n := b) (by omega) (by decide)) dX0_shadowOf_31 ?_
  refine sm_eqi (y := S b) (sm_cl S (n := b) (by omega)) ?_
  refine lv_istore (lv' := [(8, .int (S b)), (7, .int (S a)), (6, .int (V b)), (5, .int (V a)), (0, .ref x0), (1, .int 1), (2, .int (nI d)), (3, .int (nI a)), (4, .int (nI b))]) hx hb dX0_shadowOf_32 hl (by decide) rfl (fun ls hl => ?_)
  refine lv_iload_n hx hb dX0_shadowOf_34 rfl (lv_at hl 5 rfl) ?_
  refine lv_tableIn (off := 61) (tgt := 96) hx hb dX0_shadowOf_35 (by decide) (by decide) (by decide) (by decide) ?_
  refine lv_iload hx hb dX0_shadowOf_96 (lv_at hl 1 rfl) ?_
  refine lv_iload hx hb dX0_shadowOf_98 (lv_at hl 0 rfl) ?_
  refine lv_ior hx hb dX0_shadowOf_100 ?_
  refine sm_callS (As := [.int ((S a) ||| (S b))]) (rest := []) (wr := (sm_wX cI x0 x1 x2 x3 V S M)) (wn := (sm_wX cI x0 x1 x2 x3 V S M)) (st1 := [.int (nI (sm_tz ((S a) ||| (S b))))]) ⟨hx, hb, hml, hown, hts⟩ (c_ntz l D ((S a) ||| (S b))) (va_cwS 1 hts (sm_gS (i1 := 142) (i2 := 143) (i4 := 8) (i5 := 144) rfl rfl rfl rfl) rfl rfl rfl (by decide +kernel) ⟨Nat.le_of_ble_eq_true rfl, Nat.le_of_ble_eq_true rfl⟩) hK [] rfl hP hD hS hA [] [0, 1, 2, 3] rfl rfl (by decide) (by decide) (by decide) rfl hl.1 rfl (Nat.le_of_ble_eq_true rfl) dX0_shadowOf_101 ⟨Nat.le_of_ble_eq_true rfl, Nat.le_of_ble_eq_true rfl⟩ rfl rfl (fun H locs hP hD hS => ?_)
  refine sm_callS (As := [.int (nI (sm_tz ((S a) ||| (S b))))]) (rest := []) (wr := (sm_wX cI x0 x1 x2 x3 V S M)) (wn := (sm_wX cI x0 x1 x2 x3 V S M)) (st1 := [.int (sm_fr (sm_tz ((S a) ||| (S b))))]) ⟨hx, hb, hml, hown, hts⟩ (c_fromPlaceOn l D (sm_tz ((S a) ||| (S b))) (by omega)) (va_cwS 1 hts (sm_gS (i1 := 146) (i2 := 147) (i4 := 1) (i5 := 148) rfl rfl rfl rfl) rfl rfl rfl (by decide +kernel) ⟨Nat.le_of_ble_eq_true rfl, Nat.le_of_ble_eq_true rfl⟩) hK [] rfl hP hD hS hA [] [0, 1, 2, 3] rfl rfl (by decide) (by decide) (by decide) rfl hl.1 rfl (Nat.le_of_ble_eq_true rfl) dX0_shadowOf_104 ⟨Nat.le_of_ble_eq_true rfl, Nat.le_of_ble_eq_true rfl⟩ rfl rfl (fun H locs hP hD hS => ?_)
  refine sm_eqi (y := sm_fr (sm_tz (S a ||| S b))) (rfl) ?_
  exact sm_iret hx hb hrt hlocks hS hP hD dX0_shadowOf_107
set_option maxHeartbeats 4000000 in
set_option maxRecDepth 100000 in
theorem c_shadowOf_2 (l : Launch) (D : va_G) (cI : ClassId) (x0 x1 x2 x3 : Nat) (V S M : Nat → Int32) (d a b : Nat) (hd : d < 16) (ha : a < 16) (hb' : b < 16) : sm_C l yX0_shadowOf wsX0_shadowOf ({ frames := 3, cells := 0, slots := 0, locals := 96 } : Room) D vwCl [(cI, .int)] [.ref x0, .int 2, .int (nI d), .int (nI a), .int (nI b)] (sm_wX cI x0 x1 x2 x3 V S M) (some (.int ((S a ||| S b) &&& (S a ||| V a) &&& (S b ||| V b)))) (sm_wX cI x0 x1 x2 x3 V S M) := by
  refine sm_start (cc := cX0_shadowOf) (maxL := 9) (ret := some .int) (lv := [(0, .ref x0), (1, .int 2), (2, .int (nI d)), (3, .int (nI a)), (4, .int (nI b))]) (by decide) rfl (Nat.le_of_ble_eq_true rfl) rfl ?_
  intro p e s m below meth c hx hb hrt hts hown hlocks hml hin hK hP hD hS hA ls hl
  have hw := sm_hw hts
  have q1 := sm_tz_le (S a)
  have q2 := sm_tz_le (S b)
  have q3 := sm_tz_le (V b ||| S b)
  have q4 := sm_tz_le (V a ||| S a)
  have q5 := sm_tz_le (S a ||| S b)
  have q6 := sm_min_le (sm_tz (S a) + sm_tz (V b ||| S b)) (sm_tz (S b) + sm_tz (V a ||| S a))
  refine lv_aload_n hx hb dX0_shadowOf_0 rfl (lv_at hl 0 rfl) ?_
  refine va_get (D := D) (ci := 0) (v := .ref x1) (C := RX0) (T := TX0) (N := 3) hx hb hts inX0 hown hK hP 0 rfl rfl 0 (by decide) (hw 18 rfl) (fun _ h9 => h9) rfl dX0_shadowOf_1 ?_
  refine lv_iload_n hx hb dX0_shadowOf_4 rfl (lv_at hl 3 rfl) ?_
  refine va_iald hx hb hK hP 1 0 rfl rfl (vp_in_nI (n := a) (by omega) (by decide)) dX0_shadowOf_5 ?_
  refine sm_eqi (y := V a) (sm_cl V (n := a) (by omega)) ?_
  refine lv_istore (lv' := [(5, .int (V a)), (0, .ref x0), (1, .int 2), (2, .int (nI d)), (3, .int (nI a)), (4, .int (nI b))]) hx hb dX0_shadowOf_6 hl (by decide) rfl (fun ls hl => ?_)
  refine lv_aload_n hx hb dX0_shadowOf_8 rfl (lv_at hl 1 rfl) ?_
  refine va_get (D := D) (ci := 0) (v := .ref x1) (C := RX0) (T := TX0) (N := 3) hx hb hts inX0 hown hK hP 0 rfl rfl 0 (by decide) (hw 18 rfl) (fun _ h9 => h9) rfl dX0_shadowOf_9 ?_
  refine lv_iload hx hb dX0_shadowOf_12 (lv_at hl 5 rfl) ?_
  refine va_iald hx hb hK hP 1 0 rfl rfl (vp_in_nI (n := b) (by omega) (by decide)) dX0_shadowOf_14 ?_
  refine sm_eqi (y := V b) (sm_cl V (n := b) (by omega)) ?_
  refine lv_istore (lv' := [(6, .int (V b)), (5, .int (V a)), (0, .ref x0), (1, .int 2), (2, .int (nI d)), (3, .int (nI a)), (4, .int (nI b))]) hx hb dX0_shadowOf_15 hl (by decide) rfl (fun ls hl => ?_)
  refine lv_aload_n hx hb dX0_shadowOf_17 rfl (lv_at hl 2 rfl) ?_
  refine va_get (D := D) (ci := 0) (v := .ref x2) (C := RX0) (T := TX0) (N := 3) hx hb hts inX0 hown hK hP 0 rfl rfl 1 (by decide) (hw 19 rfl) (fun _ h9 => h9) rfl dX0_shadowOf_18 ?_
  refine lv_iload_n hx hb dX0_shadowOf_21 rfl (lv_at hl 5 rfl) ?_
  refine va_iald hx hb hK hP 2 0 rfl rfl (vp_in_nI (n := a) (by omega) (by decide)) dX0_shadowOf_22 ?_
  refine sm_eqi (y := S a) (sm_cl S (n := a) (by omega)) ?_
  refine lv_istore (lv' := [(7, .int (S a)), (6, .int (V b)), (5, .int (V a)), (0, .ref x0), (1, .int 2), (2, .int (nI d)), (3, .int (nI a)), (4, .int (nI b))]) hx hb dX0_shadowOf_23 hl (by decide) rfl (fun ls hl => ?_)
  refine lv_aload_n hx hb dX0_shadowOf_25 rfl (lv_at hl 3 rfl) ?_
  refine va_get (D := D) (ci := 0) (v := .ref x2) (C := RX0) (T := TX0) (N := 3) hx hb hts inX0 hown hK hP 0 rfl rfl 1 (by decide) (hw 19 rfl) (fun _ h9 => h9) rfl dX0_shadowOf_26 ?_
  refine lv_iload hx hb dX0_shadowOf_29 (lv_at hl 7 rfl) ?_
  refine va_iald hx hb hK hP 2 0 rfl rfl (vp_in_nI (n := b) (by omega) (by decide)) dX0_shadowOf_31 ?_
  refine sm_eqi (y := S b) (sm_cl S (n := b) (by omega)) ?_
  refine lv_istore (lv' := [(8, .int (S b)), (7, .int (S a)), (6, .int (V b)), (5, .int (V a)), (0, .ref x0), (1, .int 2), (2, .int (nI d)), (3, .int (nI a)), (4, .int (nI b))]) hx hb dX0_shadowOf_32 hl (by decide) rfl (fun ls hl => ?_)
  refine lv_iload_n hx hb dX0_shadowOf_34 rfl (lv_at hl 5 rfl) ?_
  refine lv_tableIn (off := 73) (tgt := 108) hx hb dX0_shadowOf_35 (by decide) (by decide) (by decide) (by decide) ?_
  refine lv_iload hx hb dX0_shadowOf_108 (lv_at hl 1 rfl) ?_
  refine lv_iload hx hb dX0_shadowOf_110 (lv_at hl 0 rfl) ?_
  refine lv_ior hx hb dX0_shadowOf_112 ?_
  refine lv_iload hx hb dX0_shadowOf_113 (lv_at hl 1 rfl) ?_
  refine lv_iload hx hb dX0_shadowOf_115 (lv_at hl 3 rfl) ?_
  refine lv_ior hx hb dX0_shadowOf_117 ?_
  refine lv_iand hx hb dX0_shadowOf_118 ?_
  refine lv_iload hx hb dX0_shadowOf_119 (lv_at hl 0 rfl) ?_
  refine lv_iload hx hb dX0_shadowOf_121 (lv_at hl 2 rfl) ?_
  refine lv_ior hx hb dX0_shadowOf_123 ?_
  refine lv_iand hx hb dX0_shadowOf_124 ?_
  refine sm_eqi (y := (S a ||| S b) &&& (S a ||| V a) &&& (S b ||| V b)) (rfl) ?_
  exact sm_iret hx hb hrt hlocks hS hP hD dX0_shadowOf_125
set_option maxHeartbeats 4000000 in
set_option maxRecDepth 100000 in
theorem c_shadowOf_3 (l : Launch) (D : va_G) (cI : ClassId) (x0 x1 x2 x3 : Nat) (V S M : Nat → Int32) (d a b : Nat) (hd : d < 16) (ha : a < 16) (hb' : b < 16) : sm_C l yX0_shadowOf wsX0_shadowOf ({ frames := 3, cells := 0, slots := 0, locals := 96 } : Room) D vwCl [(cI, .int)] [.ref x0, .int 3, .int (nI d), .int (nI a), .int (nI b)] (sm_wX cI x0 x1 x2 x3 V S M) (some (.int ((S a ||| S b) &&& (S a ||| (V a ^^^ (-1))) &&& (S b ||| (V b ^^^ (-1)))))) (sm_wX cI x0 x1 x2 x3 V S M) := by
  refine sm_start (cc := cX0_shadowOf) (maxL := 9) (ret := some .int) (lv := [(0, .ref x0), (1, .int 3), (2, .int (nI d)), (3, .int (nI a)), (4, .int (nI b))]) (by decide) rfl (Nat.le_of_ble_eq_true rfl) rfl ?_
  intro p e s m below meth c hx hb hrt hts hown hlocks hml hin hK hP hD hS hA ls hl
  have hw := sm_hw hts
  have q1 := sm_tz_le (S a)
  have q2 := sm_tz_le (S b)
  have q3 := sm_tz_le (V b ||| S b)
  have q4 := sm_tz_le (V a ||| S a)
  have q5 := sm_tz_le (S a ||| S b)
  have q6 := sm_min_le (sm_tz (S a) + sm_tz (V b ||| S b)) (sm_tz (S b) + sm_tz (V a ||| S a))
  refine lv_aload_n hx hb dX0_shadowOf_0 rfl (lv_at hl 0 rfl) ?_
  refine va_get (D := D) (ci := 0) (v := .ref x1) (C := RX0) (T := TX0) (N := 3) hx hb hts inX0 hown hK hP 0 rfl rfl 0 (by decide) (hw 18 rfl) (fun _ h9 => h9) rfl dX0_shadowOf_1 ?_
  refine lv_iload_n hx hb dX0_shadowOf_4 rfl (lv_at hl 3 rfl) ?_
  refine va_iald hx hb hK hP 1 0 rfl rfl (vp_in_nI (n := a) (by omega) (by decide)) dX0_shadowOf_5 ?_
  refine sm_eqi (y := V a) (sm_cl V (n := a) (by omega)) ?_
  refine lv_istore (lv' := [(5, .int (V a)), (0, .ref x0), (1, .int 3), (2, .int (nI d)), (3, .int (nI a)), (4, .int (nI b))]) hx hb dX0_shadowOf_6 hl (by decide) rfl (fun ls hl => ?_)
  refine lv_aload_n hx hb dX0_shadowOf_8 rfl (lv_at hl 1 rfl) ?_
  refine va_get (D := D) (ci := 0) (v := .ref x1) (C := RX0) (T := TX0) (N := 3) hx hb hts inX0 hown hK hP 0 rfl rfl 0 (by decide) (hw 18 rfl) (fun _ h9 => h9) rfl dX0_shadowOf_9 ?_
  refine lv_iload hx hb dX0_shadowOf_12 (lv_at hl 5 rfl) ?_
  refine va_iald hx hb hK hP 1 0 rfl rfl (vp_in_nI (n := b) (by omega) (by decide)) dX0_shadowOf_14 ?_
  refine sm_eqi (y := V b) (sm_cl V (n := b) (by omega)) ?_
  refine lv_istore (lv' := [(6, .int (V b)), (5, .int (V a)), (0, .ref x0), (1, .int 3), (2, .int (nI d)), (3, .int (nI a)), (4, .int (nI b))]) hx hb dX0_shadowOf_15 hl (by decide) rfl (fun ls hl => ?_)
  refine lv_aload_n hx hb dX0_shadowOf_17 rfl (lv_at hl 2 rfl) ?_
  refine va_get (D := D) (ci := 0) (v := .ref x2) (C := RX0) (T := TX0) (N := 3) hx hb hts inX0 hown hK hP 0 rfl rfl 1 (by decide) (hw 19 rfl) (fun _ h9 => h9) rfl dX0_shadowOf_18 ?_
  refine lv_iload_n hx hb dX0_shadowOf_21 rfl (lv_at hl 5 rfl) ?_
  refine va_iald hx hb hK hP 2 0 rfl rfl (vp_in_nI (n := a) (by omega) (by decide)) dX0_shadowOf_22 ?_
  refine sm_eqi (y := S a) (sm_cl S (n := a) (by omega)) ?_
  refine lv_istore (lv' := [(7, .int (S a)), (6, .int (V b)), (5, .int (V a)), (0, .ref x0), (1, .int 3), (2, .int (nI d)), (3, .int (nI a)), (4, .int (nI b))]) hx hb dX0_shadowOf_23 hl (by decide) rfl (fun ls hl => ?_)
  refine lv_aload_n hx hb dX0_shadowOf_25 rfl (lv_at hl 3 rfl) ?_
  refine va_get (D := D) (ci := 0) (v := .ref x2) (C := RX0) (T := TX0) (N := 3) hx hb hts inX0 hown hK hP 0 rfl rfl 1 (by decide) (hw 19 rfl) (fun _ h9 => h9) rfl dX0_shadowOf_26 ?_
  refine lv_iload hx hb dX0_shadowOf_29 (lv_at hl 7 rfl) ?_
  refine va_iald hx hb hK hP 2 0 rfl rfl (vp_in_nI (n := b) (by omega) (by decide)) dX0_shadowOf_31 ?_
  refine sm_eqi (y := S b) (sm_cl S (n := b) (by omega)) ?_
  refine lv_istore (lv' := [(8, .int (S b)), (7, .int (S a)), (6, .int (V b)), (5, .int (V a)), (0, .ref x0), (1, .int 3), (2, .int (nI d)), (3, .int (nI a)), (4, .int (nI b))]) hx hb dX0_shadowOf_32 hl (by decide) rfl (fun ls hl => ?_)
  refine lv_iload_n hx hb dX0_shadowOf_34 rfl (lv_at hl 5 rfl) ?_
  refine lv_tableIn (off := 91) (tgt := 126) hx hb dX0_shadowOf_35 (by decide) (by decide) (by decide) (by decide) ?_
  refine lv_iload hx hb dX0_shadowOf_126 (lv_at hl 1 rfl) ?_
  refine lv_iload hx hb dX0_shadowOf_128 (lv_at hl 0 rfl) ?_
  refine lv_ior hx hb dX0_shadowOf_130 ?_
  refine lv_iload hx hb dX0_shadowOf_131 (lv_at hl 1 rfl) ?_
  refine lv_iload hx hb dX0_shadowOf_133 (lv_at hl 3 rfl) ?_
  refine lv_iconst (v := (-1)) hx hb dX0_shadowOf_135 (by decide) ?_
  refine lv_ixor hx hb dX0_shadowOf_136 ?_
  refine lv_ior hx hb dX0_shadowOf_137 ?_
  refine lv_iand hx hb dX0_shadowOf_138 ?_
  refine lv_iload hx hb dX0_shadowOf_139 (lv_at hl 0 rfl) ?_
  refine lv_iload hx hb dX0_shadowOf_141 (lv_at hl 2 rfl) ?_
  refine lv_iconst (v := (-1)) hx hb dX0_shadowOf_143 (by decide) ?_
  refine lv_ixor hx hb dX0_shadowOf_144 ?_
  refine lv_ior hx hb dX0_shadowOf_145 ?_
  refine lv_iand hx hb dX0_shadowOf_146 ?_
  refine sm_eqi (y := (S a ||| S b) &&& (S a ||| (V a ^^^ (-1))) &&& (S b ||| (V b ^^^ (-1)))) (rfl) ?_
  exact sm_iret hx hb hrt hlocks hS hP hD dX0_shadowOf_147
set_option maxHeartbeats 4000000 in
set_option maxRecDepth 100000 in
theorem c_shadowOf_4 (l : Launch) (D : va_G) (cI : ClassId) (x0 x1 x2 x3 : Nat) (V S M : Nat → Int32) (d a b : Nat) (hd : d < 16) (ha : a < 16) (hb' : b < 16) : sm_C l yX0_shadowOf wsX0_shadowOf ({ frames := 3, cells := 0, slots := 0, locals := 96 } : Room) D vwCl [(cI, .int)] [.ref x0, .int 4, .int (nI d), .int (nI a), .int (nI b)] (sm_wX cI x0 x1 x2 x3 V S M) (some (.int (S a ||| S b))) (sm_wX cI x0 x1 x2 x3 V S M) := by
  refine sm_start (cc := cX0_shadowOf) (maxL := 9) (ret := some .int) (lv := [(0, .ref x0), (1, .int 4), (2, .int (nI d)), (3, .int (nI a)), (4, .int (nI b))]) (by decide) rfl (Nat.le_of_ble_eq_true rfl) rfl ?_
  intro p e s m below meth c hx hb hrt hts hown hlocks hml hin hK hP hD hS hA ls hl
  have hw := sm_hw hts
  have q1 := sm_tz_le (S a)
  have q2 := sm_tz_le (S b)
  have q3 := sm_tz_le (V b ||| S b)
  have q4 := sm_tz_le (V a ||| S a)
  have q5 := sm_tz_le (S a ||| S b)
  have q6 := sm_min_le (sm_tz (S a) + sm_tz (V b ||| S b)) (sm_tz (S b) + sm_tz (V a ||| S a))
  refine lv_aload_n hx hb dX0_shadowOf_0 rfl (lv_at hl 0 rfl) ?_
  refine va_get (D := D) (ci := 0) (v := .ref x1) (C := RX0) (T := TX0) (N := 3) hx hb hts inX0 hown hK hP 0 rfl rfl 0 (by decide) (hw 18 rfl) (fun _ h9 => h9) rfl dX0_shadowOf_1 ?_
  refine lv_iload_n hx hb dX0_shadowOf_4 rfl (lv_at hl 3 rfl) ?_
  refine va_iald hx hb hK hP 1 0 rfl rfl (vp_in_nI (n := a) (by omega) (by decide)) dX0_shadowOf_5 ?_
  refine sm_eqi (y := V a) (sm_cl V (n := a) (by omega)) ?_
  refine lv_istore (lv' := [(5, .int (V a)), (0, .ref x0), (1, .int 4), (2, .int (nI d)), (3, .int (nI a)), (4, .int (nI b))]) hx hb dX0_shadowOf_6 hl (by decide) rfl (fun ls hl => ?_)
  refine lv_aload_n hx hb dX0_shadowOf_8 rfl (lv_at hl 1 rfl) ?_
  refine va_get (D := D) (ci := 0) (v := .ref x1) (C := RX0) (T := TX0) (N := 3) hx hb hts inX0 hown hK hP 0 rfl rfl 0 (by decide) (hw 18 rfl) (fun _ h9 => h9) rfl dX0_shadowOf_9 ?_
  refine lv_iload hx hb dX0_shadowOf_12 (lv_at hl 5 rfl) ?_
  refine va_iald hx hb hK hP 1 0 rfl rfl (vp_in_nI (n := b) (by omega) (by decide)) dX0_shadowOf_14 ?_
  refine sm_eqi (y := V b) (sm_cl V (n := b) (by omega)) ?_
  refine lv_istore (lv' := [(6, .int (V b)), (5, .int (V a)), (0, .ref x0), (1, .int 4), (2, .int (nI d)), (3, .int (nI a)), (4, .int (nI b))]) hx hb dX0_shadowOf_15 hl (by decide) rfl (fun ls hl => ?_)
  refine lv_aload_n hx hb dX0_shadowOf_17 rfl (lv_at hl 2 rfl) ?_
  refine va_get (D := D) (ci := 0) (v := .ref x2) (C := RX0) (T := TX0) (N := 3) hx hb hts inX0 hown hK hP 0 rfl rfl 1 (by decide) (hw 19 rfl) (fun _ h9 => h9) rfl dX0_shadowOf_18 ?_
  refine lv_iload_n hx hb dX0_shadowOf_21 rfl (lv_at hl 5 rfl) ?_
  refine va_iald hx hb hK hP 2 0 rfl rfl (vp_in_nI (n := a) (by omega) (by decide)) dX0_shadowOf_22 ?_
  refine sm_eqi (y := S a) (sm_cl S (n := a) (by omega)) ?_
  refine lv_istore (lv' := [(7, .int (S a)), (6, .int (V b)), (5, .int (V a)), (0, .ref x0), (1, .int 4), (2, .int (nI d)), (3, .int (nI a)), (4, .int (nI b))]) hx hb dX0_shadowOf_23 hl (by decide) rfl (fun ls hl => ?_)
  refine lv_aload_n hx hb dX0_shadowOf_25 rfl (lv_at hl 3 rfl) ?_
  refine va_get (D := D) (ci := 0) (v := .ref x2) (C := RX0) (T := TX0) (N := 3) hx hb hts inX0 hown hK hP 0 rfl rfl 1 (by decide) (hw 19 rfl) (fun _ h9 => h9) rfl dX0_shadowOf_26 ?_
  refine lv_iload hx hb dX0_shadowOf_29 (lv_at hl 7 rfl) ?_
  refine va_iald hx hb hK hP 2 0 rfl rfl (vp_in_nI (n := b) (by omega) (by decide)) dX0_shadowOf_31 ?_
  refine sm_eqi (y := S b) (sm_cl S (n := b) (by omega)) ?_
  refine lv_istore (lv' := [(8, .int (S b)), (7, .int (S a)), (6, .int (V b)), (5, .int (V a)), (0, .ref x0), (1, .int 4), (2, .int (nI d)), (3, .int (nI a)), (4, .int (nI b))]) hx hb dX0_shadowOf_32 hl (by decide) rfl (fun ls hl => ?_)
  refine lv_iload_n hx hb dX0_shadowOf_34 rfl (lv_at hl 5 rfl) ?_
  refine lv_tableIn (off := 113) (tgt := 148) hx hb dX0_shadowOf_35 (by decide) (by decide) (by decide) (by decide) ?_
  refine lv_iload hx hb dX0_shadowOf_148 (lv_at hl 1 rfl) ?_
  refine lv_iload hx hb dX0_shadowOf_150 (lv_at hl 0 rfl) ?_
  refine lv_ior hx hb dX0_shadowOf_152 ?_
  refine sm_eqi (y := S a ||| S b) (rfl) ?_
  exact sm_iret hx hb hrt hlocks hS hP hD dX0_shadowOf_153
set_option maxHeartbeats 4000000 in
set_option maxRecDepth 100000 in
theorem c_shadowOf_5 (l : Launch) (D : va_G) (cI : ClassId) (x0 x1 x2 x3 : Nat) (V S M : Nat → Int32) (d a b : Nat) (hd : d < 16) (ha : a < 16) (hb' : b < 16) : sm_C l yX0_shadowOf wsX0_shadowOf ({ frames := 3, cells := 0, slots := 0, locals := 96 } : Room) D vwCl [(cI, .int)] [.ref x0, .int 5, .int (nI d), .int (nI a), .int (nI b)] (sm_wX cI x0 x1 x2 x3 V S M) (some (.int (if S b &&& 31 = 0 then S a <<< ((V b &&& 31) &&& 31) else (-1)))) (sm_wX cI x0 x1 x2 x3 V S M) := by
  refine sm_start (cc := cX0_shadowOf) (maxL := 9) (ret := some .int) (lv := [(0, .ref x0), (1, .int 5), (2, .int (nI d)), (3, .int (nI a)), (4, .int (nI b))]) (by decide) rfl (Nat.le_of_ble_eq_true rfl) rfl ?_
  intro p e s m below meth c hx hb hrt hts hown hlocks hml hin hK hP hD hS hA ls hl
  have hw := sm_hw hts
  have q1 := sm_tz_le (S a)
  have q2 := sm_tz_le (S b)
  have q3 := sm_tz_le (V b ||| S b)
  have q4 := sm_tz_le (V a ||| S a)
  have q5 := sm_tz_le (S a ||| S b)
  have q6 := sm_min_le (sm_tz (S a) + sm_tz (V b ||| S b)) (sm_tz (S b) + sm_tz (V a ||| S a))
  refine lv_aload_n hx hb dX0_shadowOf_0 rfl (lv_at hl 0 rfl) ?_
  refine va_get (D := D) (ci := 0) (v := .ref x1) (C := RX0) (T := TX0) (N := 3) hx hb hts inX0 hown hK hP 0 rfl rfl 0 (by decide) (hw 18 rfl) (fun _ h9 => h9) rfl dX0_shadowOf_1 ?_
  refine lv_iload_n hx hb dX0_shadowOf_4 rfl (lv_at hl 3 rfl) ?_
  refine va_iald hx hb hK hP 1 0 rfl rfl (vp_in_nI (n := a) (by omega) (by decide)) dX0_shadowOf_5 ?_
  refine sm_eqi (y := V a) (sm_cl V (n := a) (by omega)) ?_
  refine lv_istore (lv' := [(5, .int (V a)), (0, .ref x0), (1, .int 5), (2, .int (nI d)), (3, .int (nI a)), (4, .int (nI b))]) hx hb dX0_shadowOf_6 hl (by decide) rfl (fun ls hl => ?_)
  refine lv_aload_n hx hb dX0_shadowOf_8 rfl (lv_at hl 1 rfl) ?_
  refine va_get (D := D) (ci := 0) (v := .ref x1) (C := RX0) (T := TX0) (N := 3) hx hb hts inX0 hown hK hP 0 rfl rfl 0 (by decide) (hw 18 rfl) (fun _ h9 => h9) rfl dX0_shadowOf_9 ?_
  refine lv_iload hx hb dX0_shadowOf_12 (lv_at hl 5 rfl) ?_
  refine va_iald hx hb hK hP 1 0 rfl rfl (vp_in_nI (n := b) (by omega) (by decide)) dX0_shadowOf_14 ?_
  refine sm_eqi (y := V b) (sm_cl V (n := b) (by omega)) ?_
  refine lv_istore (lv' := [(6, .int (V b)), (5, .int (V a)), (0, .ref x0), (1, .int 5), (2, .int (nI d)), (3, .int (nI a)), (4, .int (nI b))]) hx hb dX0_shadowOf_15 hl (by decide) rfl (fun ls hl => ?_)
  refine lv_aload_n hx hb dX0_shadowOf_17 rfl (lv_at hl 2 rfl) ?_
  refine va_get (D := D) (ci := 0) (v := .ref x2) (C := RX0) (T := TX0) (N := 3) hx hb hts inX0 hown hK hP 0 rfl rfl 1 (by decide) (hw 19 rfl) (fun _ h9 => h9) rfl dX0_shadowOf_18 ?_
  refine lv_iload_n hx hb dX0_shadowOf_21 rfl (lv_at hl 5 rfl) ?_
  refine va_iald hx hb hK hP 2 0 rfl rfl (vp_in_nI (n := a) (by omega) (by decide)) dX0_shadowOf_22 ?_
  refine sm_eqi (y := S a) (sm_cl S (n := a) (by omega)) ?_
  refine lv_istore (lv' := [(7, .int (S a)), (6, .int (V b)), (5, .int (V a)), (0, .ref x0), (1, .int 5), (2, .int (nI d)), (3, .int (nI a)), (4, .int (nI b))]) hx hb dX0_shadowOf_23 hl (by decide) rfl (fun ls hl => ?_)
  refine lv_aload_n hx hb dX0_shadowOf_25 rfl (lv_at hl 3 rfl) ?_
  refine va_get (D := D) (ci := 0) (v := .ref x2) (C := RX0) (T := TX0) (N := 3) hx hb hts inX0 hown hK hP 0 rfl rfl 1 (by decide) (hw 19 rfl) (fun _ h9 => h9) rfl dX0_shadowOf_26 ?_
  refine lv_iload hx hb dX0_shadowOf_29 (lv_at hl 7 rfl) ?_
  refine va_iald hx hb hK hP 2 0 rfl rfl (vp_in_nI (n := b) (by omega) (by decide)) dX0_shadowOf_31 ?_
  refine sm_eqi (y := S b) (sm_cl S (n := b) (by omega)) ?_
  refine lv_istore (lv' := [(8, .int (S b)), (7, .int (S a)), (6, .int (V b)), (5, .int (V a)), (0, .ref x0), (1, .int 5), (2, .int (nI d)), (3, .int (nI a)), (4, .int (nI b))]) hx hb dX0_shadowOf_32 hl (by decide) rfl (fun ls hl => ?_)
  refine lv_iload_n hx hb dX0_shadowOf_34 rfl (lv_at hl 5 rfl) ?_
  refine lv_tableIn (off := 119) (tgt := 154) hx hb dX0_shadowOf_35 (by decide) (by decide) (by decide) (by decide) ?_
  refine lv_iload hx hb dX0_shadowOf_154 (lv_at hl 0 rfl) ?_
  refine lv_bipush (v := 31) hx hb dX0_shadowOf_156 (by decide) ?_
  refine lv_iand hx hb dX0_shadowOf_158 ?_
  refine lv_if_eq (tgt := 166) hx hb dX0_shadowOf_159 rfl (fun h159 => ?_) (fun h159 => ?_)
  · refine lv_iload_n hx hb dX0_shadowOf_166 rfl (lv_at hl 5 rfl) ?_
    refine lv_iload hx hb dX0_shadowOf_167 (lv_at hl 1 rfl) ?_
    refine lv_iload hx hb dX0_shadowOf_169 (lv_at hl 2 rfl) ?_
    refine lv_bipush (v := 31) hx hb dX0_shadowOf_171 (by decide) ?_
    refine lv_iand hx hb dX0_shadowOf_173 ?_
    refine sm_callS (As := [.int 5, .int (S a), .int ((V b) &&& 31)]) (rest := []) (wr := (sm_wX cI x0 x1 x2 x3 V S M)) (wn := (sm_wX cI x0 x1 x2 x3 V S M)) (st1 := [.int ((S a) <<< (((V b) &&& 31) &&& 31))]) ⟨hx, hb, hml, hown, hts⟩ (c_shifted_5 l D (S a) ((V b) &&& 31)) (va_cwS 3 hts (sm_gS (i1 := 126) (i2 := 127) (i4 := 1) (i5 := 128) rfl rfl rfl rfl) rfl rfl rfl (by decide +kernel) ⟨Nat.le_of_ble_eq_true rfl, Nat.le_of_ble_eq_true rfl⟩) hK [] rfl hP hD hS hA [] [0, 1, 2, 3] rfl rfl (by decide) (by decide) (by decide) rfl hl.1 rfl (Nat.le_of_ble_eq_true rfl) dX0_shadowOf_174 ⟨Nat.le_of_ble_eq_true rfl, Nat.le_of_ble_eq_true rfl⟩ rfl rfl (fun H locs hP hD hS => ?_)
    refine sm_eqi (y := if S b &&& 31 = 0 then S a <<< ((V b &&& 31) &&& 31) else (-1)) (by simp [sm_bI, h159]) ?_
    exact sm_iret hx hb hrt hlocks hS hP hD dX0_shadowOf_177
  · refine lv_iconst (v := (-1)) hx hb dX0_shadowOf_162 (by decide) ?_
    refine lv_goto (tgt := 177) hx hb dX0_shadowOf_163 rfl ?_
    refine sm_eqi (y := if S b &&& 31 = 0 then S a <<< ((V b &&& 31) &&& 31) else (-1)) (by simp [sm_bI, h159]) ?_
    exact sm_iret hx hb hrt hlocks hS hP hD dX0_shadowOf_177
set_option maxHeartbeats 4000000 in
set_option maxRecDepth 100000 in
theorem c_shadowOf_6 (l : Launch) (D : va_G) (cI : ClassId) (x0 x1 x2 x3 : Nat) (V S M : Nat → Int32) (d a b : Nat) (hd : d < 16) (ha : a < 16) (hb' : b < 16) : sm_C l yX0_shadowOf wsX0_shadowOf ({ frames := 3, cells := 0, slots := 0, locals := 96 } : Room) D vwCl [(cI, .int)] [.ref x0, .int 6, .int (nI d), .int (nI a), .int (nI b)] (sm_wX cI x0 x1 x2 x3 V S M) (some (.int (if S b &&& 31 = 0 then sm_ushr (S a) (V b &&& 31) else (-1)))) (sm_wX cI x0 x1 x2 x3 V S M) := by
  refine sm_start (cc := cX0_shadowOf) (maxL := 9) (ret := some .int) (lv := [(0, .ref x0), (1, .int 6), (2, .int (nI d)), (3, .int (nI a)), (4, .int (nI b))]) (by decide) rfl (Nat.le_of_ble_eq_true rfl) rfl ?_
  intro p e s m below meth c hx hb hrt hts hown hlocks hml hin hK hP hD hS hA ls hl
  have hw := sm_hw hts
  have q1 := sm_tz_le (S a)
  have q2 := sm_tz_le (S b)
  have q3 := sm_tz_le (V b ||| S b)
  have q4 := sm_tz_le (V a ||| S a)
  have q5 := sm_tz_le (S a ||| S b)
  have q6 := sm_min_le (sm_tz (S a) + sm_tz (V b ||| S b)) (sm_tz (S b) + sm_tz (V a ||| S a))
  refine lv_aload_n hx hb dX0_shadowOf_0 rfl (lv_at hl 0 rfl) ?_
  refine va_get (D := D) (ci := 0) (v := .ref x1) (C := RX0) (T := TX0) (N := 3) hx hb hts inX0 hown hK hP 0 rfl rfl 0 (by decide) (hw 18 rfl) (fun _ h9 => h9) rfl dX0_shadowOf_1 ?_
  refine lv_iload_n hx hb dX0_shadowOf_4 rfl (lv_at hl 3 rfl) ?_
  refine va_iald hx hb hK hP 1 0 rfl rfl (vp_in_nI (n := a) (by omega) (by decide)) dX0_shadowOf_5 ?_
  refine sm_eqi (y := V a) (sm_cl V (n := a) (by omega)) ?_
  refine lv_istore (lv' := [(5, .int (V a)), (0, .ref x0), (1, .int 6), (2, .int (nI d)), (3, .int (nI a)), (4, .int (nI b))]) hx hb dX0_shadowOf_6 hl (by decide) rfl (fun ls hl => ?_)
  refine lv_aload_n hx hb dX0_shadowOf_8 rfl (lv_at hl 1 rfl) ?_
  refine va_get (D := D) (ci := 0) (v := .ref x1) (C := RX0) (T := TX0) (N := 3) hx hb hts inX0 hown hK hP 0 rfl rfl 0 (by decide) (hw 18 rfl) (fun _ h9 => h9) rfl dX0_shadowOf_9 ?_
  refine lv_iload hx hb dX0_shadowOf_12 (lv_at hl 5 rfl) ?_
  refine va_iald hx hb hK hP 1 0 rfl rfl (vp_in_nI (n := b) (by omega) (by decide)) dX0_shadowOf_14 ?_
  refine sm_eqi (y := V b) (sm_cl V (n := b) (by omega)) ?_
  refine lv_istore (lv' := [(6, .int (V b)), (5, .int (V a)), (0, .ref x0), (1, .int 6), (2, .int (nI d)), (3, .int (nI a)), (4, .int (nI b))]) hx hb dX0_shadowOf_15 hl (by decide) rfl (fun ls hl => ?_)
  refine lv_aload_n hx hb dX0_shadowOf_17 rfl (lv_at hl 2 rfl) ?_
  refine va_get (D := D) (ci := 0) (v := .ref x2) (C := RX0) (T := TX0) (N := 3) hx hb hts inX0 hown hK hP 0 rfl rfl 1 (by decide) (hw 19 rfl) (fun _ h9 => h9) rfl dX0_shadowOf_18 ?_
  refine lv_iload_n hx hb dX0_shadowOf_21 rfl (lv_at hl 5 rfl) ?_
  refine va_iald hx hb hK hP 2 0 rfl rfl (vp_in_nI (n := a) (by omega) (by decide)) dX0_shadowOf_22 ?_
  refine sm_eqi (y := S a) (sm_cl S (n := a) (by omega)) ?_
  refine lv_istore (lv' := [(7, .int (S a)), (6, .int (V b)), (5, .int (V a)), (0, .ref x0), (1, .int 6), (2, .int (nI d)), (3, .int (nI a)), (4, .int (nI b))]) hx hb dX0_shadowOf_23 hl (by decide) rfl (fun ls hl => ?_)
  refine lv_aload_n hx hb dX0_shadowOf_25 rfl (lv_at hl 3 rfl) ?_
  refine va_get (D := D) (ci := 0) (v := .ref x2) (C := RX0) (T := TX0) (N := 3) hx hb hts inX0 hown hK hP 0 rfl rfl 1 (by decide) (hw 19 rfl) (fun _ h9 => h9) rfl dX0_shadowOf_26 ?_
  refine lv_iload hx hb dX0_shadowOf_29 (lv_at hl 7 rfl) ?_
  refine va_iald hx hb hK hP 2 0 rfl rfl (vp_in_nI (n := b) (by omega) (by decide)) dX0_shadowOf_31 ?_
  refine sm_eqi (y := S b) (sm_cl S (n := b) (by omega)) ?_
  refine lv_istore (lv' := [(8, .int (S b)), (7, .int (S a)), (6, .int (V b)), (5, .int (V a)), (0, .ref x0), (1, .int 6), (2, .int (nI d)), (3, .int (nI a)), (4, .int (nI b))]) hx hb dX0_shadowOf_32 hl (by decide) rfl (fun ls hl => ?_)
  refine lv_iload_n hx hb dX0_shadowOf_34 rfl (lv_at hl 5 rfl) ?_
  refine lv_tableIn (off := 119) (tgt := 154) hx hb dX0_shadowOf_35 (by decide) (by decide) (by decide) (by decide) ?_
  refine lv_iload hx hb dX0_shadowOf_154 (lv_at hl 0 rfl) ?_
  refine lv_bipush (v := 31) hx hb dX0_shadowOf_156 (by decide) ?_
  refine lv_iand hx hb dX0_shadowOf_158 ?_
  refine lv_if_eq (tgt := 166) hx hb dX0_shadowOf_159 rfl (fun h159 => ?_) (fun h159 => ?_)
  · refine lv_iload_n hx hb dX0_shadowOf_166 rfl (lv_at hl 5 rfl) ?_
    refine lv_iload hx hb dX0_shadowOf_167 (lv_at hl 1 rfl) ?_
    refine lv_iload hx hb dX0_shadowOf_169 (lv_at hl 2 rfl) ?_
    refine lv_bipush (v := 31) hx hb dX0_shadowOf_171 (by decide) ?_
    refine lv_iand hx hb dX0_shadowOf_173 ?_
    refine sm_callS (As := [.int 6, .int (S a), .int ((V b) &&& 31)]) (rest := []) (wr := (sm_wX cI x0 x1 x2 x3 V S M)) (wn := (sm_wX cI x0 x1 x2 x3 V S M)) (st1 := [.int (sm_ushr (S a) ((V b) &&& 31))]) ⟨hx, hb, hml, hown, hts⟩ (c_shifted_6 l D (S a) ((V b) &&& 31)) (va_cwS 3 hts (sm_gS (i1 := 126) (i2 := 127) (i4 := 1) (i5 := 128) rfl rfl rfl rfl) rfl rfl rfl (by decide +kernel) ⟨Nat.le_of_ble_eq_true rfl, Nat.le_of_ble_eq_true rfl⟩) hK [] rfl hP hD hS hA [] [0, 1, 2, 3] rfl rfl (by decide) (by decide) (by decide) rfl hl.1 rfl (Nat.le_of_ble_eq_true rfl) dX0_shadowOf_174 ⟨Nat.le_of_ble_eq_true rfl, Nat.le_of_ble_eq_true rfl⟩ rfl rfl (fun H locs hP hD hS => ?_)
    refine sm_eqi (y := if S b &&& 31 = 0 then sm_ushr (S a) (V b &&& 31) else (-1)) (by simp [sm_bI, h159]) ?_
    exact sm_iret hx hb hrt hlocks hS hP hD dX0_shadowOf_177
  · refine lv_iconst (v := (-1)) hx hb dX0_shadowOf_162 (by decide) ?_
    refine lv_goto (tgt := 177) hx hb dX0_shadowOf_163 rfl ?_
    refine sm_eqi (y := if S b &&& 31 = 0 then sm_ushr (S a) (V b &&& 31) else (-1)) (by simp [sm_bI, h159]) ?_
    exact sm_iret hx hb hrt hlocks hS hP hD dX0_shadowOf_177
set_option maxHeartbeats 4000000 in
set_option maxRecDepth 100000 in
theorem c_shadowOf_7 (l : Launch) (D : va_G) (cI : ClassId) (x0 x1 x2 x3 : Nat) (V S M : Nat → Int32) (d a b : Nat) (hd : d < 16) (ha : a < 16) (hb' : b < 16) : sm_C l yX0_shadowOf wsX0_shadowOf ({ frames := 3, cells := 0, slots := 0, locals := 96 } : Room) D vwCl [(cI, .int)] [.ref x0, .int 7, .int (nI d), .int (nI a), .int (nI b)] (sm_wX cI x0 x1 x2 x3 V S M) (some (.int (if S b &&& 31 = 0 then S a >>> ((V b &&& 31) &&& 31) else (-1)))) (sm_wX cI x0 x1 x2 x3 V S M) := by
  refine sm_start (cc := cX0_shadowOf) (maxL := 9) (ret := some .int) (lv := [(0, .ref x0), (1, .int 7), (2, .int (nI d)), (3, .int (nI a)), (4, .int (nI b))]) (by decide) rfl (Nat.le_of_ble_eq_true rfl) rfl ?_
  intro p e s m below meth c hx hb hrt hts hown hlocks hml hin hK hP hD hS hA ls hl
  have hw := sm_hw hts
  have q1 := sm_tz_le (S a)
  have q2 := sm_tz_le (S b)
  have q3 := sm_tz_le (V b ||| S b)
  have q4 := sm_tz_le (V a ||| S a)
  have q5 := sm_tz_le (S a ||| S b)
  have q6 := sm_min_le (sm_tz (S a) + sm_tz (V b ||| S b)) (sm_tz (S b) + sm_tz (V a ||| S a))
  refine lv_aload_n hx hb dX0_shadowOf_0 rfl (lv_at hl 0 rfl) ?_
  refine va_get (D := D) (ci := 0) (v := .ref x1) (C := RX0) (T := TX0) (N := 3) hx hb hts inX0 hown hK hP 0 rfl rfl 0 (by decide) (hw 18 rfl) (fun _ h9 => h9) rfl dX0_shadowOf_1 ?_
  refine lv_iload_n hx hb dX0_shadowOf_4 rfl (lv_at hl 3 rfl) ?_
  refine va_iald hx hb hK hP 1 0 rfl rfl (vp_in_nI (n := a) (by omega) (by decide)) dX0_shadowOf_5 ?_
  refine sm_eqi (y := V a) (sm_cl V (n := a) (by omega)) ?_
  refine lv_istore (lv' := [(5, .int (V a)), (0, .ref x0), (1, .int 7), (2, .int (nI d)), (3, .int (nI a)), (4, .int (nI b))]) hx hb dX0_shadowOf_6 hl (by decide) rfl (fun ls hl => ?_)
  refine lv_aload_n hx hb dX0_shadowOf_8 rfl (lv_at hl 1 rfl) ?_
  refine va_get (D := D) (ci := 0) (v := .ref x1) (C := RX0) (T := TX0) (N := 3) hx hb hts inX0 hown hK hP 0 rfl rfl 0 (by decide) (hw 18 rfl) (fun _ h9 => h9) rfl dX0_shadowOf_9 ?_
  refine lv_iload hx hb dX0_shadowOf_12 (lv_at hl 5 rfl) ?_
  refine va_iald hx hb hK hP 1 0 rfl rfl (vp_in_nI (n := b) (by omega) (by decide)) dX0_shadowOf_14 ?_
  refine sm_eqi (y := V b) (sm_cl V (n := b) (by omega)) ?_
  refine lv_istore (lv' := [(6, .int (V b)), (5, .int (V a)), (0, .ref x0), (1, .int 7), (2, .int (nI d)), (3, .int (nI a)), (4, .int (nI b))]) hx hb dX0_shadowOf_15 hl (by decide) rfl (fun ls hl => ?_)
  refine lv_aload_n hx hb dX0_shadowOf_17 rfl (lv_at hl 2 rfl) ?_
  refine va_get (D := D) (ci := 0) (v := .ref x2) (C := RX0) (T := TX0) (N := 3) hx hb hts inX0 hown hK hP 0 rfl rfl 1 (by decide) (hw 19 rfl) (fun _ h9 => h9) rfl dX0_shadowOf_18 ?_
  refine lv_iload_n hx hb dX0_shadowOf_21 rfl (lv_at hl 5 rfl) ?_
  refine va_iald hx hb hK hP 2 0 rfl rfl (vp_in_nI (n := a) (by omega) (by decide)) dX0_shadowOf_22 ?_
  refine sm_eqi (y := S a) (sm_cl S (n := a) (by omega)) ?_
  refine lv_istore (lv' := [(7, .int (S a)), (6, .int (V b)), (5, .int (V a)), (0, .ref x0), (1, .int 7), (2, .int (nI d)), (3, .int (nI a)), (4, .int (nI b))]) hx hb dX0_shadowOf_23 hl (by decide) rfl (fun ls hl => ?_)
  refine lv_aload_n hx hb dX0_shadowOf_25 rfl (lv_at hl 3 rfl) ?_
  refine va_get (D := D) (ci := 0) (v := .ref x2) (C := RX0) (T := TX0) (N := 3) hx hb hts inX0 hown hK hP 0 rfl rfl 1 (by decide) (hw 19 rfl) (fun _ h9 => h9) rfl dX0_shadowOf_26 ?_
  refine lv_iload hx hb dX0_shadowOf_29 (lv_at hl 7 rfl) ?_
  refine va_iald hx hb hK hP 2 0 rfl rfl (vp_in_nI (n := b) (by omega) (by decide)) dX0_shadowOf_31 ?_
  refine sm_eqi (y := S b) (sm_cl S (n := b) (by omega)) ?_
  refine lv_istore (lv' := [(8, .int (S b)), (7, .int (S a)), (6, .int (V b)), (5, .int (V a)), (0, .ref x0), (1, .int 7), (2, .int (nI d)), (3, .int (nI a)), (4, .int (nI b))]) hx hb dX0_shadowOf_32 hl (by decide) rfl (fun ls hl => ?_)
  refine lv_iload_n hx hb dX0_shadowOf_34 rfl (lv_at hl 5 rfl) ?_
  refine lv_tableIn (off := 119) (tgt := 154) hx hb dX0_shadowOf_35 (by decide) (by decide) (by decide) (by decide) ?_
  refine lv_iload hx hb dX0_shadowOf_154 (lv_at hl 0 rfl) ?_
  refine lv_bipush (v := 31) hx hb dX0_shadowOf_156 (by decide) ?_
  refine lv_iand hx hb dX0_shadowOf_158 ?_
  refine lv_if_eq (tgt := 166) hx hb dX0_shadowOf_159 rfl (fun h159 => ?_) (fun h159 => ?_)
  · refine lv_iload_n hx hb dX0_shadowOf_166 rfl (lv_at hl 5 rfl) ?_
    refine lv_iload hx hb dX0_shadowOf_167 (lv_at hl 1 rfl) ?_
    refine lv_iload hx hb dX0_shadowOf_169 (lv_at hl 2 rfl) ?_
    refine lv_bipush (v := 31) hx hb dX0_shadowOf_171 (by decide) ?_
    refine lv_iand hx hb dX0_shadowOf_173 ?_
    refine sm_callS (As := [.int 7, .int (S a), .int ((V b) &&& 31)]) (rest := []) (wr := (sm_wX cI x0 x1 x2 x3 V S M)) (wn := (sm_wX cI x0 x1 x2 x3 V S M)) (st1 := [.int ((S a) >>> (((V b) &&& 31) &&& 31))]) ⟨hx, hb, hml, hown, hts⟩ (c_shifted_7 l D (S a) ((V b) &&& 31)) (va_cwS 3 hts (sm_gS (i1 := 126) (i2 := 127) (i4 := 1) (i5 := 128) rfl rfl rfl rfl) rfl rfl rfl (by decide +kernel) ⟨Nat.le_of_ble_eq_true rfl, Nat.le_of_ble_eq_true rfl⟩) hK [] rfl hP hD hS hA [] [0, 1, 2, 3] rfl rfl (by decide) (by decide) (by decide) rfl hl.1 rfl (Nat.le_of_ble_eq_true rfl) dX0_shadowOf_174 ⟨Nat.le_of_ble_eq_true rfl, Nat.le_of_ble_eq_true rfl⟩ rfl rfl (fun H locs hP hD hS => ?_)
    refine sm_eqi (y := if S b &&& 31 = 0 then S a >>> ((V b &&& 31) &&& 31) else (-1)) (by simp [sm_bI, h159]) ?_
    exact sm_iret hx hb hrt hlocks hS hP hD dX0_shadowOf_177
  · refine lv_iconst (v := (-1)) hx hb dX0_shadowOf_162 (by decide) ?_
    refine lv_goto (tgt := 177) hx hb dX0_shadowOf_163 rfl ?_
    refine sm_eqi (y := if S b &&& 31 = 0 then S a >>> ((V b &&& 31) &&& 31) else (-1)) (by simp [sm_bI, h159]) ?_
    exact sm_iret hx hb hrt hlocks hS hP hD dX0_shadowOf_177
set_option maxHeartbeats 4000000 in
set_option maxRecDepth 100000 in
theorem c_shadowOf_8 (l : Launch) (D : va_G) (cI : ClassId) (x0 x1 x2 x3 : Nat) (V S M : Nat → Int32) (d a b : Nat) (hd : d < 16) (ha : a < 16) (hb' : b < 16) : sm_C l yX0_shadowOf wsX0_shadowOf ({ frames := 3, cells := 0, slots := 0, locals := 96 } : Room) D vwCl [(cI, .int)] [.ref x0, .int 8, .int (nI d), .int (nI a), .int (nI b)] (sm_wX cI x0 x1 x2 x3 V S M) (some (.int (sm_fr (sm_min (sm_tz (S a) + sm_tz (V b ||| S b)) (sm_tz (S b) + sm_tz (V a ||| S a)))))) (sm_wX cI x0 x1 x2 x3 V S M) := by
  refine sm_start (cc := cX0_shadowOf) (maxL := 9) (ret := some .int) (lv := [(0, .ref x0), (1, .int 8), (2, .int (nI d)), (3, .int (nI a)), (4, .int (nI b))]) (by decide) rfl (Nat.le_of_ble_eq_true rfl) rfl ?_
  intro p e s m below meth c hx hb hrt hts hown hlocks hml hin hK hP hD hS hA ls hl
  have hw := sm_hw hts
  have q1 := sm_tz_le (S a)
  have q2 := sm_tz_le (S b)
  have q3 := sm_tz_le (V b ||| S b)
  have q4 := sm_tz_le (V a ||| S a)
  have q5 := sm_tz_le (S a ||| S b)
  have q6 := sm_min_le (sm_tz (S a) + sm_tz (V b ||| S b)) (sm_tz (S b) + sm_tz (V a ||| S a))
  refine lv_aload_n hx hb dX0_shadowOf_0 rfl (lv_at hl 0 rfl) ?_
  refine va_get (D := D) (ci := 0) (v := .ref x1) (C := RX0) (T := TX0) (N := 3) hx hb hts inX0 hown hK hP 0 rfl rfl 0 (by decide) (hw 18 rfl) (fun _ h9 => h9) rfl dX0_shadowOf_1 ?_
  refine lv_iload_n hx hb dX0_shadowOf_4 rfl (lv_at hl 3 rfl) ?_
  refine va_iald hx hb hK hP 1 0 rfl rfl (vp_in_nI (n := a) (by omega) (by decide)) dX0_shadowOf_5 ?_
  refine sm_eqi (y := V a) (sm_cl V (n := a) (by omega)) ?_
  refine lv_istore (lv' := [(5, .int (V a)), (0, .ref x0), (1, .int 8), (2, .int (nI d)), (3, .int (nI a)), (4, .int (nI b))]) hx hb dX0_shadowOf_6 hl (by decide) rfl (fun ls hl => ?_)
  refine lv_aload_n hx hb dX0_shadowOf_8 rfl (lv_at hl 1 rfl) ?_
  refine va_get (D := D) (ci := 0) (v := .ref x1) (C := RX0) (T := TX0) (N := 3) hx hb hts inX0 hown hK hP 0 rfl rfl 0 (by decide) (hw 18 rfl) (fun _ h9 => h9) rfl dX0_shadowOf_9 ?_
  refine lv_iload hx hb dX0_shadowOf_12 (lv_at hl 5 rfl) ?_
  refine va_iald hx hb hK hP 1 0 rfl rfl (vp_in_nI (n := b) (by omega) (by decide)) dX0_shadowOf_14 ?_
  refine sm_eqi (y := V b) (sm_cl V (n := b) (by omega)) ?_
  refine lv_istore (lv' := [(6, .int (V b)), (5, .int (V a)), (0, .ref x0), (1, .int 8), (2, .int (nI d)), (3, .int (nI a)), (4, .int (nI b))]) hx hb dX0_shadowOf_15 hl (by decide) rfl (fun ls hl => ?_)
  refine lv_aload_n hx hb dX0_shadowOf_17 rfl (lv_at hl 2 rfl) ?_
  refine va_get (D := D) (ci := 0) (v := .ref x2) (C := RX0) (T := TX0) (N := 3) hx hb hts inX0 hown hK hP 0 rfl rfl 1 (by decide) (hw 19 rfl) (fun _ h9 => h9) rfl dX0_shadowOf_18 ?_
  refine lv_iload_n hx hb dX0_shadowOf_21 rfl (lv_at hl 5 rfl) ?_
  refine va_iald hx hb hK hP 2 0 rfl rfl (vp_in_nI (n := a) (by omega) (by decide)) dX0_shadowOf_22 ?_
  refine sm_eqi (y := S a) (sm_cl S (n := a) (by omega)) ?_
  refine lv_istore (lv' := [(7, .int (S a)), (6, .int (V b)), (5, .int (V a)), (0, .ref x0), (1, .int 8), (2, .int (nI d)), (3, .int (nI a)), (4, .int (nI b))]) hx hb dX0_shadowOf_23 hl (by decide) rfl (fun ls hl => ?_)
  refine lv_aload_n hx hb dX0_shadowOf_25 rfl (lv_at hl 3 rfl) ?_
  refine va_get (D := D) (ci := 0) (v := .ref x2) (C := RX0) (T := TX0) (N := 3) hx hb hts inX0 hown hK hP 0 rfl rfl 1 (by decide) (hw 19 rfl) (fun _ h9 => h9) rfl dX0_shadowOf_26 ?_
  refine lv_iload hx hb dX0_shadowOf_29 (lv_at hl 7 rfl) ?_
  refine va_iald hx hb hK hP 2 0 rfl rfl (vp_in_nI (n := b) (by omega) (by decide)) dX0_shadowOf_31 ?_
  refine sm_eqi (y := S b) (sm_cl S (n := b) (by omega)) ?_
  refine lv_istore (lv' := [(8, .int (S b)), (7, .int (S a)), (6, .int (V b)), (5, .int (V a)), (0, .ref x0), (1, .int 8), (2, .int (nI d)), (3, .int (nI a)), (4, .int (nI b))]) hx hb dX0_shadowOf_32 hl (by decide) rfl (fun ls hl => ?_)
  refine lv_iload_n hx hb dX0_shadowOf_34 rfl (lv_at hl 5 rfl) ?_
  refine lv_tableIn (off := 143) (tgt := 178) hx hb dX0_shadowOf_35 (by decide) (by decide) (by decide) (by decide) ?_
  refine lv_iload hx hb dX0_shadowOf_178 (lv_at hl 1 rfl) ?_
  refine lv_iload hx hb dX0_shadowOf_180 (lv_at hl 2 rfl) ?_
  refine lv_iload hx hb dX0_shadowOf_182 (lv_at hl 0 rfl) ?_
  refine sm_callS (As := [.int (S a), .int (V b), .int (S b)]) (rest := []) (wr := (sm_wX cI x0 x1 x2 x3 V S M)) (wn := (sm_wX cI x0 x1 x2 x3 V S M)) (st1 := [.int (nI (sm_tz (S a) + sm_tz ((V b) ||| (S b))))]) ⟨hx, hb, hml, hown, hts⟩ (c_placeLostBy l D (S a) (V b) (S b)) (va_cwS 3 hts (sm_gS (i1 := 149) (i2 := 150) (i4 := 1) (i5 := 151) rfl rfl rfl rfl) rfl rfl rfl (by decide +kernel) ⟨Nat.le_of_ble_eq_true rfl, Nat.le_of_ble_eq_true rfl⟩) hK [] rfl hP hD hS hA [] [0, 1, 2, 3] rfl rfl (by decide) (by decide) (by decide) rfl hl.1 rfl (Nat.le_of_ble_eq_true rfl) dX0_shadowOf_184 ⟨Nat.le_of_ble_eq_true rfl, Nat.le_of_ble_eq_true rfl⟩ rfl rfl (fun H locs hP hD hS => ?_)
  refine lv_iload hx hb dX0_shadowOf_187 (lv_at hl 0 rfl) ?_
  refine lv_iload hx hb dX0_shadowOf_189 (lv_at hl 3 rfl) ?_
  refine lv_iload hx hb dX0_shadowOf_191 (lv_at hl 1 rfl) ?_
  refine sm_callS (As := [.int (S b), .int (V a), .int (S a)]) (rest := [.int (nI (sm_tz (S a) + sm_tz ((V b) ||| (S b))))]) (wr := (sm_wX cI x0 x1 x2 x3 V S M)) (wn := (sm_wX cI x0 x1 x2 x3 V S M)) (st1 := [.int (nI (sm_tz (S b) + sm_tz ((V a) ||| (S a)))), .int (nI (sm_tz (S a) + sm_tz ((V b) ||| (S b))))]) ⟨hx, hb, hml, hown, hts⟩ (c_placeLostBy l D (S b) (V a) (S a)) (va_cwS 3 hts (sm_gS (i1 := 149) (i2 := 150) (i4 := 1) (i5 := 151) rfl rfl rfl rfl) rfl rfl rfl (by decide +kernel) ⟨Nat.le_of_ble_eq_true rfl, Nat.le_of_ble_eq_true rfl⟩) hK [] rfl hP hD hS hA [] [0, 1, 2, 3] rfl rfl (by decide) (by decide) (by decide) rfl hl.1 rfl (Nat.le_of_ble_eq_true rfl) dX0_shadowOf_193 ⟨Nat.le_of_ble_eq_true rfl, Nat.le_of_ble_eq_true rfl⟩ rfl rfl (fun H locs hP hD hS => ?_)
  refine va_mmin hx hb (hml.trans hl.1.symm) hown (hw 152 rfl) (hw 153 rfl) (hw 9 rfl) (hw 154 rfl) (Nat.le_of_ble_eq_true rfl) (Nat.le_of_ble_eq_true rfl) (Nat.le_of_ble_eq_true rfl) (Nat.le_of_ble_eq_true rfl) dX0_shadowOf_196 ?_
  refine sm_eqi (y := nI (sm_min (sm_tz (S a) + sm_tz ((V b) ||| (S b))) (sm_tz (S b) + sm_tz ((V a) ||| (S a))))) (sm_minI (sm_tz (S a) + sm_tz ((V b) ||| (S b))) (sm_tz (S b) + sm_tz ((V a) ||| (S a))) (by omega) (by omega)) ?_
  refine sm_callS (As := [.int (nI (sm_min (sm_tz (S a) + sm_tz ((V b) ||| (S b))) (sm_tz (S b) + sm_tz ((V a) ||| (S a)))))]) (rest := []) (wr := (sm_wX cI x0 x1 x2 x3 V S M)) (wn := (sm_wX cI x0 x1 x2 x3 V S M)) (st1 := [.int (sm_fr (sm_min (sm_tz (S a) + sm_tz ((V b) ||| (S b))) (sm_tz (S b) + sm_tz ((V a) ||| (S a)))))]) ⟨hx, hb, hml, hown, hts⟩ (c_fromPlaceOn l D (sm_min (sm_tz (S a) + sm_tz ((V b) ||| (S b))) (sm_tz (S b) + sm_tz ((V a) ||| (S a)))) (by omega)) (va_cwS 1 hts (sm_gS (i1 := 146) (i2 := 147) (i4 := 1) (i5 := 148) rfl rfl rfl rfl) rfl rfl rfl (by decide +kernel) ⟨Nat.le_of_ble_eq_true rfl, Nat.le_of_ble_eq_true rfl⟩) hK [] rfl hP hD hS hA [] [0, 1, 2, 3] rfl rfl (by decide) (by decide) (by decide) rfl hl.1 rfl (Nat.le_of_ble_eq_true rfl) dX0_shadowOf_199 ⟨Nat.le_of_ble_eq_true rfl, Nat.le_of_ble_eq_true rfl⟩ rfl rfl (fun H locs hP hD hS => ?_)
  refine sm_eqi (y := sm_fr (sm_min (sm_tz (S a) + sm_tz (V b ||| S b)) (sm_tz (S b) + sm_tz (V a ||| S a)))) (rfl) ?_
  exact sm_iret hx hb hrt hlocks hS hP hD dX0_shadowOf_202
set_option maxHeartbeats 4000000 in
set_option maxRecDepth 100000 in
theorem c_shadowOf_9 (l : Launch) (D : va_G) (cI : ClassId) (x0 x1 x2 x3 : Nat) (V S M : Nat → Int32) (d a b : Nat) (hd : d < 16) (ha : a < 16) (hb' : b < 16) : sm_C l yX0_shadowOf wsX0_shadowOf ({ frames := 3, cells := 0, slots := 0, locals := 96 } : Room) D vwCl [(cI, .int)] [.ref x0, .int 9, .int (nI d), .int (nI a), .int (nI b)] (sm_wX cI x0 x1 x2 x3 V S M) (some (.int (sm_bI (decide (sm_le (V a) (S a) < sm_he (V b) (S b)) && decide (sm_le (V b) (S b) ≤ sm_he (V a) (S a)))))) (sm_wX cI x0 x1 x2 x3 V S M) := by
  refine sm_start (cc := cX0_shadowOf) (maxL := 9) (ret := some .int) (lv := [(0, .ref x0), (1, .int 9), (2, .int (nI d)), (3, .int (nI a)), (4, .int (nI b))]) (by decide) rfl (Nat.le_of_ble_eq_true rfl) rfl ?_
  intro p e s m below meth c hx hb hrt hts hown hlocks hml hin hK hP hD hS hA ls hl
  have hw := sm_hw hts
  have q1 := sm_tz_le (S a)
  have q2 := sm_tz_le (S b)
  have q3 := sm_tz_le (V b ||| S b)
  have q4 := sm_tz_le (V a ||| S a)
  have q5 := sm_tz_le (S a ||| S b)
  have q6 := sm_min_le (sm_tz (S a) + sm_tz (V b ||| S b)) (sm_tz (S b) + sm_tz (V a ||| S a))
  refine lv_aload_n hx hb dX0_shadowOf_0 rfl (lv_at hl 0 rfl) ?_
  refine va_get (D := D) (ci := 0) (v := .ref x1) (C := RX0) (T := TX0) (N := 3) hx hb hts inX0 hown hK hP 0 rfl rfl 0 (by decide) (hw 18 rfl) (fun _ h9 => h9) rfl dX0_shadowOf_1 ?_
  refine lv_iload_n hx hb dX0_shadowOf_4 rfl (lv_at hl 3 rfl) ?_
  refine va_iald hx hb hK hP 1 0 rfl rfl (vp_in_nI (n := a) (by omega) (by decide)) dX0_shadowOf_5 ?_
  refine sm_eqi (y := V a) (sm_cl V (n := a) (by omega)) ?_
  refine lv_istore (lv' := [(5, .int (V a)), (0, .ref x0), (1, .int 9), (2, .int (nI d)), (3, .int (nI a)), (4, .int (nI b))]) hx hb dX0_shadowOf_6 hl (by decide) rfl (fun ls hl => ?_)
  refine lv_aload_n hx hb dX0_shadowOf_8 rfl (lv_at hl 1 rfl) ?_
  refine va_get (D := D) (ci := 0) (v := .ref x1) (C := RX0) (T := TX0) (N := 3) hx hb hts inX0 hown hK hP 0 rfl rfl 0 (by decide) (hw 18 rfl) (fun _ h9 => h9) rfl dX0_shadowOf_9 ?_
  refine lv_iload hx hb dX0_shadowOf_12 (lv_at hl 5 rfl) ?_
  refine va_iald hx hb hK hP 1 0 rfl rfl (vp_in_nI (n := b) (by omega) (by decide)) dX0_shadowOf_14 ?_
  refine sm_eqi (y := V b) (sm_cl V (n := b) (by omega)) ?_
  refine lv_istore (lv' := [(6, .int (V b)), (5, .int (V a)), (0, .ref x0), (1, .int 9), (2, .int (nI d)), (3, .int (nI a)), (4, .int (nI b))]) hx hb dX0_shadowOf_15 hl (by decide) rfl (fun ls hl => ?_)
  refine lv_aload_n hx hb dX0_shadowOf_17 rfl (lv_at hl 2 rfl) ?_
  refine va_get (D := D) (ci := 0) (v := .ref x2) (C := RX0) (T := TX0) (N := 3) hx hb hts inX0 hown hK hP 0 rfl rfl 1 (by decide) (hw 19 rfl) (fun _ h9 => h9) rfl dX0_shadowOf_18 ?_
  refine lv_iload_n hx hb dX0_shadowOf_21 rfl (lv_at hl 5 rfl) ?_
  refine va_iald hx hb hK hP 2 0 rfl rfl (vp_in_nI (n := a) (by omega) (by decide)) dX0_shadowOf_22 ?_
  refine sm_eqi (y := S a) (sm_cl S (n := a) (by omega)) ?_
  refine lv_istore (lv' := [(7, .int (S a)), (6, .int (V b)), (5, .int (V a)), (0, .ref x0), (1, .int 9), (2, .int (nI d)), (3, .int (nI a)), (4, .int (nI b))]) hx hb dX0_shadowOf_23 hl (by decide) rfl (fun ls hl => ?_)
  refine lv_aload_n hx hb dX0_shadowOf_25 rfl (lv_at hl 3 rfl) ?_
  refine va_get (D := D) (ci := 0) (v := .ref x2) (C := RX0) (T := TX0) (N := 3) hx hb hts inX0 hown hK hP 0 rfl rfl 1 (by decide) (hw 19 rfl) (fun _ h9 => h9) rfl dX0_shadowOf_26 ?_
  refine lv_iload hx hb dX0_shadowOf_29 (lv_at hl 7 rfl) ?_
  refine va_iald hx hb hK hP 2 0 rfl rfl (vp_in_nI (n := b) (by omega) (by decide)) dX0_shadowOf_31 ?_
  refine sm_eqi (y := S b) (sm_cl S (n := b) (by omega)) ?_
  refine lv_istore (lv' := [(8, .int (S b)), (7, .int (S a)), (6, .int (V b)), (5, .int (V a)), (0, .ref x0), (1, .int 9), (2, .int (nI d)), (3, .int (nI a)), (4, .int (nI b))]) hx hb dX0_shadowOf_32 hl (by decide) rfl (fun ls hl => ?_)
  refine lv_iload_n hx hb dX0_shadowOf_34 rfl (lv_at hl 5 rfl) ?_
  refine lv_tableIn (off := 168) (tgt := 203) hx hb dX0_shadowOf_35 (by decide) (by decide) (by decide) (by decide) ?_
  refine lv_iload hx hb dX0_shadowOf_203 (lv_at hl 3 rfl) ?_
  refine lv_iload hx hb dX0_shadowOf_205 (lv_at hl 1 rfl) ?_
  refine lv_iload hx hb dX0_shadowOf_207 (lv_at hl 2 rfl) ?_
  refine lv_iload hx hb dX0_shadowOf_209 (lv_at hl 0 rfl) ?_
  refine sm_callS (As := [.int (V a), .int (S a), .int (V b), .int (S b)]) (rest := []) (wr := (sm_wX cI x0 x1 x2 x3 V S M)) (wn := (sm_wX cI x0 x1 x2 x3 V S M)) (st1 := [.int (sm_bI (decide (sm_le (V a) (S a) < sm_he (V b) (S b)) && decide (sm_le (V b) (S b) ≤ sm_he (V a) (S a))))]) ⟨hx, hb, hml, hown, hts⟩ (c_orderHangs l D (V a) (S a) (V b) (S b)) (va_cwS 4 hts (sm_gS (i1 := 155) (i2 := 156) (i4 := 1) (i5 := 157) rfl rfl rfl rfl) rfl rfl rfl (by decide +kernel) ⟨Nat.le_of_ble_eq_true rfl, Nat.le_of_ble_eq_true rfl⟩) hK [] rfl hP hD hS hA [] [0, 1, 2, 3] rfl rfl (by decide) (by decide) (by decide) rfl hl.1 rfl (Nat.le_of_ble_eq_true rfl) dX0_shadowOf_211 ⟨Nat.le_of_ble_eq_true rfl, Nat.le_of_ble_eq_true rfl⟩ rfl rfl (fun H locs hP hD hS => ?_)
  refine sm_callS (As := [.int (sm_bI (decide (sm_le (V a) (S a) < sm_he (V b) (S b)) && decide (sm_le (V b) (S b) ≤ sm_he (V a) (S a))))]) (rest := []) (wr := (sm_wX cI x0 x1 x2 x3 V S M)) (wn := (sm_wX cI x0 x1 x2 x3 V S M)) (st1 := [.int (sm_bI (decide (sm_le (V a) (S a) < sm_he (V b) (S b)) && decide (sm_le (V b) (S b) ≤ sm_he (V a) (S a))))]) ⟨hx, hb, hml, hown, hts⟩ (c_bit l D (decide (sm_le (V a) (S a) < sm_he (V b) (S b)) && decide (sm_le (V b) (S b) ≤ sm_he (V a) (S a)))) (va_cwS 1 hts (sm_gS (i1 := 129) (i2 := 130) (i4 := 1) (i5 := 131) rfl rfl rfl rfl) rfl rfl rfl (by decide +kernel) ⟨Nat.le_of_ble_eq_true rfl, Nat.le_of_ble_eq_true rfl⟩) hK [] rfl hP hD hS hA [] [0, 1, 2, 3] rfl rfl (by decide) (by decide) (by decide) rfl hl.1 rfl (Nat.le_of_ble_eq_true rfl) dX0_shadowOf_214 ⟨Nat.le_of_ble_eq_true rfl, Nat.le_of_ble_eq_true rfl⟩ rfl rfl (fun H locs hP hD hS => ?_)
  exact sm_iret hx hb hrt hlocks hS hP hD dX0_shadowOf_217
set_option maxHeartbeats 4000000 in
set_option maxRecDepth 100000 in
theorem c_shadowOf_10 (l : Launch) (D : va_G) (cI : ClassId) (x0 x1 x2 x3 : Nat) (V S M : Nat → Int32) (d a b : Nat) (hd : d < 16) (ha : a < 16) (hb' : b < 16) : sm_C l yX0_shadowOf wsX0_shadowOf ({ frames := 3, cells := 0, slots := 0, locals := 96 } : Room) D vwCl [(cI, .int)] [.ref x0, .int 10, .int (nI d), .int (nI a), .int (nI b)] (sm_wX cI x0 x1 x2 x3 V S M) (some (.int (sm_bI (decide (sm_le (V a ^^^ (-2147483648)) (S a) < sm_he (V b ^^^ (-2147483648)) (S b)) && decide (sm_le (V b ^^^ (-2147483648)) (S b) ≤ sm_he (V a ^^^ (-2147483648)) (S a)))))) (sm_wX cI x0 x1 x2 x3 V S M) := by
  refine sm_start (cc := cX0_shadowOf) (maxL := 9) (ret := some .int) (lv := [(0, .ref x0), (1, .int 10), (2, .int (nI d)), (3, .int (nI a)), (4, .int (nI b))]) (by decide) rfl (Nat.le_of_ble_eq_true rfl) rfl ?_
  intro p e s m below meth c hx hb hrt hts hown hlocks hml hin hK hP hD hS hA ls hl
  have hw := sm_hw hts
  have q1 := sm_tz_le (S a)
  have q2 := sm_tz_le (S b)
  have q3 := sm_tz_le (V b ||| S b)
  have q4 := sm_tz_le (V a ||| S a)
  have q5 := sm_tz_le (S a ||| S b)
  have q6 := sm_min_le (sm_tz (S a) + sm_tz (V b ||| S b)) (sm_tz (S b) + sm_tz (V a ||| S a))
  refine lv_aload_n hx hb dX0_shadowOf_0 rfl (lv_at hl 0 rfl) ?_
  refine va_get (D := D) (ci := 0) (v := .ref x1) (C := RX0) (T := TX0) (N := 3) hx hb hts inX0 hown hK hP 0 rfl rfl 0 (by decide) (hw 18 rfl) (fun _ h9 => h9) rfl dX0_shadowOf_1 ?_
  refine lv_iload_n hx hb dX0_shadowOf_4 rfl (lv_at hl 3 rfl) ?_
  refine va_iald hx hb hK hP 1 0 rfl rfl (vp_in_nI (n := a) (by omega) (by decide)) dX0_shadowOf_5 ?_
  refine sm_eqi (y := V a) (sm_cl V (n := a) (by omega)) ?_
  refine lv_istore (lv' := [(5, .int (V a)), (0, .ref x0), (1, .int 10), (2, .int (nI d)), (3, .int (nI a)), (4, .int (nI b))]) hx hb dX0_shadowOf_6 hl (by decide) rfl (fun ls hl => ?_)
  refine lv_aload_n hx hb dX0_shadowOf_8 rfl (lv_at hl 1 rfl) ?_
  refine va_get (D := D) (ci := 0) (v := .ref x1) (C := RX0) (T := TX0) (N := 3) hx hb hts inX0 hown hK hP 0 rfl rfl 0 (by decide) (hw 18 rfl) (fun _ h9 => h9) rfl dX0_shadowOf_9 ?_
  refine lv_iload hx hb dX0_shadowOf_12 (lv_at hl 5 rfl) ?_
  refine va_iald hx hb hK hP 1 0 rfl rfl (vp_in_nI (n := b) (by omega) (by decide)) dX0_shadowOf_14 ?_
  refine sm_eqi (y := V b) (sm_cl V (n := b) (by omega)) ?_
  refine lv_istore (lv' := [(6, .int (V b)), (5, .int (V a)), (0, .ref x0), (1, .int 10), (2, .int (nI d)), (3, .int (nI a)), (4, .int (nI b))]) hx hb dX0_shadowOf_15 hl (by decide) rfl (fun ls hl => ?_)
  refine lv_aload_n hx hb dX0_shadowOf_17 rfl (lv_at hl 2 rfl) ?_
  refine va_get (D := D) (ci := 0) (v := .ref x2) (C := RX0) (T := TX0) (N := 3) hx hb hts inX0 hown hK hP 0 rfl rfl 1 (by decide) (hw 19 rfl) (fun _ h9 => h9) rfl dX0_shadowOf_18 ?_
  refine lv_iload_n hx hb dX0_shadowOf_21 rfl (lv_at hl 5 rfl) ?_
  refine va_iald hx hb hK hP 2 0 rfl rfl (vp_in_nI (n := a) (by omega) (by decide)) dX0_shadowOf_22 ?_
  refine sm_eqi (y := S a) (sm_cl S (n := a) (by omega)) ?_
  refine lv_istore (lv' := [(7, .int (S a)), (6, .int (V b)), (5, .int (V a)), (0, .ref x0), (1, .int 10), (2, .int (nI d)), (3, .int (nI a)), (4, .int (nI b))]) hx hb dX0_shadowOf_23 hl (by decide) rfl (fun ls hl => ?_)
  refine lv_aload_n hx hb dX0_shadowOf_25 rfl (lv_at hl 3 rfl) ?_
  refine va_get (D := D) (ci := 0) (v := .ref x2) (C := RX0) (T := TX0) (N := 3) hx hb hts inX0 hown hK hP 0 rfl rfl 1 (by decide) (hw 19 rfl) (fun _ h9 => h9) rfl dX0_shadowOf_26 ?_
  refine lv_iload hx hb dX0_shadowOf_29 (lv_at hl 7 rfl) ?_
  refine va_iald hx hb hK hP 2 0 rfl rfl (vp_in_nI (n := b) (by omega) (by decide)) dX0_shadowOf_31 ?_
  refine sm_eqi (y := S b) (sm_cl S (n := b) (by omega)) ?_
  refine lv_istore (lv' := [(8, .int (S b)), (7, .int (S a)), (6, .int (V b)), (5, .int (V a)), (0, .ref x0), (1, .int 10), (2, .int (nI d)), (3, .int (nI a)), (4, .int (nI b))]) hx hb dX0_shadowOf_32 hl (by decide) rfl (fun ls hl => ?_)
  refine lv_iload_n hx hb dX0_shadowOf_34 rfl (lv_at hl 5 rfl) ?_
  refine lv_tableIn (off := 183) (tgt := 218) hx hb dX0_shadowOf_35 (by decide) (by decide) (by decide) (by decide) ?_
  refine lv_iload hx hb dX0_shadowOf_218 (lv_at hl 3 rfl) ?_
  refine sm_callS (As := [.int (V a)]) (rest := []) (wr := (sm_wX cI x0 x1 x2 x3 V S M)) (wn := (sm_wX cI x0 x1 x2 x3 V S M)) (st1 := [.int ((V a) ^^^ (-2147483648))]) ⟨hx, hb, hml, hown, hts⟩ (c_signTurned l D (V a)) (va_cwS 1 hts (sm_gS (i1 := 132) (i2 := 133) (i4 := 1) (i5 := 134) rfl rfl rfl rfl) rfl rfl rfl (by decide +kernel) ⟨Nat.le_of_ble_eq_true rfl, Nat.le_of_ble_eq_true rfl⟩) hK [] rfl hP hD hS hA [] [0, 1, 2, 3] rfl rfl (by decide) (by decide) (by decide) rfl hl.1 rfl (Nat.le_of_ble_eq_true rfl) dX0_shadowOf_220 ⟨Nat.le_of_ble_eq_true rfl, Nat.le_of_ble_eq_true rfl⟩ rfl rfl (fun H locs hP hD hS => ?_)
  refine lv_iload hx hb dX0_shadowOf_223 (lv_at hl 1 rfl) ?_
  refine lv_iload hx hb dX0_shadowOf_225 (lv_at hl 2 rfl) ?_
  refine sm_callS (As := [.int (V b)]) (rest := [.int (S a), .int ((V a) ^^^ (-2147483648))]) (wr := (sm_wX cI x0 x1 x2 x3 V S M)) (wn := (sm_wX cI x0 x1 x2 x3 V S M)) (st1 := [.int ((V b) ^^^ (-2147483648)), .int (S a), .int ((V a) ^^^ (-2147483648))]) ⟨hx, hb, hml, hown, hts⟩ (c_signTurned l D (V b)) (va_cwS 1 hts (sm_gS (i1 := 132) (i2 := 133) (i4 := 1) (i5 := 134) rfl rfl rfl rfl) rfl rfl rfl (by decide +kernel) ⟨Nat.le_of_ble_eq_true rfl, Nat.le_of_ble_eq_true rfl⟩) hK [] rfl hP hD hS hA [] [0, 1, 2, 3] rfl rfl (by decide) (by decide) (by decide) rfl hl.1 rfl (Nat.le_of_ble_eq_true rfl) dX0_shadowOf_227 ⟨Nat.le_of_ble_eq_true rfl, Nat.le_of_ble_eq_true rfl⟩ rfl rfl (fun H locs hP hD hS => ?_)
  refine lv_iload hx hb dX0_shadowOf_230 (lv_at hl 0 rfl) ?_
  refine sm_callS (As := [.int ((V a) ^^^ (-2147483648)), .int (S a), .int ((V b) ^^^ (-2147483648)), .int (S b)]) (rest := []) (wr := (sm_wX cI x0 x1 x2 x3 V S M)) (wn := (sm_wX cI x0 x1 x2 x3 V S M)) (st1 := [.int (sm_bI (decide (sm_le ((V a) ^^^ (-2147483648)) (S a) < sm_he ((V b) ^^^ (-2147483648)) (S b)) && decide (sm_le ((V b) ^^^ (-2147483648)) (S b) ≤ sm_he ((V a) ^^^ (-2147483648)) (S a))))]) ⟨hx, hb, hml, hown, hts⟩ (c_orderHangs l D ((V a) ^^^ (-2147483648)) (S a) ((V b) ^^^ (-2147483648)) (S b)) (va_cwS 4 hts (sm_gS (i1 := 155) (i2 := 156) (i4 := 1) (i5 := 157) rfl rfl rfl rfl) rfl rfl rfl (by decide +kernel) ⟨Nat.le_of_ble_eq_true rfl, Nat.le_of_ble_eq_true rfl⟩) hK [] rfl hP hD hS hA [] [0, 1, 2, 3] rfl rfl (by decide) (by decide) (by decide) rfl hl.1 rfl (Nat.le_of_ble_eq_true rfl) dX0_shadowOf_232 ⟨Nat.le_of_ble_eq_true rfl, Nat.le_of_ble_eq_true rfl⟩ rfl rfl (fun H locs hP hD hS => ?_)
  refine sm_callS (As := [.int (sm_bI (decide (sm_le ((V a) ^^^ (-2147483648)) (S a) < sm_he ((V b) ^^^ (-2147483648)) (S b)) && decide (sm_le ((V b) ^^^ (-2147483648)) (S b) ≤ sm_he ((V a) ^^^ (-2147483648)) (S a))))]) (rest := []) (wr := (sm_wX cI x0 x1 x2 x3 V S M)) (wn := (sm_wX cI x0 x1 x2 x3 V S M)) (st1 := [.int (sm_bI (decide (sm_le ((V a) ^^^ (-2147483648)) (S a) < sm_he ((V b) ^^^ (-2147483648)) (S b)) && decide (sm_le ((V b) ^^^ (-2147483648)) (S b) ≤ sm_he ((V a) ^^^ (-2147483648)) (S a))))]) ⟨hx, hb, hml, hown, hts⟩ (c_bit l D (decide (sm_le ((V a) ^^^ (-2147483648)) (S a) < sm_he ((V b) ^^^ (-2147483648)) (S b)) && decide (sm_le ((V b) ^^^ (-2147483648)) (S b) ≤ sm_he ((V a) ^^^ (-2147483648)) (S a)))) (va_cwS 1 hts (sm_gS (i1 := 129) (i2 := 130) (i4 := 1) (i5 := 131) rfl rfl rfl rfl) rfl rfl rfl (by decide +kernel) ⟨Nat.le_of_ble_eq_true rfl, Nat.le_of_ble_eq_true rfl⟩) hK [] rfl hP hD hS hA [] [0, 1, 2, 3] rfl rfl (by decide) (by decide) (by decide) rfl hl.1 rfl (Nat.le_of_ble_eq_true rfl) dX0_shadowOf_235 ⟨Nat.le_of_ble_eq_true rfl, Nat.le_of_ble_eq_true rfl⟩ rfl rfl (fun H locs hP hD hS => ?_)
  refine sm_eqi (y := sm_bI (decide (sm_le (V a ^^^ (-2147483648)) (S a) < sm_he (V b ^^^ (-2147483648)) (S b)) && decide (sm_le (V b ^^^ (-2147483648)) (S b) ≤ sm_he (V a ^^^ (-2147483648)) (S a)))) (rfl) ?_
  exact sm_iret hx hb hrt hlocks hS hP hD dX0_shadowOf_238
set_option maxHeartbeats 4000000 in
set_option maxRecDepth 100000 in
theorem c_shadowOf_11 (l : Launch) (D : va_G) (cI : ClassId) (x0 x1 x2 x3 : Nat) (V S M : Nat → Int32) (d a b : Nat) (hd : d < 16) (ha : a < 16) (hb' : b < 16) : sm_C l yX0_shadowOf wsX0_shadowOf ({ frames := 3, cells := 0, slots := 0, locals := 96 } : Room) D vwCl [(cI, .int)] [.ref x0, .int 11, .int (nI d), .int (nI a), .int (nI b)] (sm_wX cI x0 x1 x2 x3 V S M) (some (.int (sm_bI (!decide (S a ||| S b = 0) && decide ((V a ^^^ V b) &&& ((S a ||| S b) ^^^ (-1)) = 0))))) (sm_wX cI x0 x1 x2 x3 V S M) := by
  refine sm_start (cc := cX0_shadowOf) (maxL := 9) (ret := some .int) (lv := [(0, .ref x0), (1, .int 11), (2, .int (nI d)), (3, .int (nI a)), (4, .int (nI b))]) (by decide) rfl (Nat.le_of_ble_eq_true rfl) rfl ?_
  intro p e s m below meth c hx hb hrt hts hown hlocks hml hin hK hP hD hS hA ls hl
  have hw := sm_hw hts
  have q1 := sm_tz_le (S a)
  have q2 := sm_tz_le (S b)
  have q3 := sm_tz_le (V b ||| S b)
  have q4 := sm_tz_le (V a ||| S a)
  have q5 := sm_tz_le (S a ||| S b)
  have q6 := sm_min_le (sm_tz (S a) + sm_tz (V b ||| S b)) (sm_tz (S b) + sm_tz (V a ||| S a))
  refine lv_aload_n hx hb dX0_shadowOf_0 rfl (lv_at hl 0 rfl) ?_
  refine va_get (D := D) (ci := 0) (v := .ref x1) (C := RX0) (T := TX0) (N := 3) hx hb hts inX0 hown hK hP 0 rfl rfl 0 (by decide) (hw 18 rfl) (fun _ h9 => h9) rfl dX0_shadowOf_1 ?_
  refine lv_iload_n hx hb dX0_shadowOf_4 rfl (lv_at hl 3 rfl) ?_
  refine va_iald hx hb hK hP 1 0 rfl rfl (vp_in_nI (n := a) (by omega) (by decide)) dX0_shadowOf_5 ?_
  refine sm_eqi (y := V a) (sm_cl V (n := a) (by omega)) ?_
  refine lv_istore (lv' := [(5, .int (V a)), (0, .ref x0), (1, .int 11), (2, .int (nI d)), (3, .int (nI a)), (4, .int (nI b))]) hx hb dX0_shadowOf_6 hl (by decide) rfl (fun ls hl => ?_)
  refine lv_aload_n hx hb dX0_shadowOf_8 rfl (lv_at hl 1 rfl) ?_
  refine va_get (D := D) (ci := 0) (v := .ref x1) (C := RX0) (T := TX0) (N := 3) hx hb hts inX0 hown hK hP 0 rfl rfl 0 (by decide) (hw 18 rfl) (fun _ h9 => h9) rfl dX0_shadowOf_9 ?_
  refine lv_iload hx hb dX0_shadowOf_12 (lv_at hl 5 rfl) ?_
  refine va_iald hx hb hK hP 1 0 rfl rfl (vp_in_nI (n := b) (by omega) (by decide)) dX0_shadowOf_14 ?_
  refine sm_eqi (y := V b) (sm_cl V (n := b) (by omega)) ?_
  refine lv_istore (lv' := [(6, .int (V b)), (5, .int (V a)), (0, .ref x0), (1, .int 11), (2, .int (nI d)), (3, .int (nI a)), (4, .int (nI b))]) hx hb dX0_shadowOf_15 hl (by decide) rfl (fun ls hl => ?_)
  refine lv_aload_n hx hb dX0_shadowOf_17 rfl (lv_at hl 2 rfl) ?_
  refine va_get (D := D) (ci := 0) (v := .ref x2) (C := RX0) (T := TX0) (N := 3) hx hb hts inX0 hown hK hP 0 rfl rfl 1 (by decide) (hw 19 rfl) (fun _ h9 => h9) rfl dX0_shadowOf_18 ?_
  refine lv_iload_n hx hb dX0_shadowOf_21 rfl (lv_at hl 5 rfl) ?_
  refine va_iald hx hb hK hP 2 0 rfl rfl (vp_in_nI (n := a) (by omega) (by decide)) dX0_shadowOf_22 ?_
  refine sm_eqi (y := S a) (sm_cl S (n := a) (by omega)) ?_
  refine lv_istore (lv' := [(7, .int (S a)), (6, .int (V b)), (5, .int (V a)), (0, .ref x0), (1, .int 11), (2, .int (nI d)), (3, .int (nI a)), (4, .int (nI b))]) hx hb dX0_shadowOf_23 hl (by decide) rfl (fun ls hl => ?_)
  refine lv_aload_n hx hb dX0_shadowOf_25 rfl (lv_at hl 3 rfl) ?_
  refine va_get (D := D) (ci := 0) (v := .ref x2) (C := RX0) (T := TX0) (N := 3) hx hb hts inX0 hown hK hP 0 rfl rfl 1 (by decide) (hw 19 rfl) (fun _ h9 => h9) rfl dX0_shadowOf_26 ?_
  refine lv_iload hx hb dX0_shadowOf_29 (lv_at hl 7 rfl) ?_
  refine va_iald hx hb hK hP 2 0 rfl rfl (vp_in_nI (n := b) (by omega) (by decide)) dX0_shadowOf_31 ?_
  refine sm_eqi (y := S b) (sm_cl S (n := b) (by omega)) ?_
  refine lv_istore (lv' := [(8, .int (S b)), (7, .int (S a)), (6, .int (V b)), (5, .int (V a)), (0, .ref x0), (1, .int 11), (2, .int (nI d)), (3, .int (nI a)), (4, .int (nI b))]) hx hb dX0_shadowOf_32 hl (by decide) rfl (fun ls hl => ?_)
  refine lv_iload_n hx hb dX0_shadowOf_34 rfl (lv_at hl 5 rfl) ?_
  refine lv_tableIn (off := 204) (tgt := 239) hx hb dX0_shadowOf_35 (by decide) (by decide) (by decide) (by decide) ?_
  refine lv_iload hx hb dX0_shadowOf_239 (lv_at hl 3 rfl) ?_
  refine lv_iload hx hb dX0_shadowOf_241 (lv_at hl 2 rfl) ?_
  refine lv_iload hx hb dX0_shadowOf_243 (lv_at hl 1 rfl) ?_
  refine lv_iload hx hb dX0_shadowOf_245 (lv_at hl 0 rfl) ?_
  refine lv_ior hx hb dX0_shadowOf_247 ?_
  refine sm_callS (As := [.int (V a), .int (V b), .int ((S a) ||| (S b))]) (rest := []) (wr := (sm_wX cI x0 x1 x2 x3 V S M)) (wn := (sm_wX cI x0 x1 x2 x3 V S M)) (st1 := [.int (sm_bI (!decide ((S a) ||| (S b) = 0) && decide (((V a) ^^^ (V b)) &&& (((S a) ||| (S b)) ^^^ (-1)) = 0)))]) ⟨hx, hb, hml, hown, hts⟩ (c_samenessHangs l D (V a) (V b) ((S a) ||| (S b))) (va_cwS 3 hts (sm_gS (i1 := 165) (i2 := 166) (i4 := 1) (i5 := 167) rfl rfl rfl rfl) rfl rfl rfl (by decide +kernel) ⟨Nat.le_of_ble_eq_true rfl, Nat.le_of_ble_eq_true rfl⟩) hK [] rfl hP hD hS hA [] [0, 1, 2, 3] rfl rfl (by decide) (by decide) (by decide) rfl hl.1 rfl (Nat.le_of_ble_eq_true rfl) dX0_shadowOf_248 ⟨Nat.le_of_ble_eq_true rfl, Nat.le_of_ble_eq_true rfl⟩ rfl rfl (fun H locs hP hD hS => ?_)
  refine sm_callS (As := [.int (sm_bI (!decide ((S a) ||| (S b) = 0) && decide (((V a) ^^^ (V b)) &&& (((S a) ||| (S b)) ^^^ (-1)) = 0)))]) (rest := []) (wr := (sm_wX cI x0 x1 x2 x3 V S M)) (wn := (sm_wX cI x0 x1 x2 x3 V S M)) (st1 := [.int (sm_bI (!decide ((S a) ||| (S b) = 0) && decide (((V a) ^^^ (V b)) &&& (((S a) ||| (S b)) ^^^ (-1)) = 0)))]) ⟨hx, hb, hml, hown, hts⟩ (c_bit l D (!decide ((S a) ||| (S b) = 0) && decide (((V a) ^^^ (V b)) &&& (((S a) ||| (S b)) ^^^ (-1)) = 0))) (va_cwS 1 hts (sm_gS (i1 := 129) (i2 := 130) (i4 := 1) (i5 := 131) rfl rfl rfl rfl) rfl rfl rfl (by decide +kernel) ⟨Nat.le_of_ble_eq_true rfl, Nat.le_of_ble_eq_true rfl⟩) hK [] rfl hP hD hS hA [] [0, 1, 2, 3] rfl rfl (by decide) (by decide) (by decide) rfl hl.1 rfl (Nat.le_of_ble_eq_true rfl) dX0_shadowOf_251 ⟨Nat.le_of_ble_eq_true rfl, Nat.le_of_ble_eq_true rfl⟩ rfl rfl (fun H locs hP hD hS => ?_)
  refine sm_eqi (y := sm_bI (!decide (S a ||| S b = 0) && decide ((V a ^^^ V b) &&& ((S a ||| S b) ^^^ (-1)) = 0))) (by simp [sm_bI]) ?_
  exact sm_iret hx hb hrt hlocks hS hP hD dX0_shadowOf_254
set_option maxHeartbeats 4000000 in
set_option maxRecDepth 100000 in
theorem c_shadowOf_12 (l : Launch) (D : va_G) (cI : ClassId) (x0 x1 x2 x3 : Nat) (V S M : Nat → Int32) (d a b : Nat) (hd : d < 16) (ha : a < 16) (hb' : b < 16) : sm_C l yX0_shadowOf wsX0_shadowOf ({ frames := 3, cells := 0, slots := 0, locals := 96 } : Room) D vwCl [(cI, .int)] [.ref x0, .int 12, .int (nI d), .int (nI a), .int (nI b)] (sm_wX cI x0 x1 x2 x3 V S M) (some (.int (if bt (S b) 0 then S a ||| S d ||| (V a ^^^ V d) else if bt (V b) 0 then S a else S d))) (sm_wX cI x0 x1 x2 x3 V S M) := by
  refine sm_start (cc := cX0_shadowOf) (maxL := 9) (ret := some .int) (lv := [(0, .ref x0), (1, .int 12), (2, .int (nI d)), (3, .int (nI a)), (4, .int (nI b))]) (by decide) rfl (Nat.le_of_ble_eq_true rfl) rfl ?_
  intro p e s m below meth c hx hb hrt hts hown hlocks hml hin hK hP hD hS hA ls hl
  have hw := sm_hw hts
  have q1 := sm_tz_le (S a)
  have q2 := sm_tz_le (S b)
  have q3 := sm_tz_le (V b ||| S b)
  have q4 := sm_tz_le (V a ||| S a)
  have q5 := sm_tz_le (S a ||| S b)
  have q6 := sm_min_le (sm_tz (S a) + sm_tz (V b ||| S b)) (sm_tz (S b) + sm_tz (V a ||| S a))
  refine lv_aload_n hx hb dX0_shadowOf_0 rfl (lv_at hl 0 rfl) ?_
  refine va_get (D := D) (ci := 0) (v := .ref x1) (C := RX0) (T := TX0) (N := 3) hx hb hts inX0 hown hK hP 0 rfl rfl 0 (by decide) (hw 18 rfl) (fun _ h9 => h9) rfl dX0_shadowOf_1 ?_
  refine lv_iload_n hx hb dX0_shadowOf_4 rfl (lv_at hl 3 rfl) ?_
  refine va_iald hx hb hK hP 1 0 rfl rfl (vp_in_nI (n := a) (by omega) (by decide)) dX0_shadowOf_5 ?_
  refine sm_eqi (y := V a) (sm_cl V (n := a) (by omega)) ?_
  refine lv_istore (lv' := [(5, .int (V a)), (0, .ref x0), (1, .int 12), (2, .int (nI d)), (3, .int (nI a)), (4, .int (nI b))]) hx hb dX0_shadowOf_6 hl (by decide) rfl (fun ls hl => ?_)
  refine lv_aload_n hx hb dX0_shadowOf_8 rfl (lv_at hl 1 rfl) ?_
  refine va_get (D := D) (ci := 0) (v := .ref x1) (C := RX0) (T := TX0) (N := 3) hx hb hts inX0 hown hK hP 0 rfl rfl 0 (by decide) (hw 18 rfl) (fun _ h9 => h9) rfl dX0_shadowOf_9 ?_
  refine lv_iload hx hb dX0_shadowOf_12 (lv_at hl 5 rfl) ?_
  refine va_iald hx hb hK hP 1 0 rfl rfl (vp_in_nI (n := b) (by omega) (by decide)) dX0_shadowOf_14 ?_
  refine sm_eqi (y := V b) (sm_cl V (n := b) (by omega)) ?_
  refine lv_istore (lv' := [(6, .int (V b)), (5, .int (V a)), (0, .ref x0), (1, .int 12), (2, .int (nI d)), (3, .int (nI a)), (4, .int (nI b))]) hx hb dX0_shadowOf_15 hl (by decide) rfl (fun ls hl => ?_)
  refine lv_aload_n hx hb dX0_shadowOf_17 rfl (lv_at hl 2 rfl) ?_
  refine va_get (D := D) (ci := 0) (v := .ref x2) (C := RX0) (T := TX0) (N := 3) hx hb hts inX0 hown hK hP 0 rfl rfl 1 (by decide) (hw 19 rfl) (fun _ h9 => h9) rfl dX0_shadowOf_18 ?_
  refine lv_iload_n hx hb dX0_shadowOf_21 rfl (lv_at hl 5 rfl) ?_
  refine va_iald hx hb hK hP 2 0 rfl rfl (vp_in_nI (n := a) (by omega) (by decide)) dX0_shadowOf_22 ?_
  refine sm_eqi (y := S a) (sm_cl S (n := a) (by omega)) ?_
  refine lv_istore (lv' := [(7, .int (S a)), (6, .int (V b)), (5, .int (V a)), (0, .ref x0), (1, .int 12), (2, .int (nI d)), (3, .int (nI a)), (4, .int (nI b))]) hx hb dX0_shadowOf_23 hl (by decide) rfl (fun ls hl => ?_)
  refine lv_aload_n hx hb dX0_shadowOf_25 rfl (lv_at hl 3 rfl) ?_
  refine va_get (D := D) (ci := 0) (v := .ref x2) (C := RX0) (T := TX0) (N := 3) hx hb hts inX0 hown hK hP 0 rfl rfl 1 (by decide) (hw 19 rfl) (fun _ h9 => h9) rfl dX0_shadowOf_26 ?_
  refine lv_iload hx hb dX0_shadowOf_29 (lv_at hl 7 rfl) ?_
  refine va_iald hx hb hK hP 2 0 rfl rfl (vp_in_nI (n := b) (by omega) (by decide)) dX0_shadowOf_31 ?_
  refine sm_eqi (y := S b) (sm_cl S (n := b) (by omega)) ?_
  refine lv_istore (lv' := [(8, .int (S b)), (7, .int (S a)), (6, .int (V b)), (5, .int (V a)), (0, .ref x0), (1, .int 12), (2, .int (nI d)), (3, .int (nI a)), (4, .int (nI b))]) hx hb dX0_shadowOf_32 hl (by decide) rfl (fun ls hl => ?_)
  refine lv_iload_n hx hb dX0_shadowOf_34 rfl (lv_at hl 5 rfl) ?_
  refine lv_tableOut (tgt := 255) hx hb dX0_shadowOf_35 (Or.inr (by decide)) (by decide) ?_
  refine lv_aload_n hx hb dX0_shadowOf_255 rfl (lv_at hl 4 rfl) ?_
  refine lv_iload_n hx hb dX0_shadowOf_256 rfl (lv_at hl 6 rfl) ?_
  refine lv_iload_n hx hb dX0_shadowOf_257 rfl (lv_at hl 7 rfl) ?_
  refine lv_iload hx hb dX0_shadowOf_258 (lv_at hl 8 rfl) ?_
  refine sm_callV (C := RX0) (As := [.int (nI d), .int (nI a), .int (nI b)]) (rest := []) (wr := []) (wn := (sm_wX cI x0 x1 x2 x3 V S M)) (st1 := [.int (if bt (S b) 0 then S a ||| S d ||| (V a ^^^ V d) else if bt (V b) 0 then S a else S d)]) ⟨hx, hb, hml, hown, hts⟩ (c_choiceShadow l D cI x0 x1 x2 x3 V S M d a b hd ha hb') (cwV 3 hts (sm_gV (i1 := 168) (i2 := 169) (i3 := 347) (i4 := 1) (i5 := 170) rfl rfl rfl rfl rfl) rfl rfl rfl (by decide +kernel) ⟨Nat.le_of_ble_eq_true rfl, Nat.le_of_ble_eq_true rfl⟩) hK [0] rfl hP hD hS hA 0 rfl rfl [0, 1, 2, 3] [] rfl rfl (by decide) (by decide) (by decide) rfl hl.1 rfl (Nat.le_of_ble_eq_true rfl) dX0_shadowOf_260 ⟨Nat.le_of_ble_eq_true rfl, Nat.le_of_ble_eq_true rfl⟩ rfl rfl (fun H locs hP hD hS => ?_)
  exact sm_iret hx hb hrt hlocks hS hP hD dX0_shadowOf_263
set_option maxHeartbeats 4000000 in
set_option maxRecDepth 100000 in
theorem c_op_0 (l : Launch) (D : va_G) (cI : ClassId) (x0 x1 x2 x3 : Nat) (V S M : Nat → Int32) (d a b : Nat) (hd : d < 16) (ha : a < 16) (hb' : b < 16) : sm_C l yX0_op wsX0_op ({ frames := 6, cells := 0, slots := 0, locals := 140 } : Room) D vwCl [(cI, .int)] [.ref x0, .int 0, .int (nI d), .int (nI a), .int (nI b)] (sm_wX cI x0 x1 x2 x3 V S M) none (sm_wX cI x0 x1 x2 x3 (upd V d (V a + V b)) (upd S d (sm_fr (sm_tz (S a ||| S b)))) M) := by
  refine sm_start (cc := cX0_op) (maxL := 7) (ret := none) (lv := [(0, .ref x0), (1, .int 0), (2, .int (nI d)), (3, .int (nI a)), (4, .int (nI b))]) (by decide) rfl (Nat.le_of_ble_eq_true rfl) rfl ?_
  intro p e s m below meth c hx hb hrt hts hown hlocks hml hin hK hP hD hS hA ls hl
  have hw := sm_hw hts
  refine lv_iload_n hx hb dX0_op_0 rfl (lv_at hl 1 rfl) ?_
  refine lv_if_lt (tgt := 10) hx hb dX0_op_1 rfl (fun z => absurd z (by decide)) (fun _ => ?_)
  refine lv_iload_n hx hb dX0_op_4 rfl (lv_at hl 1 rfl) ?_
  refine lv_bipush (v := 12) hx hb dX0_op_5 (by decide) ?_
  refine lv_icmp_le (tgt := 18) hx hb dX0_op_7 rfl (fun _ => ?_) (fun z => absurd (by decide) z)
  refine lv_iload_n hx hb dX0_op_18 rfl (lv_at hl 2 rfl) ?_
  refine sm_callS (As := [.int (nI d)]) (rest := []) (wr := (sm_wX cI x0 x1 x2 x3 V S M)) (wn := (sm_wX cI x0 x1 x2 x3 V S M)) (st1 := []) ⟨hx, hb, hml, hown, hts⟩ (c_checkRegister l D d (by omega)) (va_cwS 1 hts (sm_gS (i1 := 47) (i2 := 48) (i4 := 1) (i5 := 49) rfl rfl rfl rfl) rfl rfl rfl (by decide +kernel) ⟨Nat.le_of_ble_eq_true rfl, Nat.le_of_ble_eq_true rfl⟩) hK [] rfl hP hD hS hA [] [0, 1, 2, 3] rfl rfl (by decide) (by decide) (by decide) rfl hl.1 rfl (Nat.le_of_ble_eq_true rfl) dX0_op_19 ⟨Nat.le_of_ble_eq_true rfl, Nat.le_of_ble_eq_true rfl⟩ rfl rfl (fun H locs hP hD hS => ?_)
  refine lv_iload_n hx hb dX0_op_22 rfl (lv_at hl 3 rfl) ?_
  refine sm_callS (As := [.int (nI a)]) (rest := []) (wr := (sm_wX cI x0 x1 x2 x3 V S M)) (wn := (sm_wX cI x0 x1 x2 x3 V S M)) (st1 := []) ⟨hx, hb, hml, hown, hts⟩ (c_checkRegister l D a (by omega)) (va_cwS 1 hts (sm_gS (i1 := 47) (i2 := 48) (i4 := 1) (i5 := 49) rfl rfl rfl rfl) rfl rfl rfl (by decide +kernel) ⟨Nat.le_of_ble_eq_true rfl, Nat.le_of_ble_eq_true rfl⟩) hK [] rfl hP hD hS hA [] [0, 1, 2, 3] rfl rfl (by decide) (by decide) (by decide) rfl hl.1 rfl (Nat.le_of_ble_eq_true rfl) dX0_op_23 ⟨Nat.le_of_ble_eq_true rfl, Nat.le_of_ble_eq_true rfl⟩ rfl rfl (fun H locs hP hD hS => ?_)
  refine lv_iload hx hb dX0_op_26 (lv_at hl 4 rfl) ?_
  refine sm_callS (As := [.int (nI b)]) (rest := []) (wr := (sm_wX cI x0 x1 x2 x3 V S M)) (wn := (sm_wX cI x0 x1 x2 x3 V S M)) (st1 := []) ⟨hx, hb, hml, hown, hts⟩ (c_checkRegister l D b (by omega)) (va_cwS 1 hts (sm_gS (i1 := 47) (i2 := 48) (i4 := 1) (i5 := 49) rfl rfl rfl rfl) rfl rfl rfl (by decide +kernel) ⟨Nat.le_of_ble_eq_true rfl, Nat.le_of_ble_eq_true rfl⟩) hK [] rfl hP hD hS hA [] [0, 1, 2, 3] rfl rfl (by decide) (by decide) (by decide) rfl hl.1 rfl (Nat.le_of_ble_eq_true rfl) dX0_op_28 ⟨Nat.le_of_ble_eq_true rfl, Nat.le_of_ble_eq_true rfl⟩ rfl rfl (fun H locs hP hD hS => ?_)
  refine lv_aload_n hx hb dX0_op_31 rfl (lv_at hl 0 rfl) ?_
  refine lv_iload_n hx hb dX0_op_32 rfl (lv_at hl 1 rfl) ?_
  refine lv_iload_n hx hb dX0_op_33 rfl (lv_at hl 2 rfl) ?_
  refine lv_iload_n hx hb dX0_op_34 rfl (lv_at hl 3 rfl) ?_
  refine lv_iload hx hb dX0_op_35 (lv_at hl 4 rfl) ?_
  refine sm_callV (C := RX0) (As := [.int 0, .int (nI d), .int (nI a), .int (nI b)]) (rest := []) (wr := []) (wn := (sm_wX cI x0 x1 x2 x3 V S M)) (st1 := [.int (V a + V b)]) ⟨hx, hb, hml, hown, hts⟩ (c_valueOf_0 l D cI x0 x1 x2 x3 V S M d a b hd ha hb') (cwV 4 hts (sm_gV (i1 := 123) (i2 := 124) (i3 := 344) (i4 := 1) (i5 := 125) rfl rfl rfl rfl rfl) rfl rfl rfl (by decide +kernel) ⟨Nat.le_of_ble_eq_true rfl, Nat.le_of_ble_eq_true rfl⟩) hK [0] rfl hP hD hS hA 0 rfl rfl [0, 1, 2, 3] [] rfl rfl (by decide) (by decide) (by decide) rfl hl.1 rfl (Nat.le_of_ble_eq_true rfl) dX0_op_37 ⟨Nat.le_of_ble_eq_true rfl, Nat.le_of_ble_eq_true rfl⟩ rfl rfl (fun H locs hP hD hS => ?_)
  refine lv_istore (lv' := [(5, .int (V a + V b)), (0, .ref x0), (1, .int 0), (2, .int (nI d)), (3, .int (nI a)), (4, .int (nI b))]) hx hb dX0_op_40 hl (by decide) rfl (fun ls hl => ?_)
  refine lv_aload_n hx hb dX0_op_42 rfl (lv_at hl 1 rfl) ?_
  refine lv_iload_n hx hb dX0_op_43 rfl (lv_at hl 2 rfl) ?_
  refine lv_iload_n hx hb dX0_op_44 rfl (lv_at hl 3 rfl) ?_
  refine lv_iload_n hx hb dX0_op_45 rfl (lv_at hl 4 rfl) ?_
  refine lv_iload hx hb dX0_op_46 (lv_at hl 5 rfl) ?_
  refine sm_callV (C := RX0) (As := [.int 0, .int (nI d), .int (nI a), .int (nI b)]) (rest := []) (wr := []) (wn := (sm_wX cI x0 x1 x2 x3 V S M)) (st1 := [.int (sm_fr (sm_tz (S a ||| S b)))]) ⟨hx, hb, hml, hown, hts⟩ (c_shadowOf_0 l D cI x0 x1 x2 x3 V S M d a b hd ha hb') (cwV 4 hts (sm_gV (i1 := 139) (i2 := 140) (i3 := 346) (i4 := 1) (i5 := 141) rfl rfl rfl rfl rfl) rfl rfl rfl (by decide +kernel) ⟨Nat.le_of_ble_eq_true rfl, Nat.le_of_ble_eq_true rfl⟩) hK [0] rfl hP hD hS hA 0 rfl rfl [0, 1, 2, 3] [] rfl rfl (by decide) (by decide) (by decide) rfl hl.1 rfl (Nat.le_of_ble_eq_true rfl) dX0_op_48 ⟨Nat.le_of_ble_eq_true rfl, Nat.le_of_ble_eq_true rfl⟩ rfl rfl (fun H locs hP hD hS => ?_)
  refine lv_istore (lv' := [(6, .int (sm_fr (sm_tz (S a ||| S b)))), (5, .int (V a + V b)), (0, .ref x0), (1, .int 0), (2, .int (nI d)), (3, .int (nI a)), (4, .int (nI b))]) hx hb dX0_op_51 hl (by decide) rfl (fun ls hl => ?_)
  refine lv_aload_n hx hb dX0_op_53 rfl (lv_at hl 2 rfl) ?_
  refine va_get (D := D) (ci := 0) (v := .ref x1) (C := RX0) (T := TX0) (N := 3) hx hb hts inX0 hown hK hP 0 rfl rfl 0 (by decide) (hw 18 rfl) (fun _ h9 => h9) rfl dX0_op_54 ?_
  refine lv_iload_n hx hb dX0_op_57 rfl (lv_at hl 4 rfl) ?_
  refine lv_iload hx hb dX0_op_58 (lv_at hl 1 rfl) ?_
  refine sm_iast (f' := upd V d (V a + V b)) (ws' := (sm_wX cI x0 x1 x2 x3 (upd V d (V a + V b)) S M)) hx hb hK hP hD hS 1 0 rfl rfl (vp_in_nI (n := d) (by omega) (by decide)) dX0_op_60 (by rw [nI_clamp (by omega)]) rfl (fun H locs hP hD hS => ?_)
  refine lv_aload_n hx hb dX0_op_61 rfl (lv_at hl 2 rfl) ?_
  refine va_get (D := D) (ci := 0) (v := .ref x2) (C := RX0) (T := TX0) (N := 3) hx hb hts inX0 hown hK hP 0 rfl rfl 1 (by decide) (hw 19 rfl) (fun _ h9 => h9) rfl dX0_op_62 ?_
  refine lv_iload_n hx hb dX0_op_65 rfl (lv_at hl 4 rfl) ?_
  refine lv_iload hx hb dX0_op_66 (lv_at hl 0 rfl) ?_
  refine sm_iast (f' := upd S d (sm_fr (sm_tz (S a ||| S b)))) (ws' := (sm_wX cI x0 x1 x2 x3 (upd V d (V a + V b)) (upd S d (sm_fr (sm_tz (S a ||| S b)))) M)) hx hb hK hP hD hS 2 0 rfl rfl (vp_in_nI (n := d) (by omega) (by decide)) dX0_op_68 (by rw [nI_clamp (by omega)]) rfl (fun H locs hP hD hS => ?_)
  exact sm_vret hx hb hrt hlocks hS hP hD dX0_op_69
set_option maxHeartbeats 4000000 in
set_option maxRecDepth 100000 in
theorem c_op_1 (l : Launch) (D : va_G) (cI : ClassId) (x0 x1 x2 x3 : Nat) (V S M : Nat → Int32) (d a b : Nat) (hd : d < 16) (ha : a < 16) (hb' : b < 16) : sm_C l yX0_op wsX0_op ({ frames := 6, cells := 0, slots := 0, locals := 140 } : Room) D vwCl [(cI, .int)] [.ref x0, .int 1, .int (nI d), .int (nI a), .int (nI b)] (sm_wX cI x0 x1 x2 x3 V S M) none (sm_wX cI x0 x1 x2 x3 (upd V d (V a - V b)) (upd S d (sm_fr (sm_tz (S a ||| S b)))) M) := by
  refine sm_start (cc := cX0_op) (maxL := 7) (ret := none) (lv := [(0, .ref x0), (1, .int 1), (2, .int (nI d)), (3, .int (nI a)), (4, .int (nI b))]) (by decide) rfl (Nat.le_of_ble_eq_true rfl) rfl ?_
  intro p e s m below meth c hx hb hrt hts hown hlocks hml hin hK hP hD hS hA ls hl
  have hw := sm_hw hts
  refine lv_iload_n hx hb dX0_op_0 rfl (lv_at hl 1 rfl) ?_
  refine lv_if_lt (tgt := 10) hx hb dX0_op_1 rfl (fun z => absurd z (by decide)) (fun _ => ?_)
  refine lv_iload_n hx hb dX0_op_4 rfl (lv_at hl 1 rfl) ?_
  refine lv_bipush (v := 12) hx hb dX0_op_5 (by decide) ?_
  refine lv_icmp_le (tgt := 18) hx hb dX0_op_7 rfl (fun _ => ?_) (fun z => absurd (by decide) z)
  refine lv_iload_n hx hb dX0_op_18 rfl (lv_at hl 2 rfl) ?_
  refine sm_callS (As := [.int (nI d)]) (rest := []) (wr := (sm_wX cI x0 x1 x2 x3 V S M)) (wn := (sm_wX cI x0 x1 x2 x3 V S M)) (st1 := []) ⟨hx, hb, hml, hown, hts⟩ (c_checkRegister l D d (by omega)) (va_cwS 1 hts (sm_gS (i1 := 47) (i2 := 48) (i4 := 1) (i5 := 49) rfl rfl rfl rfl) rfl rfl rfl (by decide +kernel) ⟨Nat.le_of_ble_eq_true rfl, Nat.le_of_ble_eq_true rfl⟩) hK [] rfl hP hD hS hA [] [0, 1, 2, 3] rfl rfl (by decide) (by decide) (by decide) rfl hl.1 rfl (Nat.le_of_ble_eq_true rfl) dX0_op_19 ⟨Nat.le_of_ble_eq_true rfl, Nat.le_of_ble_eq_true rfl⟩ rfl rfl (fun H locs hP hD hS => ?_)
  refine lv_iload_n hx hb dX0_op_22 rfl (lv_at hl 3 rfl) ?_
  refine sm_callS (As := [.int (nI a)]) (rest := []) (wr := (sm_wX cI x0 x1 x2 x3 V S M)) (wn := (sm_wX cI x0 x1 x2 x3 V S M)) (st1 := []) ⟨hx, hb, hml, hown, hts⟩ (c_checkRegister l D a (by omega)) (va_cwS 1 hts (sm_gS (i1 := 47) (i2 := 48) (i4 := 1) (i5 := 49) rfl rfl rfl rfl) rfl rfl rfl (by decide +kernel) ⟨Nat.le_of_ble_eq_true rfl, Nat.le_of_ble_eq_true rfl⟩) hK [] rfl hP hD hS hA [] [0, 1, 2, 3] rfl rfl (by decide) (by decide) (by decide) rfl hl.1 rfl (Nat.le_of_ble_eq_true rfl) dX0_op_23 ⟨Nat.le_of_ble_eq_true rfl, Nat.le_of_ble_eq_true rfl⟩ rfl rfl (fun H locs hP hD hS => ?_)
  refine lv_iload hx hb dX0_op_26 (lv_at hl 4 rfl) ?_
  refine sm_callS (As := [.int (nI b)]) (rest := []) (wr := (sm_wX cI x0 x1 x2 x3 V S M)) (wn := (sm_wX cI x0 x1 x2 x3 V S M)) (st1 := []) ⟨hx, hb, hml, hown, hts⟩ (c_checkRegister l D b (by omega)) (va_cwS 1 hts (sm_gS (i1 := 47) (i2 := 48) (i4 := 1) (i5 := 49) rfl rfl rfl rfl) rfl rfl rfl (by decide +kernel) ⟨Nat.le_of_ble_eq_true rfl, Nat.le_of_ble_eq_true rfl⟩) hK [] rfl hP hD hS hA [] [0, 1, 2, 3] rfl rfl (by decide) (by decide) (by decide) rfl hl.1 rfl (Nat.le_of_ble_eq_true rfl) dX0_op_28 ⟨Nat.le_of_ble_eq_true rfl, Nat.le_of_ble_eq_true rfl⟩ rfl rfl (fun H locs hP hD hS => ?_)
  refine lv_aload_n hx hb dX0_op_31 rfl (lv_at hl 0 rfl) ?_
  refine lv_iload_n hx hb dX0_op_32 rfl (lv_at hl 1 rfl) ?_
  refine lv_iload_n hx hb dX0_op_33 rfl (lv_at hl 2 rfl) ?_
  refine lv_iload_n hx hb dX0_op_34 rfl (lv_at hl 3 rfl) ?_
  refine lv_iload hx hb dX0_op_35 (lv_at hl 4 rfl) ?_
  refine sm_callV (C := RX0) (As := [.int 1, .int (nI d), .int (nI a), .int (nI b)]) (rest := []) (wr := []) (wn := (sm_wX cI x0 x1 x2 x3 V S M)) (st1 := [.int (V a - V b)]) ⟨hx, hb, hml, hown, hts⟩ (c_valueOf_1 l D cI x0 x1 x2 x3 V S M d a b hd ha hb') (cwV 4 hts (sm_gV (i1 := 123) (i2 := 124) (i3 := 344) (i4 := 1) (i5 := 125) rfl rfl rfl rfl rfl) rfl rfl rfl (by decide +kernel) ⟨Nat.le_of_ble_eq_true rfl, Nat.le_of_ble_eq_true rfl⟩) hK [0] rfl hP hD hS hA 0 rfl rfl [0, 1, 2, 3] [] rfl rfl (by decide) (by decide) (by decide) rfl hl.1 rfl (Nat.le_of_ble_eq_true rfl) dX0_op_37 ⟨Nat.le_of_ble_eq_true rfl, Nat.le_of_ble_eq_true rfl⟩ rfl rfl (fun H locs hP hD hS => ?_)
  refine lv_istore (lv' := [(5, .int (V a - V b)), (0, .ref x0), (1, .int 1), (2, .int (nI d)), (3, .int (nI a)), (4, .int (nI b))]) hx hb dX0_op_40 hl (by decide) rfl (fun ls hl => ?_)
  refine lv_aload_n hx hb dX0_op_42 rfl (lv_at hl 1 rfl) ?_
  refine lv_iload_n hx hb dX0_op_43 rfl (lv_at hl 2 rfl) ?_
  refine lv_iload_n hx hb dX0_op_44 rfl (lv_at hl 3 rfl) ?_
  refine lv_iload_n hx hb dX0_op_45 rfl (lv_at hl 4 rfl) ?_
  refine lv_iload hx hb dX0_op_46 (lv_at hl 5 rfl) ?_
  refine sm_callV (C := RX0) (As := [.int 1, .int (nI d), .int (nI a), .int (nI b)]) (rest := []) (wr := []) (wn := (sm_wX cI x0 x1 x2 x3 V S M)) (st1 := [.int (sm_fr (sm_tz (S a ||| S b)))]) ⟨hx, hb, hml, hown, hts⟩ (c_shadowOf_1 l D cI x0 x1 x2 x3 V S M d a b hd ha hb') (cwV 4 hts (sm_gV (i1 := 139) (i2 := 140) (i3 := 346) (i4 := 1) (i5 := 141) rfl rfl rfl rfl rfl) rfl rfl rfl (by decide +kernel) ⟨Nat.le_of_ble_eq_true rfl, Nat.le_of_ble_eq_true rfl⟩) hK [0] rfl hP hD hS hA 0 rfl rfl [0, 1, 2, 3] [] rfl rfl (by decide) (by decide) (by decide) rfl hl.1 rfl (Nat.le_of_ble_eq_true rfl) dX0_op_48 ⟨Nat.le_of_ble_eq_true rfl, Nat.le_of_ble_eq_true rfl⟩ rfl rfl (fun H locs hP hD hS => ?_)
  refine lv_istore (lv' := [(6, .int (sm_fr (sm_tz (S a ||| S b)))), (5, .int (V a - V b)), (0, .ref x0), (1, .int 1), (2, .int (nI d)), (3, .int (nI a)), (4, .int (nI b))]) hx hb dX0_op_51 hl (by decide) rfl (fun ls hl => ?_)
  refine lv_aload_n hx hb dX0_op_53 rfl (lv_at hl 2 rfl) ?_
  refine va_get (D := D) (ci := 0) (v := .ref x1) (C := RX0) (T := TX0) (N := 3) hx hb hts inX0 hown hK hP 0 rfl rfl 0 (by decide) (hw 18 rfl) (fun _ h9 => h9) rfl dX0_op_54 ?_
  refine lv_iload_n hx hb dX0_op_57 rfl (lv_at hl 4 rfl) ?_
  refine lv_iload hx hb dX0_op_58 (lv_at hl 1 rfl) ?_
  refine sm_iast (f' := upd V d (V a - V b)) (ws' := (sm_wX cI x0 x1 x2 x3 (upd V d (V a - V b)) S M)) hx hb hK hP hD hS 1 0 rfl rfl (vp_in_nI (n := d) (by omega) (by decide)) dX0_op_60 (by rw [nI_clamp (by omega)]) rfl (fun H locs hP hD hS => ?_)
  refine lv_aload_n hx hb dX0_op_61 rfl (lv_at hl 2 rfl) ?_
  refine va_get (D := D) (ci := 0) (v := .ref x2) (C := RX0) (T := TX0) (N := 3) hx hb hts inX0 hown hK hP 0 rfl rfl 1 (by decide) (hw 19 rfl) (fun _ h9 => h9) rfl dX0_op_62 ?_
  refine lv_iload_n hx hb dX0_op_65 rfl (lv_at hl 4 rfl) ?_
  refine lv_iload hx hb dX0_op_66 (lv_at hl 0 rfl) ?_
  refine sm_iast (f' := upd S d (sm_fr (sm_tz (S a ||| S b)))) (ws' := (sm_wX cI x0 x1 x2 x3 (upd V d (V a - V b)) (upd S d (sm_fr (sm_tz (S a ||| S b)))) M)) hx hb hK hP hD hS 2 0 rfl rfl (vp_in_nI (n := d) (by omega) (by decide)) dX0_op_68 (by rw [nI_clamp (by omega)]) rfl (fun H locs hP hD hS => ?_)
  exact sm_vret hx hb hrt hlocks hS hP hD dX0_op_69
set_option maxHeartbeats 4000000 in
set_option maxRecDepth 100000 in
theorem c_op_2 (l : Launch) (D : va_G) (cI : ClassId) (x0 x1 x2 x3 : Nat) (V S M : Nat → Int32) (d a b : Nat) (hd : d < 16) (ha : a < 16) (hb' : b < 16) : sm_C l yX0_op wsX0_op ({ frames := 6, cells := 0, slots := 0, locals := 140 } : Room) D vwCl [(cI, .int)] [.ref x0, .int 2, .int (nI d), .int (nI a), .int (nI b)] (sm_wX cI x0 x1 x2 x3 V S M) none (sm_wX cI x0 x1 x2 x3 (upd V d (V a &&& V b)) (upd S d ((S a ||| S b) &&& (S a ||| V a) &&& (S b ||| V b))) M) := by
  refine sm_start (cc := cX0_op) (maxL := 7) (ret := none) (lv := [(0, .ref x0), (1, .int 2), (2, .int (nI d)), (3, .int (nI a)), (4, .int (nI b))]) (by decide) rfl (Nat.le_of_ble_eq_true rfl) rfl ?_
  intro p e s m below meth c hx hb hrt hts hown hlocks hml hin hK hP hD hS hA ls hl
  have hw := sm_hw hts
  refine lv_iload_n hx hb dX0_op_0 rfl (lv_at hl 1 rfl) ?_
  refine lv_if_lt (tgt := 10) hx hb dX0_op_1 rfl (fun z => absurd z (by decide)) (fun _ => ?_)
  refine lv_iload_n hx hb dX0_op_4 rfl (lv_at hl 1 rfl) ?_
  refine lv_bipush (v := 12) hx hb dX0_op_5 (by decide) ?_
  refine lv_icmp_le (tgt := 18) hx hb dX0_op_7 rfl (fun _ => ?_) (fun z => absurd (by decide) z)
  refine lv_iload_n hx hb dX0_op_18 rfl (lv_at hl 2 rfl) ?_
  refine sm_callS (As := [.int (nI d)]) (rest := []) (wr := (sm_wX cI x0 x1 x2 x3 V S M)) (wn := (sm_wX cI x0 x1 x2 x3 V S M)) (st1 := []) ⟨hx, hb, hml, hown, hts⟩ (c_checkRegister l D d (by omega)) (va_cwS 1 hts (sm_gS (i1 := 47) (i2 := 48) (i4 := 1) (i5 := 49) rfl rfl rfl rfl) rfl rfl rfl (by decide +kernel) ⟨Nat.le_of_ble_eq_true rfl, Nat.le_of_ble_eq_true rfl⟩) hK [] rfl hP hD hS hA [] [0, 1, 2, 3] rfl rfl (by decide) (by decide) (by decide) rfl hl.1 rfl (Nat.le_of_ble_eq_true rfl) dX0_op_19 ⟨Nat.le_of_ble_eq_true rfl, Nat.le_of_ble_eq_true rfl⟩ rfl rfl (fun H locs hP hD hS => ?_)
  refine lv_iload_n hx hb dX0_op_22 rfl (lv_at hl 3 rfl) ?_
  refine sm_callS (As := [.int (nI a)]) (rest := []) (wr := (sm_wX cI x0 x1 x2 x3 V S M)) (wn := (sm_wX cI x0 x1 x2 x3 V S M)) (st1 := []) ⟨hx, hb, hml, hown, hts⟩ (c_checkRegister l D a (by omega)) (va_cwS 1 hts (sm_gS (i1 := 47) (i2 := 48) (i4 := 1) (i5 := 49) rfl rfl rfl rfl) rfl rfl rfl (by decide +kernel) ⟨Nat.le_of_ble_eq_true rfl, Nat.le_of_ble_eq_true rfl⟩) hK [] rfl hP hD hS hA [] [0, 1, 2, 3] rfl rfl (by decide) (by decide) (by decide) rfl hl.1 rfl (Nat.le_of_ble_eq_true rfl) dX0_op_23 ⟨Nat.le_of_ble_eq_true rfl, Nat.le_of_ble_eq_true rfl⟩ rfl rfl (fun H locs hP hD hS => ?_)
  refine lv_iload hx hb dX0_op_26 (lv_at hl 4 rfl) ?_
  refine sm_callS (As := [.int (nI b)]) (rest := []) (wr := (sm_wX cI x0 x1 x2 x3 V S M)) (wn := (sm_wX cI x0 x1 x2 x3 V S M)) (st1 := []) ⟨hx, hb, hml, hown, hts⟩ (c_checkRegister l D b (by omega)) (va_cwS 1 hts (sm_gS (i1 := 47) (i2 := 48) (i4 := 1) (i5 := 49) rfl rfl rfl rfl) rfl rfl rfl (by decide +kernel) ⟨Nat.le_of_ble_eq_true rfl, Nat.le_of_ble_eq_true rfl⟩) hK [] rfl hP hD hS hA [] [0, 1, 2, 3] rfl rfl (by decide) (by decide) (by decide) rfl hl.1 rfl (Nat.le_of_ble_eq_true rfl) dX0_op_28 ⟨Nat.le_of_ble_eq_true rfl, Nat.le_of_ble_eq_true rfl⟩ rfl rfl (fun H locs hP hD hS => ?_)
  refine lv_aload_n hx hb dX0_op_31 rfl (lv_at hl 0 rfl) ?_
  refine lv_iload_n hx hb dX0_op_32 rfl (lv_at hl 1 rfl) ?_
  refine lv_iload_n hx hb dX0_op_33 rfl (lv_at hl 2 rfl) ?_
  refine lv_iload_n hx hb dX0_op_34 rfl (lv_at hl 3 rfl) ?_
  refine lv_iload hx hb dX0_op_35 (lv_at hl 4 rfl) ?_
  refine sm_callV (C := RX0) (As := [.int 2, .int (nI d), .int (nI a), .int (nI b)]) (rest := []) (wr := []) (wn := (sm_wX cI x0 x1 x2 x3 V S M)) (st1 := [.int (V a &&& V b)]) ⟨hx, hb, hml, hown, hts⟩ (c_valueOf_2 l D cI x0 x1 x2 x3 V S M d a b hd ha hb') (cwV 4 hts (sm_gV (i1 := 123) (i2 := 124) (i3 := 344) (i4 := 1) (i5 := 125) rfl rfl rfl rfl rfl) rfl rfl rfl (by decide +kernel) ⟨Nat.le_of_ble_eq_true rfl, Nat.le_of_ble_eq_true rfl⟩) hK [0] rfl hP hD hS hA 0 rfl rfl [0, 1, 2, 3] [] rfl rfl (by decide) (by decide) (by decide) rfl hl.1 rfl (Nat.le_of_ble_eq_true rfl) dX0_op_37 ⟨Nat.le_of_ble_eq_true rfl, Nat.le_of_ble_eq_true rfl⟩ rfl rfl (fun H locs hP hD hS => ?_)
  refine lv_istore (lv' := [(5, .int (V a &&& V b)), (0, .ref x0), (1, .int 2), (2, .int (nI d)), (3, .int (nI a)), (4, .int (nI b))]) hx hb dX0_op_40 hl (by decide) rfl (fun ls hl => ?_)
  refine lv_aload_n hx hb dX0_op_42 rfl (lv_at hl 1 rfl) ?_
  refine lv_iload_n hx hb dX0_op_43 rfl (lv_at hl 2 rfl) ?_
  refine lv_iload_n hx hb dX0_op_44 rfl (lv_at hl 3 rfl) ?_
  refine lv_iload_n hx hb dX0_op_45 rfl (lv_at hl 4 rfl) ?_
  refine lv_iload hx hb dX0_op_46 (lv_at hl 5 rfl) ?_
  refine sm_callV (C := RX0) (As := [.int 2, .int (nI d), .int (nI a), .int (nI b)]) (rest := []) (wr := []) (wn := (sm_wX cI x0 x1 x2 x3 V S M)) (st1 := [.int ((S a ||| S b) &&& (S a ||| V a) &&& (S b ||| V b))]) ⟨hx, hb, hml, hown, hts⟩ (c_shadowOf_2 l D cI x0 x1 x2 x3 V S M d a b hd ha hb') (cwV 4 hts (sm_gV (i1 := 139) (i2 := 140) (i3 := 346) (i4 := 1) (i5 := 141) rfl rfl rfl rfl rfl) rfl rfl rfl (by decide +kernel) ⟨Nat.le_of_ble_eq_true rfl, Nat.le_of_ble_eq_true rfl⟩) hK [0] rfl hP hD hS hA 0 rfl rfl [0, 1, 2, 3] [] rfl rfl (by decide) (by decide) (by decide) rfl hl.1 rfl (Nat.le_of_ble_eq_true rfl) dX0_op_48 ⟨Nat.le_of_ble_eq_true rfl, Nat.le_of_ble_eq_true rfl⟩ rfl rfl (fun H locs hP hD hS => ?_)
  refine lv_istore (lv' := [(6, .int ((S a ||| S b) &&& (S a ||| V a) &&& (S b ||| V b))), (5, .int (V a &&& V b)), (0, .ref x0), (1, .int 2), (2, .int (nI d)), (3, .int (nI a)), (4, .int (nI b))]) hx hb dX0_op_51 hl (by decide) rfl (fun ls hl => ?_)
  refine lv_aload_n hx hb dX0_op_53 rfl (lv_at hl 2 rfl) ?_
  refine va_get (D := D) (ci := 0) (v := .ref x1) (C := RX0) (T := TX0) (N := 3) hx hb hts inX0 hown hK hP 0 rfl rfl 0 (by decide) (hw 18 rfl) (fun _ h9 => h9) rfl dX0_op_54 ?_
  refine lv_iload_n hx hb dX0_op_57 rfl (lv_at hl 4 rfl) ?_
  refine lv_iload hx hb dX0_op_58 (lv_at hl 1 rfl) ?_
  refine sm_iast (f' := upd V d (V a &&& V b)) (ws' := (sm_wX cI x0 x1 x2 x3 (upd V d (V a &&& V b)) S M)) hx hb hK hP hD hS 1 0 rfl rfl (vp_in_nI (n := d) (by omega) (by decide)) dX0_op_60 (by rw [nI_clamp (by omega)]) rfl (fun H locs hP hD hS => ?_)
  refine lv_aload_n hx hb dX0_op_61 rfl (lv_at hl 2 rfl) ?_
  refine va_get (D := D) (ci := 0) (v := .ref x2) (C := RX0) (T := TX0) (N := 3) hx hb hts inX0 hown hK hP 0 rfl rfl 1 (by decide) (hw 19 rfl) (fun _ h9 => h9) rfl dX0_op_62 ?_
  refine lv_iload_n hx hb dX0_op_65 rfl (lv_at hl 4 rfl) ?_
  refine lv_iload hx hb dX0_op_66 (lv_at hl 0 rfl) ?_
  refine sm_iast (f' := upd S d ((S a ||| S b) &&& (S a ||| V a) &&& (S b ||| V b))) (ws' := (sm_wX cI x0 x1 x2 x3 (upd V d (V a &&& V b)) (upd S d ((S a ||| S b) &&& (S a ||| V a) &&& (S b ||| V b))) M)) hx hb hK hP hD hS 2 0 rfl rfl (vp_in_nI (n := d) (by omega) (by decide)) dX0_op_68 (by rw [nI_clamp (by omega)]) rfl (fun H locs hP hD hS => ?_)
  exact sm_vret hx hb hrt hlocks hS hP hD dX0_op_69
set_option maxHeartbeats 4000000 in
set_option maxRecDepth 100000 in
theorem c_op_3 (l : Launch) (D : va_G) (cI : ClassId) (x0 x1 x2 x3 : Nat) (V S M : Nat → Int32) (d a b : Nat) (hd : d < 16) (ha : a < 16) (hb' : b < 16) : sm_C l yX0_op wsX0_op ({ frames := 6, cells := 0, slots := 0, locals := 140 } : Room) D vwCl [(cI, .int)] [.ref x0, .int 3, .int (nI d), .int (nI a), .int (nI b)] (sm_wX cI x0 x1 x2 x3 V S M) none (sm_wX cI x0 x1 x2 x3 (upd V d (V a ||| V b)) (upd S d ((S a ||| S b) &&& (S a ||| (V a ^^^ (-1))) &&& (S b ||| (V b ^^^ (-1))))) M) := by
  refine sm_start (cc := cX0_op) (maxL := 7) (ret := none) (lv := [(0, .ref x0), (1, .int 3), (2, .int (nI d)), (3, .int (nI a)), (4, .int (nI b))]) (by decide) rfl (Nat.le_of_ble_eq_true rfl) rfl ?_
  intro p e s m below meth c hx hb hrt hts hown hlocks hml hin hK hP hD hS hA ls hl
  have hw := sm_hw hts
  refine lv_iload_n hx hb dX0_op_0 rfl (lv_at hl 1 rfl) ?_
  refine lv_if_lt (tgt := 10) hx hb dX0_op_1 rfl (fun z => absurd z (by decide)) (fun _ => ?_)
  refine lv_iload_n hx hb dX0_op_4 rfl (lv_at hl 1 rfl) ?_
  refine lv_bipush (v := 12) hx hb dX0_op_5 (by decide) ?_
  refine lv_icmp_le (tgt := 18) hx hb dX0_op_7 rfl (fun _ => ?_) (fun z => absurd (by decide) z)
  refine lv_iload_n hx hb dX0_op_18 rfl (lv_at hl 2 rfl) ?_
  refine sm_callS (As := [.int (nI d)]) (rest := []) (wr := (sm_wX cI x0 x1 x2 x3 V S M)) (wn := (sm_wX cI x0 x1 x2 x3 V S M)) (st1 := []) ⟨hx, hb, hml, hown, hts⟩ (c_checkRegister l D d (by omega)) (va_cwS 1 hts (sm_gS (i1 := 47) (i2 := 48) (i4 := 1) (i5 := 49) rfl rfl rfl rfl) rfl rfl rfl (by decide +kernel) ⟨Nat.le_of_ble_eq_true rfl, Nat.le_of_ble_eq_true rfl⟩) hK [] rfl hP hD hS hA [] [0, 1, 2, 3] rfl rfl (by decide) (by decide) (by decide) rfl hl.1 rfl (Nat.le_of_ble_eq_true rfl) dX0_op_19 ⟨Nat.le_of_ble_eq_true rfl, Nat.le_of_ble_eq_true rfl⟩ rfl rfl (fun H locs hP hD hS => ?_)
  refine lv_iload_n hx hb dX0_op_22 rfl (lv_at hl 3 rfl) ?_
  refine sm_callS (As := [.int (nI a)]) (rest := []) (wr := (sm_wX cI x0 x1 x2 x3 V S M)) (wn := (sm_wX cI x0 x1 x2 x3 V S M)) (st1 := []) ⟨hx, hb, hml, hown, hts⟩ (c_checkRegister l D a (by omega)) (va_cwS 1 hts (sm_gS (i1 := 47) (i2 := 48) (i4 := 1) (i5 := 49) rfl rfl rfl rfl) rfl rfl rfl (by decide +kernel) ⟨Nat.le_of_ble_eq_true rfl, Nat.le_of_ble_eq_true rfl⟩) hK [] rfl hP hD hS hA [] [0, 1, 2, 3] rfl rfl (by decide) (by decide) (by decide) rfl hl.1 rfl (Nat.le_of_ble_eq_true rfl) dX0_op_23 ⟨Nat.le_of_ble_eq_true rfl, Nat.le_of_ble_eq_true rfl⟩ rfl rfl (fun H locs hP hD hS => ?_)
  refine lv_iload hx hb dX0_op_26 (lv_at hl 4 rfl) ?_
  refine sm_callS (As := [.int (nI b)]) (rest := []) (wr := (sm_wX cI x0 x1 x2 x3 V S M)) (wn := (sm_wX cI x0 x1 x2 x3 V S M)) (st1 := []) ⟨hx, hb, hml, hown, hts⟩ (c_checkRegister l D b (by omega)) (va_cwS 1 hts (sm_gS (i1 := 47) (i2 := 48) (i4 := 1) (i5 := 49) rfl rfl rfl rfl) rfl rfl rfl (by decide +kernel) ⟨Nat.le_of_ble_eq_true rfl, Nat.le_of_ble_eq_true rfl⟩) hK [] rfl hP hD hS hA [] [0, 1, 2, 3] rfl rfl (by decide) (by decide) (by decide) rfl hl.1 rfl (Nat.le_of_ble_eq_true rfl) dX0_op_28 ⟨Nat.le_of_ble_eq_true rfl, Nat.le_of_ble_eq_true rfl⟩ rfl rfl (fun H locs hP hD hS => ?_)
  refine lv_aload_n hx hb dX0_op_31 rfl (lv_at hl 0 rfl) ?_
  refine lv_iload_n hx hb dX0_op_32 rfl (lv_at hl 1 rfl) ?_
  refine lv_iload_n hx hb dX0_op_33 rfl (lv_at hl 2 rfl) ?_
  refine lv_iload_n hx hb dX0_op_34 rfl (lv_at hl 3 rfl) ?_
  refine lv_iload hx hb dX0_op_35 (lv_at hl 4 rfl) ?_
  refine sm_callV (C := RX0) (As := [.int 3, .int (nI d), .int (nI a), .int (nI b)]) (rest := []) (wr := []) (wn := (sm_wX cI x0 x1 x2 x3 V S M)) (st1 := [.int (V a ||| V b)]) ⟨hx, hb, hml, hown, hts⟩ (c_valueOf_3 l D cI x0 x1 x2 x3 V S M d a b hd ha hb') (cwV 4 hts (sm_gV (i1 := 123) (i2 := 124) (i3 := 344) (i4 := 1) (i5 := 125) rfl rfl rfl rfl rfl) rfl rfl rfl (by decide +kernel) ⟨Nat.le_of_ble_eq_true rfl, Nat.le_of_ble_eq_true rfl⟩) hK [0] rfl hP hD hS hA 0 rfl rfl [0, 1, 2, 3] [] rfl rfl (by decide) (by decide) (by decide) rfl hl.1 rfl (Nat.le_of_ble_eq_true rfl) dX0_op_37 ⟨Nat.le_of_ble_eq_true rfl, Nat.le_of_ble_eq_true rfl⟩ rfl rfl (fun H locs hP hD hS => ?_)
  refine lv_istore (lv' := [(5, .int (V a ||| V b)), (0, .ref x0), (1, .int 3), (2, .int (nI d)), (3, .int (nI a)), (4, .int (nI b))]) hx hb dX0_op_40 hl (by decide) rfl (fun ls hl => ?_)
  refine lv_aload_n hx hb dX0_op_42 rfl (lv_at hl 1 rfl) ?_
  refine lv_iload_n hx hb dX0_op_43 rfl (lv_at hl 2 rfl) ?_
  refine lv_iload_n hx hb dX0_op_44 rfl (lv_at hl 3 rfl) ?_
  refine lv_iload_n hx hb dX0_op_45 rfl (lv_at hl 4 rfl) ?_
  refine lv_iload hx hb dX0_op_46 (lv_at hl 5 rfl) ?_
  refine sm_callV (C := RX0) (As := [.int 3, .int (nI d), .int (nI a), .int (nI b)]) (rest := []) (wr := []) (wn := (sm_wX cI x0 x1 x2 x3 V S M)) (st1 := [.int ((S a ||| S b) &&& (S a ||| (V a ^^^ (-1))) &&& (S b ||| (V b ^^^ (-1))))]) ⟨hx, hb, hml, hown, hts⟩ (c_shadowOf_3 l D cI x0 x1 x2 x3 V S M d a b hd ha hb') (cwV 4 hts (sm_gV (i1 := 139) (i2 := 140) (i3 := 346) (i4 := 1) (i5 := 141) rfl rfl rfl rfl rfl) rfl rfl rfl (by decide +kernel) ⟨Nat.le_of_ble_eq_true rfl, Nat.le_of_ble_eq_true rfl⟩) hK [0] rfl hP hD hS hA 0 rfl rfl [0, 1, 2, 3] [] rfl rfl (by decide) (by decide) (by decide) rfl hl.1 rfl (Nat.le_of_ble_eq_true rfl) dX0_op_48 ⟨Nat.le_of_ble_eq_true rfl, Nat.le_of_ble_eq_true rfl⟩ rfl rfl (fun H locs hP hD hS => ?_)
  refine lv_istore (lv' := [(6, .int ((S a ||| S b) &&& (S a ||| (V a ^^^ (-1))) &&& (S b ||| (V b ^^^ (-1))))), (5, .int (V a ||| V b)), (0, .ref x0), (1, .int 3), (2, .int (nI d)), (3, .int (nI a)), (4, .int (nI b))]) hx hb dX0_op_51 hl (by decide) rfl (fun ls hl => ?_)
  refine lv_aload_n hx hb dX0_op_53 rfl (lv_at hl 2 rfl) ?_
  refine va_get (D := D) (ci := 0) (v := .ref x1) (C := RX0) (T := TX0) (N := 3) hx hb hts inX0 hown hK hP 0 rfl rfl 0 (by decide) (hw 18 rfl) (fun _ h9 => h9) rfl dX0_op_54 ?_
  refine lv_iload_n hx hb dX0_op_57 rfl (lv_at hl 4 rfl) ?_
  refine lv_iload hx hb dX0_op_58 (lv_at hl 1 rfl) ?_
  refine sm_iast (f' := upd V d (V a ||| V b)) (ws' := (sm_wX cI x0 x1 x2 x3 (upd V d (V a ||| V b)) S M)) hx hb hK hP hD hS 1 0 rfl rfl (vp_in_nI (n := d) (by omega) (by decide)) dX0_op_60 (by rw [nI_clamp (by omega)]) rfl (fun H locs hP hD hS => ?_)
  refine lv_aload_n hx hb dX0_op_61 rfl (lv_at hl 2 rfl) ?_
  refine va_get (D := D) (ci := 0) (v := .ref x2) (C := RX0) (T := TX0) (N := 3) hx hb hts inX0 hown hK hP 0 rfl rfl 1 (by decide) (hw 19 rfl) (fun _ h9 => h9) rfl dX0_op_62 ?_
  refine lv_iload_n hx hb dX0_op_65 rfl (lv_at hl 4 rfl) ?_
  refine lv_iload hx hb dX0_op_66 (lv_at hl 0 rfl) ?_
  refine sm_iast (f' := upd S d ((S a ||| S b) &&& (S a ||| (V a ^^^ (-1))) &&& (S b ||| (V b ^^^ (-1))))) (ws' := (sm_wX cI x0 x1 x2 x3 (upd V d (V a ||| V b)) (upd S d ((S a ||| S b) &&& (S a ||| (V a ^^^ (-1))) &&& (S b ||| (V b ^^^ (-1))))) M)) hx hb hK hP hD hS 2 0 rfl rfl (vp_in_nI (n := d) (by omega) (by decide)) dX0_op_68 (by rw [nI_clamp (by omega)]) rfl (fun H locs hP hD hS => ?_)
  exact sm_vret hx hb hrt hlocks hS hP hD dX0_op_69
set_option maxHeartbeats 4000000 in
set_option maxRecDepth 100000 in
theorem c_op_4 (l : Launch) (D : va_G) (cI : ClassId) (x0 x1 x2 x3 : Nat) (V S M : Nat → Int32) (d a b : Nat) (hd : d < 16) (ha : a < 16) (hb' : b < 16) : sm_C l yX0_op wsX0_op ({ frames := 6, cells := 0, slots := 0, locals := 140 } : Room) D vwCl [(cI, .int)] [.ref x0, .int 4, .int (nI d), .int (nI a), .int (nI b)] (sm_wX cI x0 x1 x2 x3 V S M) none (sm_wX cI x0 x1 x2 x3 (upd V d (V a ^^^ V b)) (upd S d (S a ||| S b)) M) := by
  refine sm_start (cc := cX0_op) (maxL := 7) (ret := none) (lv := [(0, .ref x0), (1, .int 4), (2, .int (nI d)), (3, .int (nI a)), (4, .int (nI b))]) (by decide) rfl (Nat.le_of_ble_eq_true rfl) rfl ?_
  intro p e s m below meth c hx hb hrt hts hown hlocks hml hin hK hP hD hS hA ls hl
  have hw := sm_hw hts
  refine lv_iload_n hx hb dX0_op_0 rfl (lv_at hl 1 rfl) ?_
  refine lv_if_lt (tgt := 10) hx hb dX0_op_1 rfl (fun z => absurd z (by decide)) (fun _ => ?_)
  refine lv_iload_n hx hb dX0_op_4 rfl (lv_at hl 1 rfl) ?_
  refine lv_bipush (v := 12) hx hb dX0_op_5 (by decide) ?_
  refine lv_icmp_le (tgt := 18) hx hb dX0_op_7 rfl (fun _ => ?_) (fun z => absurd (by decide) z)
  refine lv_iload_n hx hb dX0_op_18 rfl (lv_at hl 2 rfl) ?_
  refine sm_callS (As := [.int (nI d)]) (rest := []) (wr := (sm_wX cI x0 x1 x2 x3 V S M)) (wn := (sm_wX cI x0 x1 x2 x3 V S M)) (st1 := []) ⟨hx, hb, hml, hown, hts⟩ (c_checkRegister l D d (by omega)) (va_cwS 1 hts (sm_gS (i1 := 47) (i2 := 48) (i4 := 1) (i5 := 49) rfl rfl rfl rfl) rfl rfl rfl (by decide +kernel) ⟨Nat.le_of_ble_eq_true rfl, Nat.le_of_ble_eq_true rfl⟩) hK [] rfl hP hD hS hA [] [0, 1, 2, 3] rfl rfl (by decide) (by decide) (by decide) rfl hl.1 rfl (Nat.le_of_ble_eq_true rfl) dX0_op_19 ⟨Nat.le_of_ble_eq_true rfl, Nat.le_of_ble_eq_true rfl⟩ rfl rfl (fun H locs hP hD hS => ?_)
  refine lv_iload_n hx hb dX0_op_22 rfl (lv_at hl 3 rfl) ?_
  refine sm_callS (As := [.int (nI a)]) (rest := []) (wr := (sm_wX cI x0 x1 x2 x3 V S M)) (wn := (sm_wX cI x0 x1 x2 x3 V S M)) (st1 := []) ⟨hx, hb, hml, hown, hts⟩ (c_checkRegister l D a (by omega)) (va_cwS 1 hts (sm_gS (i1 := 47) (i2 := 48) (i4 := 1) (i5 := 49) rfl rfl rfl rfl) rfl rfl rfl (by decide +kernel) ⟨Nat.le_of_ble_eq_true rfl, Nat.le_of_ble_eq_true rfl⟩) hK [] rfl hP hD hS hA [] [0, 1, 2, 3] rfl rfl (by decide) (by decide) (by decide) rfl hl.1 rfl (Nat.le_of_ble_eq_true rfl) dX0_op_23 ⟨Nat.le_of_ble_eq_true rfl, Nat.le_of_ble_eq_true rfl⟩ rfl rfl (fun H locs hP hD hS => ?_)
  refine lv_iload hx hb dX0_op_26 (lv_at hl 4 rfl) ?_
  refine sm_callS (As := [.int (nI b)]) (rest := []) (wr := (sm_wX cI x0 x1 x2 x3 V S M)) (wn := (sm_wX cI x0 x1 x2 x3 V S M)) (st1 := []) ⟨hx, hb, hml, hown, hts⟩ (c_checkRegister l D b (by omega)) (va_cwS 1 hts (sm_gS (i1 := 47) (i2 := 48) (i4 := 1) (i5 := 49) rfl rfl rfl rfl) rfl rfl rfl (by decide +kernel) ⟨Nat.le_of_ble_eq_true rfl, Nat.le_of_ble_eq_true rfl⟩) hK [] rfl hP hD hS hA [] [0, 1, 2, 3] rfl rfl (by decide) (by decide) (by decide) rfl hl.1 rfl (Nat.le_of_ble_eq_true rfl) dX0_op_28 ⟨Nat.le_of_ble_eq_true rfl, Nat.le_of_ble_eq_true rfl⟩ rfl rfl (fun H locs hP hD hS => ?_)
  refine lv_aload_n hx hb dX0_op_31 rfl (lv_at hl 0 rfl) ?_
  refine lv_iload_n hx hb dX0_op_32 rfl (lv_at hl 1 rfl) ?_
  refine lv_iload_n hx hb dX0_op_33 rfl (lv_at hl 2 rfl) ?_
  refine lv_iload_n hx hb dX0_op_34 rfl (lv_at hl 3 rfl) ?_
  refine lv_iload hx hb dX0_op_35 (lv_at hl 4 rfl) ?_
  refine sm_callV (C := RX0) (As := [.int 4, .int (nI d), .int (nI a), .int (nI b)]) (rest := []) (wr := []) (wn := (sm_wX cI x0 x1 x2 x3 V S M)) (st1 := [.int (V a ^^^ V b)]) ⟨hx, hb, hml, hown, hts⟩ (c_valueOf_4 l D cI x0 x1 x2 x3 V S M d a b hd ha hb') (cwV 4 hts (sm_gV (i1 := 123) (i2 := 124) (i3 := 344) (i4 := 1) (i5 := 125) rfl rfl rfl rfl rfl) rfl rfl rfl (by decide +kernel) ⟨Nat.le_of_ble_eq_true rfl, Nat.le_of_ble_eq_true rfl⟩) hK [0] rfl hP hD hS hA 0 rfl rfl [0, 1, 2, 3] [] rfl rfl (by decide) (by decide) (by decide) rfl hl.1 rfl (Nat.le_of_ble_eq_true rfl) dX0_op_37 ⟨Nat.le_of_ble_eq_true rfl, Nat.le_of_ble_eq_true rfl⟩ rfl rfl (fun H locs hP hD hS => ?_)
  refine lv_istore (lv' := [(5, .int (V a ^^^ V b)), (0, .ref x0), (1, .int 4), (2, .int (nI d)), (3, .int (nI a)), (4, .int (nI b))]) hx hb dX0_op_40 hl (by decide) rfl (fun ls hl => ?_)
  refine lv_aload_n hx hb dX0_op_42 rfl (lv_at hl 1 rfl) ?_
  refine lv_iload_n hx hb dX0_op_43 rfl (lv_at hl 2 rfl) ?_
  refine lv_iload_n hx hb dX0_op_44 rfl (lv_at hl 3 rfl) ?_
  refine lv_iload_n hx hb dX0_op_45 rfl (lv_at hl 4 rfl) ?_
  refine lv_iload hx hb dX0_op_46 (lv_at hl 5 rfl) ?_
  refine sm_callV (C := RX0) (As := [.int 4, .int (nI d), .int (nI a), .int (nI b)]) (rest := []) (wr := []) (wn := (sm_wX cI x0 x1 x2 x3 V S M)) (st1 := [.int (S a ||| S b)]) ⟨hx, hb, hml, hown, hts⟩ (c_shadowOf_4 l D cI x0 x1 x2 x3 V S M d a b hd ha hb') (cwV 4 hts (sm_gV (i1 := 139) (i2 := 140) (i3 := 346) (i4 := 1) (i5 := 141) rfl rfl rfl rfl rfl) rfl rfl rfl (by decide +kernel) ⟨Nat.le_of_ble_eq_true rfl, Nat.le_of_ble_eq_true rfl⟩) hK [0] rfl hP hD hS hA 0 rfl rfl [0, 1, 2, 3] [] rfl rfl (by decide) (by decide) (by decide) rfl hl.1 rfl (Nat.le_of_ble_eq_true rfl) dX0_op_48 ⟨Nat.le_of_ble_eq_true rfl, Nat.le_of_ble_eq_true rfl⟩ rfl rfl (fun H locs hP hD hS => ?_)
  refine lv_istore (lv' := [(6, .int (S a ||| S b)), (5, .int (V a ^^^ V b)), (0, .ref x0), (1, .int 4), (2, .int (nI d)), (3, .int (nI a)), (4, .int (nI b))]) hx hb dX0_op_51 hl (by decide) rfl (fun ls hl => ?_)
  refine lv_aload_n hx hb dX0_op_53 rfl (lv_at hl 2 rfl) ?_
  refine va_get (D := D) (ci := 0) (v := .ref x1) (C := RX0) (T := TX0) (N := 3) hx hb hts inX0 hown hK hP 0 rfl rfl 0 (by decide) (hw 18 rfl) (fun _ h9 => h9) rfl dX0_op_54 ?_
  refine lv_iload_n hx hb dX0_op_57 rfl (lv_at hl 4 rfl) ?_
  refine lv_iload hx hb dX0_op_58 (lv_at hl 1 rfl) ?_
  refine sm_iast (f' := upd V d (V a ^^^ V b)) (ws' := (sm_wX cI x0 x1 x2 x3 (upd V d (V a ^^^ V b)) S M)) hx hb hK hP hD hS 1 0 rfl rfl (vp_in_nI (n := d) (by omega) (by decide)) dX0_op_60 (by rw [nI_clamp (by omega)]) rfl (fun H locs hP hD hS => ?_)
  refine lv_aload_n hx hb dX0_op_61 rfl (lv_at hl 2 rfl) ?_
  refine va_get (D := D) (ci := 0) (v := .ref x2) (C := RX0) (T := TX0) (N := 3) hx hb hts inX0 hown hK hP 0 rfl rfl 1 (by decide) (hw 19 rfl) (fun _ h9 => h9) rfl dX0_op_62 ?_
  refine lv_iload_n hx hb dX0_op_65 rfl (lv_at hl 4 rfl) ?_
  refine lv_iload hx hb dX0_op_66 (lv_at hl 0 rfl) ?_
  refine sm_iast (f' := upd S d (S a ||| S b)) (ws' := (sm_wX cI x0 x1 x2 x3 (upd V d (V a ^^^ V b)) (upd S d (S a ||| S b)) M)) hx hb hK hP hD hS 2 0 rfl rfl (vp_in_nI (n := d) (by omega) (by decide)) dX0_op_68 (by rw [nI_clamp (by omega)]) rfl (fun H locs hP hD hS => ?_)
  exact sm_vret hx hb hrt hlocks hS hP hD dX0_op_69
set_option maxHeartbeats 4000000 in
set_option maxRecDepth 100000 in
theorem c_op_5 (l : Launch) (D : va_G) (cI : ClassId) (x0 x1 x2 x3 : Nat) (V S M : Nat → Int32) (d a b : Nat) (hd : d < 16) (ha : a < 16) (hb' : b < 16) : sm_C l yX0_op wsX0_op ({ frames := 6, cells := 0, slots := 0, locals := 140 } : Room) D vwCl [(cI, .int)] [.ref x0, .int 5, .int (nI d), .int (nI a), .int (nI b)] (sm_wX cI x0 x1 x2 x3 V S M) none (sm_wX cI x0 x1 x2 x3 (upd V d (V a <<< ((V b &&& 31) &&& 31))) (upd S d (if S b &&& 31 = 0 then S a <<< ((V b &&& 31) &&& 31) else (-1))) M) := by
  refine sm_start (cc := cX0_op) (maxL := 7) (ret := none) (lv := [(0, .ref x0), (1, .int 5), (2, .int (nI d)), (3, .int (nI a)), (4, .int (nI b))]) (by decide) rfl (Nat.le_of_ble_eq_true rfl) rfl ?_
  intro p e s m below meth c hx hb hrt hts hown hlocks hml hin hK hP hD hS hA ls hl
  have hw := sm_hw hts
  refine lv_iload_n hx hb dX0_op_0 rfl (lv_at hl 1 rfl) ?_
  refine lv_if_lt (tgt := 10) hx hb dX0_op_1 rfl (fun z => absurd z (by decide)) (fun _ => ?_)
  refine lv_iload_n hx hb dX0_op_4 rfl (lv_at hl 1 rfl) ?_
  refine lv_bipush (v := 12) hx hb dX0_op_5 (by decide) ?_
  refine lv_icmp_le (tgt := 18) hx hb dX0_op_7 rfl (fun _ => ?_) (fun z => absurd (by decide) z)
  refine lv_iload_n hx hb dX0_op_18 rfl (lv_at hl 2 rfl) ?_
  refine sm_callS (As := [.int (nI d)]) (rest := []) (wr := (sm_wX cI x0 x1 x2 x3 V S M)) (wn := (sm_wX cI x0 x1 x2 x3 V S M)) (st1 := []) ⟨hx, hb, hml, hown, hts⟩ (c_checkRegister l D d (by omega)) (va_cwS 1 hts (sm_gS (i1 := 47) (i2 := 48) (i4 := 1) (i5 := 49) rfl rfl rfl rfl) rfl rfl rfl (by decide +kernel) ⟨Nat.le_of_ble_eq_true rfl, Nat.le_of_ble_eq_true rfl⟩) hK [] rfl hP hD hS hA [] [0, 1, 2, 3] rfl rfl (by decide) (by decide) (by decide) rfl hl.1 rfl (Nat.le_of_ble_eq_true rfl) dX0_op_19 ⟨Nat.le_of_ble_eq_true rfl, Nat.le_of_ble_eq_true rfl⟩ rfl rfl (fun H locs hP hD hS => ?_)
  refine lv_iload_n hx hb dX0_op_22 rfl (lv_at hl 3 rfl) ?_
  refine sm_callS (As := [.int (nI a)]) (rest := []) (wr := (sm_wX cI x0 x1 x2 x3 V S M)) (wn := (sm_wX cI x0 x1 x2 x3 V S M)) (st1 := []) ⟨hx, hb, hml, hown, hts⟩ (c_checkRegister l D a (by omega)) (va_cwS 1 hts (sm_gS (i1 := 47) (i2 := 48) (i4 := 1) (i5 := 49) rfl rfl rfl rfl) rfl rfl rfl (by decide +kernel) ⟨Nat.le_of_ble_eq_true rfl, Nat.le_of_ble_eq_true rfl⟩) hK [] rfl hP hD hS hA [] [0, 1, 2, 3] rfl rfl (by decide) (by decide) (by decide) rfl hl.1 rfl (Nat.le_of_ble_eq_true rfl) dX0_op_23 ⟨Nat.le_of_ble_eq_true rfl, Nat.le_of_ble_eq_true rfl⟩ rfl rfl (fun H locs hP hD hS => ?_)
  refine lv_iload hx hb dX0_op_26 (lv_at hl 4 rfl) ?_
  refine sm_callS (As := [.int (nI b)]) (rest := []) (wr := (sm_wX cI x0 x1 x2 x3 V S M)) (wn := (sm_wX cI x0 x1 x2 x3 V S M)) (st1 := []) ⟨hx, hb, hml, hown, hts⟩ (c_checkRegister l D b (by omega)) (va_cwS 1 hts (sm_gS (i1 := 47) (i2 := 48) (i4 := 1) (i5 := 49) rfl rfl rfl rfl) rfl rfl rfl (by decide +kernel) ⟨Nat.le_of_ble_eq_true rfl, Nat.le_of_ble_eq_true rfl⟩) hK [] rfl hP hD hS hA [] [0, 1, 2, 3] rfl rfl (by decide) (by decide) (by decide) rfl hl.1 rfl (Nat.le_of_ble_eq_true rfl) dX0_op_28 ⟨Nat.le_of_ble_eq_true rfl, Nat.le_of_ble_eq_true rfl⟩ rfl rfl (fun H locs hP hD hS => ?_)
  refine lv_aload_n hx hb dX0_op_31 rfl (lv_at hl 0 rfl) ?_
  refine lv_iload_n hx hb dX0_op_32 rfl (lv_at hl 1 rfl) ?_
  refine lv_iload_n hx hb dX0_op_33 rfl (lv_at hl 2 rfl) ?_
  refine lv_iload_n hx hb dX0_op_34 rfl (lv_at hl 3 rfl) ?_
  refine lv_iload hx hb dX0_op_35 (lv_at hl 4 rfl) ?_
  refine sm_callV (C := RX0) (As := [.int 5, .int (nI d), .int (nI a), .int (nI b)]) (rest := []) (wr := []) (wn := (sm_wX cI x0 x1 x2 x3 V S M)) (st1 := [.int (V a <<< ((V b &&& 31) &&& 31))]) ⟨hx, hb, hml, hown, hts⟩ (c_valueOf_5 l D cI x0 x1 x2 x3 V S M d a b hd ha hb') (cwV 4 hts (sm_gV (i1 := 123) (i2 := 124) (i3 := 344) (i4 := 1) (i5 := 125) rfl rfl rfl rfl rfl) rfl rfl rfl (by decide +kernel) ⟨Nat.le_of_ble_eq_true rfl, Nat.le_of_ble_eq_true rfl⟩) hK [0] rfl hP hD hS hA 0 rfl rfl [0, 1, 2, 3] [] rfl rfl (by decide) (by decide) (by decide) rfl hl.1 rfl (Nat.le_of_ble_eq_true rfl) dX0_op_37 ⟨Nat.le_of_ble_eq_true rfl, Nat.le_of_ble_eq_true rfl⟩ rfl rfl (fun H locs hP hD hS => ?_)
  refine lv_istore (lv' := [(5, .int (V a <<< ((V b &&& 31) &&& 31))), (0, .ref x0), (1, .int 5), (2, .int (nI d)), (3, .int (nI a)), (4, .int (nI b))]) hx hb dX0_op_40 hl (by decide) rfl (fun ls hl => ?_)
  refine lv_aload_n hx hb dX0_op_42 rfl (lv_at hl 1 rfl) ?_
  refine lv_iload_n hx hb dX0_op_43 rfl (lv_at hl 2 rfl) ?_
  refine lv_iload_n hx hb dX0_op_44 rfl (lv_at hl 3 rfl) ?_
  refine lv_iload_n hx hb dX0_op_45 rfl (lv_at hl 4 rfl) ?_
  refine lv_iload hx hb dX0_op_46 (lv_at hl 5 rfl) ?_
  refine sm_callV (C := RX0) (As := [.int 5, .int (nI d), .int (nI a), .int (nI b)]) (rest := []) (wr := []) (wn := (sm_wX cI x0 x1 x2 x3 V S M)) (st1 := [.int (if S b &&& 31 = 0 then S a <<< ((V b &&& 31) &&& 31) else (-1))]) ⟨hx, hb, hml, hown, hts⟩ (c_shadowOf_5 l D cI x0 x1 x2 x3 V S M d a b hd ha hb') (cwV 4 hts (sm_gV (i1 := 139) (i2 := 140) (i3 := 346) (i4 := 1) (i5 := 141) rfl rfl rfl rfl rfl) rfl rfl rfl (by decide +kernel) ⟨Nat.le_of_ble_eq_true rfl, Nat.le_of_ble_eq_true rfl⟩) hK [0] rfl hP hD hS hA 0 rfl rfl [0, 1, 2, 3] [] rfl rfl (by decide) (by decide) (by decide) rfl hl.1 rfl (Nat.le_of_ble_eq_true rfl) dX0_op_48 ⟨Nat.le_of_ble_eq_true rfl, Nat.le_of_ble_eq_true rfl⟩ rfl rfl (fun H locs hP hD hS => ?_)
  refine lv_istore (lv' := [(6, .int (if S b &&& 31 = 0 then S a <<< ((V b &&& 31) &&& 31) else (-1))), (5, .int (V a <<< ((V b &&& 31) &&& 31))), (0, .ref x0), (1, .int 5), (2, .int (nI d)), (3, .int (nI a)), (4, .int (nI b))]) hx hb dX0_op_51 hl (by decide) rfl (fun ls hl => ?_)
  refine lv_aload_n hx hb dX0_op_53 rfl (lv_at hl 2 rfl) ?_
  refine va_get (D := D) (ci := 0) (v := .ref x1) (C := RX0) (T := TX0) (N := 3) hx hb hts inX0 hown hK hP 0 rfl rfl 0 (by decide) (hw 18 rfl) (fun _ h9 => h9) rfl dX0_op_54 ?_
  refine lv_iload_n hx hb dX0_op_57 rfl (lv_at hl 4 rfl) ?_
  refine lv_iload hx hb dX0_op_58 (lv_at hl 1 rfl) ?_
  refine sm_iast (f' := upd V d (V a <<< ((V b &&& 31) &&& 31))) (ws' := (sm_wX cI x0 x1 x2 x3 (upd V d (V a <<< ((V b &&& 31) &&& 31))) S M)) hx hb hK hP hD hS 1 0 rfl rfl (vp_in_nI (n := d) (by omega) (by decide)) dX0_op_60 (by rw [nI_clamp (by omega)]) rfl (fun H locs hP hD hS => ?_)
  refine lv_aload_n hx hb dX0_op_61 rfl (lv_at hl 2 rfl) ?_
  refine va_get (D := D) (ci := 0) (v := .ref x2) (C := RX0) (T := TX0) (N := 3) hx hb hts inX0 hown hK hP 0 rfl rfl 1 (by decide) (hw 19 rfl) (fun _ h9 => h9) rfl dX0_op_62 ?_
  refine lv_iload_n hx hb dX0_op_65 rfl (lv_at hl 4 rfl) ?_
  refine lv_iload hx hb dX0_op_66 (lv_at hl 0 rfl) ?_
  refine sm_iast (f' := upd S d (if S b &&& 31 = 0 then S a <<< ((V b &&& 31) &&& 31) else (-1))) (ws' := (sm_wX cI x0 x1 x2 x3 (upd V d (V a <<< ((V b &&& 31) &&& 31))) (upd S d (if S b &&& 31 = 0 then S a <<< ((V b &&& 31) &&& 31) else (-1))) M)) hx hb hK hP hD hS 2 0 rfl rfl (vp_in_nI (n := d) (by omega) (by decide)) dX0_op_68 (by rw [nI_clamp (by omega)]) rfl (fun H locs hP hD hS => ?_)
  exact sm_vret hx hb hrt hlocks hS hP hD dX0_op_69
set_option maxHeartbeats 4000000 in
set_option maxRecDepth 100000 in
theorem c_op_6 (l : Launch) (D : va_G) (cI : ClassId) (x0 x1 x2 x3 : Nat) (V S M : Nat → Int32) (d a b : Nat) (hd : d < 16) (ha : a < 16) (hb' : b < 16) : sm_C l yX0_op wsX0_op ({ frames := 6, cells := 0, slots := 0, locals := 140 } : Room) D vwCl [(cI, .int)] [.ref x0, .int 6, .int (nI d), .int (nI a), .int (nI b)] (sm_wX cI x0 x1 x2 x3 V S M) none (sm_wX cI x0 x1 x2 x3 (upd V d (sm_ushr (V a) (V b &&& 31))) (upd S d (if S b &&& 31 = 0 then sm_ushr (S a) (V b &&& 31) else (-1))) M) := by
  refine sm_start (cc := cX0_op) (maxL := 7) (ret := none) (lv := [(0, .ref x0), (1, .int 6), (2, .int (nI d)), (3, .int (nI a)), (4, .int (nI b))]) (by decide) rfl (Nat.le_of_ble_eq_true rfl) rfl ?_
  intro p e s m below meth c hx hb hrt hts hown hlocks hml hin hK hP hD hS hA ls hl
  have hw := sm_hw hts
  refine lv_iload_n hx hb dX0_op_0 rfl (lv_at hl 1 rfl) ?_
  refine lv_if_lt (tgt := 10) hx hb dX0_op_1 rfl (fun z => absurd z (by decide)) (fun _ => ?_)
  refine lv_iload_n hx hb dX0_op_4 rfl (lv_at hl 1 rfl) ?_
  refine lv_bipush (v := 12) hx hb dX0_op_5 (by decide) ?_
  refine lv_icmp_le (tgt := 18) hx hb dX0_op_7 rfl (fun _ => ?_) (fun z => absurd (by decide) z)
  refine lv_iload_n hx hb dX0_op_18 rfl (lv_at hl 2 rfl) ?_
  refine sm_callS (As := [.int (nI d)]) (rest := []) (wr := (sm_wX cI x0 x1 x2 x3 V S M)) (wn := (sm_wX cI x0 x1 x2 x3 V S M)) (st1 := []) ⟨hx, hb, hml, hown, hts⟩ (c_checkRegister l D d (by omega)) (va_cwS 1 hts (sm_gS (i1 := 47) (i2 := 48) (i4 := 1) (i5 := 49) rfl rfl rfl rfl) rfl rfl rfl (by decide +kernel) ⟨Nat.le_of_ble_eq_true rfl, Nat.le_of_ble_eq_true rfl⟩) hK [] rfl hP hD hS hA [] [0, 1, 2, 3] rfl rfl (by decide) (by decide) (by decide) rfl hl.1 rfl (Nat.le_of_ble_eq_true rfl) dX0_op_19 ⟨Nat.le_of_ble_eq_true rfl, Nat.le_of_ble_eq_true rfl⟩ rfl rfl (fun H locs hP hD hS => ?_)
  refine lv_iload_n hx hb dX0_op_22 rfl (lv_at hl 3 rfl) ?_
  refine sm_callS (As := [.int (nI a)]) (rest := []) (wr := (sm_wX cI x0 x1 x2 x3 V S M)) (wn := (sm_wX cI x0 x1 x2 x3 V S M)) (st1 := []) ⟨hx, hb, hml, hown, hts⟩ (c_checkRegister l D a (by omega)) (va_cwS 1 hts (sm_gS (i1 := 47) (i2 := 48) (i4 := 1) (i5 := 49) rfl rfl rfl rfl) rfl rfl rfl (by decide +kernel) ⟨Nat.le_of_ble_eq_true rfl, Nat.le_of_ble_eq_true rfl⟩) hK [] rfl hP hD hS hA [] [0, 1, 2, 3] rfl rfl (by decide) (by decide) (by decide) rfl hl.1 rfl (Nat.le_of_ble_eq_true rfl) dX0_op_23 ⟨Nat.le_of_ble_eq_true rfl, Nat.le_of_ble_eq_true rfl⟩ rfl rfl (fun H locs hP hD hS => ?_)
  refine lv_iload hx hb dX0_op_26 (lv_at hl 4 rfl) ?_
  refine sm_callS (As := [.int (nI b)]) (rest := []) (wr := (sm_wX cI x0 x1 x2 x3 V S M)) (wn := (sm_wX cI x0 x1 x2 x3 V S M)) (st1 := []) ⟨hx, hb, hml, hown, hts⟩ (c_checkRegister l D b (by omega)) (va_cwS 1 hts (sm_gS (i1 := 47) (i2 := 48) (i4 := 1) (i5 := 49) rfl rfl rfl rfl) rfl rfl rfl (by decide +kernel) ⟨Nat.le_of_ble_eq_true rfl, Nat.le_of_ble_eq_true rfl⟩) hK [] rfl hP hD hS hA [] [0, 1, 2, 3] rfl rfl (by decide) (by decide) (by decide) rfl hl.1 rfl (Nat.le_of_ble_eq_true rfl) dX0_op_28 ⟨Nat.le_of_ble_eq_true rfl, Nat.le_of_ble_eq_true rfl⟩ rfl rfl (fun H locs hP hD hS => ?_)
  refine lv_aload_n hx hb dX0_op_31 rfl (lv_at hl 0 rfl) ?_
  refine lv_iload_n hx hb dX0_op_32 rfl (lv_at hl 1 rfl) ?_
  refine lv_iload_n hx hb dX0_op_33 rfl (lv_at hl 2 rfl) ?_
  refine lv_iload_n hx hb dX0_op_34 rfl (lv_at hl 3 rfl) ?_
  refine lv_iload hx hb dX0_op_35 (lv_at hl 4 rfl) ?_
  refine sm_callV (C := RX0) (As := [.int 6, .int (nI d), .int (nI a), .int (nI b)]) (rest := []) (wr := []) (wn := (sm_wX cI x0 x1 x2 x3 V S M)) (st1 := [.int (sm_ushr (V a) (V b &&& 31))]) ⟨hx, hb, hml, hown, hts⟩ (c_valueOf_6 l D cI x0 x1 x2 x3 V S M d a b hd ha hb') (cwV 4 hts (sm_gV (i1 := 123) (i2 := 124) (i3 := 344) (i4 := 1) (i5 := 125) rfl rfl rfl rfl rfl) rfl rfl rfl (by decide +kernel) ⟨Nat.le_of_ble_eq_true rfl, Nat.le_of_ble_eq_true rfl⟩) hK [0] rfl hP hD hS hA 0 rfl rfl [0, 1, 2, 3] [] rfl rfl (by decide) (by decide) (by decide) rfl hl.1 rfl (Nat.le_of_ble_eq_true rfl) dX0_op_37 ⟨Nat.le_of_ble_eq_true rfl, Nat.le_of_ble_eq_true rfl⟩ rfl rfl (fun H locs hP hD hS => ?_)
  refine lv_istore (lv' := [(5, .int (sm_ushr (V a) (V b &&& 31))), (0, .ref x0), (1, .int 6), (2, .int (nI d)), (3, .int (nI a)), (4, .int (nI b))]) hx hb dX0_op_40 hl (by decide) rfl (fun ls hl => ?_)
  refine lv_aload_n hx hb dX0_op_42 rfl (lv_at hl 1 rfl) ?_
  refine lv_iload_n hx hb dX0_op_43 rfl (lv_at hl 2 rfl) ?_
  refine lv_iload_n hx hb dX0_op_44 rfl (lv_at hl 3 rfl) ?_
  refine lv_iload_n hx hb dX0_op_45 rfl (lv_at hl 4 rfl) ?_
  refine lv_iload hx hb dX0_op_46 (lv_at hl 5 rfl) ?_
  refine sm_callV (C := RX0) (As := [.int 6, .int (nI d), .int (nI a), .int (nI b)]) (rest := []) (wr := []) (wn := (sm_wX cI x0 x1 x2 x3 V S M)) (st1 := [.int (if S b &&& 31 = 0 then sm_ushr (S a) (V b &&& 31) else (-1))]) ⟨hx, hb, hml, hown, hts⟩ (c_shadowOf_6 l D cI x0 x1 x2 x3 V S M d a b hd ha hb') (cwV 4 hts (sm_gV (i1 := 139) (i2 := 140) (i3 := 346) (i4 := 1) (i5 := 141) rfl rfl rfl rfl rfl) rfl rfl rfl (by decide +kernel) ⟨Nat.le_of_ble_eq_true rfl, Nat.le_of_ble_eq_true rfl⟩) hK [0] rfl hP hD hS hA 0 rfl rfl [0, 1, 2, 3] [] rfl rfl (by decide) (by decide) (by decide) rfl hl.1 rfl (Nat.le_of_ble_eq_true rfl) dX0_op_48 ⟨Nat.le_of_ble_eq_true rfl, Nat.le_of_ble_eq_true rfl⟩ rfl rfl (fun H locs hP hD hS => ?_)
  refine lv_istore (lv' := [(6, .int (if S b &&& 31 = 0 then sm_ushr (S a) (V b &&& 31) else (-1))), (5, .int (sm_ushr (V a) (V b &&& 31))), (0, .ref x0), (1, .int 6), (2, .int (nI d)), (3, .int (nI a)), (4, .int (nI b))]) hx hb dX0_op_51 hl (by decide) rfl (fun ls hl => ?_)
  refine lv_aload_n hx hb dX0_op_53 rfl (lv_at hl 2 rfl) ?_
  refine va_get (D := D) (ci := 0) (v := .ref x1) (C := RX0) (T := TX0) (N := 3) hx hb hts inX0 hown hK hP 0 rfl rfl 0 (by decide) (hw 18 rfl) (fun _ h9 => h9) rfl dX0_op_54 ?_
  refine lv_iload_n hx hb dX0_op_57 rfl (lv_at hl 4 rfl) ?_
  refine lv_iload hx hb dX0_op_58 (lv_at hl 1 rfl) ?_
  refine sm_iast (f' := upd V d (sm_ushr (V a) (V b &&& 31))) (ws' := (sm_wX cI x0 x1 x2 x3 (upd V d (sm_ushr (V a) (V b &&& 31))) S M)) hx hb hK hP hD hS 1 0 rfl rfl (vp_in_nI (n := d) (by omega) (by decide)) dX0_op_60 (by rw [nI_clamp (by omega)]) rfl (fun H locs hP hD hS => ?_)
  refine lv_aload_n hx hb dX0_op_61 rfl (lv_at hl 2 rfl) ?_
  refine va_get (D := D) (ci := 0) (v := .ref x2) (C := RX0) (T := TX0) (N := 3) hx hb hts inX0 hown hK hP 0 rfl rfl 1 (by decide) (hw 19 rfl) (fun _ h9 => h9) rfl dX0_op_62 ?_
  refine lv_iload_n hx hb dX0_op_65 rfl (lv_at hl 4 rfl) ?_
  refine lv_iload hx hb dX0_op_66 (lv_at hl 0 rfl) ?_
  refine sm_iast (f' := upd S d (if S b &&& 31 = 0 then sm_ushr (S a) (V b &&& 31) else (-1))) (ws' := (sm_wX cI x0 x1 x2 x3 (upd V d (sm_ushr (V a) (V b &&& 31))) (upd S d (if S b &&& 31 = 0 then sm_ushr (S a) (V b &&& 31) else (-1))) M)) hx hb hK hP hD hS 2 0 rfl rfl (vp_in_nI (n := d) (by omega) (by decide)) dX0_op_68 (by rw [nI_clamp (by omega)]) rfl (fun H locs hP hD hS => ?_)
  exact sm_vret hx hb hrt hlocks hS hP hD dX0_op_69
set_option maxHeartbeats 4000000 in
set_option maxRecDepth 100000 in
theorem c_op_7 (l : Launch) (D : va_G) (cI : ClassId) (x0 x1 x2 x3 : Nat) (V S M : Nat → Int32) (d a b : Nat) (hd : d < 16) (ha : a < 16) (hb' : b < 16) : sm_C l yX0_op wsX0_op ({ frames := 6, cells := 0, slots := 0, locals := 140 } : Room) D vwCl [(cI, .int)] [.ref x0, .int 7, .int (nI d), .int (nI a), .int (nI b)] (sm_wX cI x0 x1 x2 x3 V S M) none (sm_wX cI x0 x1 x2 x3 (upd V d (V a >>> ((V b &&& 31) &&& 31))) (upd S d (if S b &&& 31 = 0 then S a >>> ((V b &&& 31) &&& 31) else (-1))) M) := by
  refine sm_start (cc := cX0_op) (maxL := 7) (ret := none) (lv := [(0, .ref x0), (1, .int 7), (2, .int (nI d)), (3, .int (nI a)), (4, .int (nI b))]) (by decide) rfl (Nat.le_of_ble_eq_true rfl) rfl ?_
  intro p e s m below meth c hx hb hrt hts hown hlocks hml hin hK hP hD hS hA ls hl
  have hw := sm_hw hts
  refine lv_iload_n hx hb dX0_op_0 rfl (lv_at hl 1 rfl) ?_
  refine lv_if_lt (tgt := 10) hx hb dX0_op_1 rfl (fun z => absurd z (by decide)) (fun _ => ?_)
  refine lv_iload_n hx hb dX0_op_4 rfl (lv_at hl 1 rfl) ?_
  refine lv_bipush (v := 12) hx hb dX0_op_5 (by decide) ?_
  refine lv_icmp_le (tgt := 18) hx hb dX0_op_7 rfl (fun _ => ?_) (fun z => absurd (by decide) z)
  refine lv_iload_n hx hb dX0_op_18 rfl (lv_at hl 2 rfl) ?_
  refine sm_callS (As := [.int (nI d)]) (rest := []) (wr := (sm_wX cI x0 x1 x2 x3 V S M)) (wn := (sm_wX cI x0 x1 x2 x3 V S M)) (st1 := []) ⟨hx, hb, hml, hown, hts⟩ (c_checkRegister l D d (by omega)) (va_cwS 1 hts (sm_gS (i1 := 47) (i2 := 48) (i4 := 1) (i5 := 49) rfl rfl rfl rfl) rfl rfl rfl (by decide +kernel) ⟨Nat.le_of_ble_eq_true rfl, Nat.le_of_ble_eq_true rfl⟩) hK [] rfl hP hD hS hA [] [0, 1, 2, 3] rfl rfl (by decide) (by decide) (by decide) rfl hl.1 rfl (Nat.le_of_ble_eq_true rfl) dX0_op_19 ⟨Nat.le_of_ble_eq_true rfl, Nat.le_of_ble_eq_true rfl⟩ rfl rfl (fun H locs hP hD hS => ?_)
  refine lv_iload_n hx hb dX0_op_22 rfl (lv_at hl 3 rfl) ?_
  refine sm_callS (As := [.int (nI a)]) (rest := []) (wr := (sm_wX cI x0 x1 x2 x3 V S M)) (wn := (sm_wX cI x0 x1 x2 x3 V S M)) (st1 := []) ⟨hx, hb, hml, hown, hts⟩ (c_checkRegister l D a (by omega)) (va_cwS 1 hts (sm_gS (i1 := 47) (i2 := 48) (i4 := 1) (i5 := 49) rfl rfl rfl rfl) rfl rfl rfl (by decide +kernel) ⟨Nat.le_of_ble_eq_true rfl, Nat.le_of_ble_eq_true rfl⟩) hK [] rfl hP hD hS hA [] [0, 1, 2, 3] rfl rfl (by decide) (by decide) (by decide) rfl hl.1 rfl (Nat.le_of_ble_eq_true rfl) dX0_op_23 ⟨Nat.le_of_ble_eq_true rfl, Nat.le_of_ble_eq_true rfl⟩ rfl rfl (fun H locs hP hD hS => ?_)
  refine lv_iload hx hb dX0_op_26 (lv_at hl 4 rfl) ?_
  refine sm_callS (As := [.int (nI b)]) (rest := []) (wr := (sm_wX cI x0 x1 x2 x3 V S M)) (wn := (sm_wX cI x0 x1 x2 x3 V S M)) (st1 := []) ⟨hx, hb, hml, hown, hts⟩ (c_checkRegister l D b (by omega)) (va_cwS 1 hts (sm_gS (i1 := 47) (i2 := 48) (i4 := 1) (i5 := 49) rfl rfl rfl rfl) rfl rfl rfl (by decide +kernel) ⟨Nat.le_of_ble_eq_true rfl, Nat.le_of_ble_eq_true rfl⟩) hK [] rfl hP hD hS hA [] [0, 1, 2, 3] rfl rfl (by decide) (by decide) (by decide) rfl hl.1 rfl (Nat.le_of_ble_eq_true rfl) dX0_op_28 ⟨Nat.le_of_ble_eq_true rfl, Nat.le_of_ble_eq_true rfl⟩ rfl rfl (fun H locs hP hD hS => ?_)
  refine lv_aload_n hx hb dX0_op_31 rfl (lv_at hl 0 rfl) ?_
  refine lv_iload_n hx hb dX0_op_32 rfl (lv_at hl 1 rfl) ?_
  refine lv_iload_n hx hb dX0_op_33 rfl (lv_at hl 2 rfl) ?_
  refine lv_iload_n hx hb dX0_op_34 rfl (lv_at hl 3 rfl) ?_
  refine lv_iload hx hb dX0_op_35 (lv_at hl 4 rfl) ?_
  refine sm_callV (C := RX0) (As := [.int 7, .int (nI d), .int (nI a), .int (nI b)]) (rest := []) (wr := []) (wn := (sm_wX cI x0 x1 x2 x3 V S M)) (st1 := [.int (V a >>> ((V b &&& 31) &&& 31))]) ⟨hx, hb, hml, hown, hts⟩ (c_valueOf_7 l D cI x0 x1 x2 x3 V S M d a b hd ha hb') (cwV 4 hts (sm_gV (i1 := 123) (i2 := 124) (i3 := 344) (i4 := 1) (i5 := 125) rfl rfl rfl rfl rfl) rfl rfl rfl (by decide +kernel) ⟨Nat.le_of_ble_eq_true rfl, Nat.le_of_ble_eq_true rfl⟩) hK [0] rfl hP hD hS hA 0 rfl rfl [0, 1, 2, 3] [] rfl rfl (by decide) (by decide) (by decide) rfl hl.1 rfl (Nat.le_of_ble_eq_true rfl) dX0_op_37 ⟨Nat.le_of_ble_eq_true rfl, Nat.le_of_ble_eq_true rfl⟩ rfl rfl (fun H locs hP hD hS => ?_)
  refine lv_istore (lv' := [(5, .int (V a >>> ((V b &&& 31) &&& 31))), (0, .ref x0), (1, .int 7), (2, .int (nI d)), (3, .int (nI a)), (4, .int (nI b))]) hx hb dX0_op_40 hl (by decide) rfl (fun ls hl => ?_)
  refine lv_aload_n hx hb dX0_op_42 rfl (lv_at hl 1 rfl) ?_
  refine lv_iload_n hx hb dX0_op_43 rfl (lv_at hl 2 rfl) ?_
  refine lv_iload_n hx hb dX0_op_44 rfl (lv_at hl 3 rfl) ?_
  refine lv_iload_n hx hb dX0_op_45 rfl (lv_at hl 4 rfl) ?_
  refine lv_iload hx hb dX0_op_46 (lv_at hl 5 rfl) ?_
  refine sm_callV (C := RX0) (As := [.int 7, .int (nI d), .int (nI a), .int (nI b)]) (rest := []) (wr := []) (wn := (sm_wX cI x0 x1 x2 x3 V S M)) (st1 := [.int (if S b &&& 31 = 0 then S a >>> ((V b &&& 31) &&& 31) else (-1))]) ⟨hx, hb, hml, hown, hts⟩ (c_shadowOf_7 l D cI x0 x1 x2 x3 V S M d a b hd ha hb') (cwV 4 hts (sm_gV (i1 := 139) (i2 := 140) (i3 := 346) (i4 := 1) (i5 := 141) rfl rfl rfl rfl rfl) rfl rfl rfl (by decide +kernel) ⟨Nat.le_of_ble_eq_true rfl, Nat.le_of_ble_eq_true rfl⟩) hK [0] rfl hP hD hS hA 0 rfl rfl [0, 1, 2, 3] [] rfl rfl (by decide) (by decide) (by decide) rfl hl.1 rfl (Nat.le_of_ble_eq_true rfl) dX0_op_48 ⟨Nat.le_of_ble_eq_true rfl, Nat.le_of_ble_eq_true rfl⟩ rfl rfl (fun H locs hP hD hS => ?_)
  refine lv_istore (lv' := [(6, .int (if S b &&& 31 = 0 then S a >>> ((V b &&& 31) &&& 31) else (-1))), (5, .int (V a >>> ((V b &&& 31) &&& 31))), (0, .ref x0), (1, .int 7), (2, .int (nI d)), (3, .int (nI a)), (4, .int (nI b))]) hx hb dX0_op_51 hl (by decide) rfl (fun ls hl => ?_)
  refine lv_aload_n hx hb dX0_op_53 rfl (lv_at hl 2 rfl) ?_
  refine va_get (D := D) (ci := 0) (v := .ref x1) (C := RX0) (T := TX0) (N := 3) hx hb hts inX0 hown hK hP 0 rfl rfl 0 (by decide) (hw 18 rfl) (fun _ h9 => h9) rfl dX0_op_54 ?_
  refine lv_iload_n hx hb dX0_op_57 rfl (lv_at hl 4 rfl) ?_
  refine lv_iload hx hb dX0_op_58 (lv_at hl 1 rfl) ?_
  refine sm_iast (f' := upd V d (V a >>> ((V b &&& 31) &&& 31))) (ws' := (sm_wX cI x0 x1 x2 x3 (upd V d (V a >>> ((V b &&& 31) &&& 31))) S M)) hx hb hK hP hD hS 1 0 rfl rfl (vp_in_nI (n := d) (by omega) (by decide)) dX0_op_60 (by rw [nI_clamp (by omega)]) rfl (fun H locs hP hD hS => ?_)
  refine lv_aload_n hx hb dX0_op_61 rfl (lv_at hl 2 rfl) ?_
  refine va_get (D := D) (ci := 0) (v := .ref x2) (C := RX0) (T := TX0) (N := 3) hx hb hts inX0 hown hK hP 0 rfl rfl 1 (by decide) (hw 19 rfl) (fun _ h9 => h9) rfl dX0_op_62 ?_
  refine lv_iload_n hx hb dX0_op_65 rfl (lv_at hl 4 rfl) ?_
  refine lv_iload hx hb dX0_op_66 (lv_at hl 0 rfl) ?_
  refine sm_iast (f' := upd S d (if S b &&& 31 = 0 then S a >>> ((V b &&& 31) &&& 31) else (-1))) (ws' := (sm_wX cI x0 x1 x2 x3 (upd V d (V a >>> ((V b &&& 31) &&& 31))) (upd S d (if S b &&& 31 = 0 then S a >>> ((V b &&& 31) &&& 31) else (-1))) M)) hx hb hK hP hD hS 2 0 rfl rfl (vp_in_nI (n := d) (by omega) (by decide)) dX0_op_68 (by rw [nI_clamp (by omega)]) rfl (fun H locs hP hD hS => ?_)
  exact sm_vret hx hb hrt hlocks hS hP hD dX0_op_69
set_option maxHeartbeats 4000000 in
set_option maxRecDepth 100000 in
theorem c_op_8 (l : Launch) (D : va_G) (cI : ClassId) (x0 x1 x2 x3 : Nat) (V S M : Nat → Int32) (d a b : Nat) (hd : d < 16) (ha : a < 16) (hb' : b < 16) : sm_C l yX0_op wsX0_op ({ frames := 6, cells := 0, slots := 0, locals := 140 } : Room) D vwCl [(cI, .int)] [.ref x0, .int 8, .int (nI d), .int (nI a), .int (nI b)] (sm_wX cI x0 x1 x2 x3 V S M) none (sm_wX cI x0 x1 x2 x3 (upd V d (V a * V b)) (upd S d (sm_fr (sm_min (sm_tz (S a) + sm_tz (V b ||| S b)) (sm_tz (S b) + sm_tz (V a ||| S a))))) M) := by
  refine sm_start (cc := cX0_op) (maxL := 7) (ret := none) (lv := [(0, .ref x0), (1, .int 8), (2, .int (nI d)), (3, .int (nI a)), (4, .int (nI b))]) (by decide) rfl (Nat.le_of_ble_eq_true rfl) rfl ?_
  intro p e s m below meth c hx hb hrt hts hown hlocks hml hin hK hP hD hS hA ls hl
  have hw := sm_hw hts
  refine lv_iload_n hx hb dX0_op_0 rfl (lv_at hl 1 rfl) ?_
  refine lv_if_lt (tgt := 10) hx hb dX0_op_1 rfl (fun z => absurd z (by decide)) (fun _ => ?_)
  refine lv_iload_n hx hb dX0_op_4 rfl (lv_at hl 1 rfl) ?_
  refine lv_bipush (v := 12) hx hb dX0_op_5 (by decide) ?_
  refine lv_icmp_le (tgt := 18) hx hb dX0_op_7 rfl (fun _ => ?_) (fun z => absurd (by decide) z)
  refine lv_iload_n hx hb dX0_op_18 rfl (lv_at hl 2 rfl) ?_
  refine sm_callS (As := [.int (nI d)]) (rest := []) (wr := (sm_wX cI x0 x1 x2 x3 V S M)) (wn := (sm_wX cI x0 x1 x2 x3 V S M)) (st1 := []) ⟨hx, hb, hml, hown, hts⟩ (c_checkRegister l D d (by omega)) (va_cwS 1 hts (sm_gS (i1 := 47) (i2 := 48) (i4 := 1) (i5 := 49) rfl rfl rfl rfl) rfl rfl rfl (by decide +kernel) ⟨Nat.le_of_ble_eq_true rfl, Nat.le_of_ble_eq_true rfl⟩) hK [] rfl hP hD hS hA [] [0, 1, 2, 3] rfl rfl (by decide) (by decide) (by decide) rfl hl.1 rfl (Nat.le_of_ble_eq_true rfl) dX0_op_19 ⟨Nat.le_of_ble_eq_true rfl, Nat.le_of_ble_eq_true rfl⟩ rfl rfl (fun H locs hP hD hS => ?_)
  refine lv_iload_n hx hb dX0_op_22 rfl (lv_at hl 3 rfl) ?_
  refine sm_callS (As := [.int (nI a)]) (rest := []) (wr := (sm_wX cI x0 x1 x2 x3 V S M)) (wn := (sm_wX cI x0 x1 x2 x3 V S M)) (st1 := []) ⟨hx, hb, hml, hown, hts⟩ (c_checkRegister l D a (by omega)) (va_cwS 1 hts (sm_gS (i1 := 47) (i2 := 48) (i4 := 1) (i5 := 49) rfl rfl rfl rfl) rfl rfl rfl (by decide +kernel) ⟨Nat.le_of_ble_eq_true rfl, Nat.le_of_ble_eq_true rfl⟩) hK [] rfl hP hD hS hA [] [0, 1, 2, 3] rfl rfl (by decide) (by decide) (by decide) rfl hl.1 rfl (Nat.le_of_ble_eq_true rfl) dX0_op_23 ⟨Nat.le_of_ble_eq_true rfl, Nat.le_of_ble_eq_true rfl⟩ rfl rfl (fun H locs hP hD hS => ?_)
  refine lv_iload hx hb dX0_op_26 (lv_at hl 4 rfl) ?_
  refine sm_callS (As := [.int (nI b)]) (rest := []) (wr := (sm_wX cI x0 x1 x2 x3 V S M)) (wn := (sm_wX cI x0 x1 x2 x3 V S M)) (st1 := []) ⟨hx, hb, hml, hown, hts⟩ (c_checkRegister l D b (by omega)) (va_cwS 1 hts (sm_gS (i1 := 47) (i2 := 48) (i4 := 1) (i5 := 49) rfl rfl rfl rfl) rfl rfl rfl (by decide +kernel) ⟨Nat.le_of_ble_eq_true rfl, Nat.le_of_ble_eq_true rfl⟩) hK [] rfl hP hD hS hA [] [0, 1, 2, 3] rfl rfl (by decide) (by decide) (by decide) rfl hl.1 rfl (Nat.le_of_ble_eq_true rfl) dX0_op_28 ⟨Nat.le_of_ble_eq_true rfl, Nat.le_of_ble_eq_true rfl⟩ rfl rfl (fun H locs hP hD hS => ?_)
  refine lv_aload_n hx hb dX0_op_31 rfl (lv_at hl 0 rfl) ?_
  refine lv_iload_n hx hb dX0_op_32 rfl (lv_at hl 1 rfl) ?_
  refine lv_iload_n hx hb dX0_op_33 rfl (lv_at hl 2 rfl) ?_
  refine lv_iload_n hx hb dX0_op_34 rfl (lv_at hl 3 rfl) ?_
  refine lv_iload hx hb dX0_op_35 (lv_at hl 4 rfl) ?_
  refine sm_callV (C := RX0) (As := [.int 8, .int (nI d), .int (nI a), .int (nI b)]) (rest := []) (wr := []) (wn := (sm_wX cI x0 x1 x2 x3 V S M)) (st1 := [.int (V a * V b)]) ⟨hx, hb, hml, hown, hts⟩ (c_valueOf_8 l D cI x0 x1 x2 x3 V S M d a b hd ha hb') (cwV 4 hts (sm_gV (i1 := 123) (i2 := 124) (i3 := 344) (i4 := 1) (i5 := 125) rfl rfl rfl rfl rfl) rfl rfl rfl (by decide +kernel) ⟨Nat.le_of_ble_eq_true rfl, Nat.le_of_ble_eq_true rfl⟩) hK [0] rfl hP hD hS hA 0 rfl rfl [0, 1, 2, 3] [] rfl rfl (by decide) (by decide) (by decide) rfl hl.1 rfl (Nat.le_of_ble_eq_true rfl) dX0_op_37 ⟨Nat.le_of_ble_eq_true rfl, Nat.le_of_ble_eq_true rfl⟩ rfl rfl (fun H locs hP hD hS => ?_)
  refine lv_istore (lv' := [(5, .int (V a * V b)), (0, .ref x0), (1, .int 8), (2, .int (nI d)), (3, .int (nI a)), (4, .int (nI b))]) hx hb dX0_op_40 hl (by decide) rfl (fun ls hl => ?_)
  refine lv_aload_n hx hb dX0_op_42 rfl (lv_at hl 1 rfl) ?_
  refine lv_iload_n hx hb dX0_op_43 rfl (lv_at hl 2 rfl) ?_
  refine lv_iload_n hx hb dX0_op_44 rfl (lv_at hl 3 rfl) ?_
  refine lv_iload_n hx hb dX0_op_45 rfl (lv_at hl 4 rfl) ?_
  refine lv_iload hx hb dX0_op_46 (lv_at hl 5 rfl) ?_
  refine sm_callV (C := RX0) (As := [.int 8, .int (nI d), .int (nI a), .int (nI b)]) (rest := []) (wr := []) (wn := (sm_wX cI x0 x1 x2 x3 V S M)) (st1 := [.int (sm_fr (sm_min (sm_tz (S a) + sm_tz (V b ||| S b)) (sm_tz (S b) + sm_tz (V a ||| S a))))]) ⟨hx, hb, hml, hown, hts⟩ (c_shadowOf_8 l D cI x0 x1 x2 x3 V S M d a b hd ha hb') (cwV 4 hts (sm_gV (i1 := 139) (i2 := 140) (i3 := 346) (i4 := 1) (i5 := 141) rfl rfl rfl rfl rfl) rfl rfl rfl (by decide +kernel) ⟨Nat.le_of_ble_eq_true rfl, Nat.le_of_ble_eq_true rfl⟩) hK [0] rfl hP hD hS hA 0 rfl rfl [0, 1, 2, 3] [] rfl rfl (by decide) (by decide) (by decide) rfl hl.1 rfl (Nat.le_of_ble_eq_true rfl) dX0_op_48 ⟨Nat.le_of_ble_eq_true rfl, Nat.le_of_ble_eq_true rfl⟩ rfl rfl (fun H locs hP hD hS => ?_)
  refine lv_istore (lv' := [(6, .int (sm_fr (sm_min (sm_tz (S a) + sm_tz (V b ||| S b)) (sm_tz (S b) + sm_tz (V a ||| S a))))), (5, .int (V a * V b)), (0, .ref x0), (1, .int 8), (2, .int (nI d)), (3, .int (nI a)), (4, .int (nI b))]) hx hb dX0_op_51 hl (by decide) rfl (fun ls hl => ?_)
  refine lv_aload_n hx hb dX0_op_53 rfl (lv_at hl 2 rfl) ?_
  refine va_get (D := D) (ci := 0) (v := .ref x1) (C := RX0) (T := TX0) (N := 3) hx hb hts inX0 hown hK hP 0 rfl rfl 0 (by decide) (hw 18 rfl) (fun _ h9 => h9) rfl dX0_op_54 ?_
  refine lv_iload_n hx hb dX0_op_57 rfl (lv_at hl 4 rfl) ?_
  refine lv_iload hx hb dX0_op_58 (lv_at hl 1 rfl) ?_
  refine sm_iast (f' := upd V d (V a * V b)) (ws' := (sm_wX cI x0 x1 x2 x3 (upd V d (V a * V b)) S M)) hx hb hK hP hD hS 1 0 rfl rfl (vp_in_nI (n := d) (by omega) (by decide)) dX0_op_60 (by rw [nI_clamp (by omega)]) rfl (fun H locs hP hD hS => ?_)
  refine lv_aload_n hx hb dX0_op_61 rfl (lv_at hl 2 rfl) ?_
  refine va_get (D := D) (ci := 0) (v := .ref x2) (C := RX0) (T := TX0) (N := 3) hx hb hts inX0 hown hK hP 0 rfl rfl 1 (by decide) (hw 19 rfl) (fun _ h9 => h9) rfl dX0_op_62 ?_
  refine lv_iload_n hx hb dX0_op_65 rfl (lv_at hl 4 rfl) ?_
  refine lv_iload hx hb dX0_op_66 (lv_at hl 0 rfl) ?_
  refine sm_iast (f' := upd S d (sm_fr (sm_min (sm_tz (S a) + sm_tz (V b ||| S b)) (sm_tz (S b) + sm_tz (V a ||| S a))))) (ws' := (sm_wX cI x0 x1 x2 x3 (upd V d (V a * V b)) (upd S d (sm_fr (sm_min (sm_tz (S a) + sm_tz (V b ||| S b)) (sm_tz (S b) + sm_tz (V a ||| S a))))) M)) hx hb hK hP hD hS 2 0 rfl rfl (vp_in_nI (n := d) (by omega) (by decide)) dX0_op_68 (by rw [nI_clamp (by omega)]) rfl (fun H locs hP hD hS => ?_)
  exact sm_vret hx hb hrt hlocks hS hP hD dX0_op_69
set_option maxHeartbeats 4000000 in
set_option maxRecDepth 100000 in
theorem c_op_9 (l : Launch) (D : va_G) (cI : ClassId) (x0 x1 x2 x3 : Nat) (V S M : Nat → Int32) (d a b : Nat) (hd : d < 16) (ha : a < 16) (hb' : b < 16) : sm_C l yX0_op wsX0_op ({ frames := 6, cells := 0, slots := 0, locals := 140 } : Room) D vwCl [(cI, .int)] [.ref x0, .int 9, .int (nI d), .int (nI a), .int (nI b)] (sm_wX cI x0 x1 x2 x3 V S M) none (sm_wX cI x0 x1 x2 x3 (upd V d (sm_bI (decide (V a < V b)))) (upd S d (sm_bI (decide (sm_le (V a) (S a) < sm_he (V b) (S b)) && decide (sm_le (V b) (S b) ≤ sm_he (V a) (S a))))) M) := by
  refine sm_start (cc := cX0_op) (maxL := 7) (ret := none) (lv := [(0, .ref x0), (1, .int 9), (2, .int (nI d)), (3, .int (nI a)), (4, .int (nI b))]) (by decide) rfl (Nat.le_of_ble_eq_true rfl) rfl ?_
  intro p e s m below meth c hx hb hrt hts hown hlocks hml hin hK hP hD hS hA ls hl
  have hw := sm_hw hts
  refine lv_iload_n hx hb dX0_op_0 rfl (lv_at hl 1 rfl) ?_
  refine lv_if_lt (tgt := 10) hx hb dX0_op_1 rfl (fun z => absurd z (by decide)) (fun _ => ?_)
  refine lv_iload_n hx hb dX0_op_4 rfl (lv_at hl 1 rfl) ?_
  refine lv_bipush (v := 12) hx hb dX0_op_5 (by decide) ?_
  refine lv_icmp_le (tgt := 18) hx hb dX0_op_7 rfl (fun _ => ?_) (fun z => absurd (by decide) z)
  refine lv_iload_n hx hb dX0_op_18 rfl (lv_at hl 2 rfl) ?_
  refine sm_callS (As := [.int (nI d)]) (rest := []) (wr := (sm_wX cI x0 x1 x2 x3 V S M)) (wn := (sm_wX cI x0 x1 x2 x3 V S M)) (st1 := []) ⟨hx, hb, hml, hown, hts⟩ (c_checkRegister l D d (by omega)) (va_cwS 1 hts (sm_gS (i1 := 47) (i2 := 48) (i4 := 1) (i5 := 49) rfl rfl rfl rfl) rfl rfl rfl (by decide +kernel) ⟨Nat.le_of_ble_eq_true rfl, Nat.le_of_ble_eq_true rfl⟩) hK [] rfl hP hD hS hA [] [0, 1, 2, 3] rfl rfl (by decide) (by decide) (by decide) rfl hl.1 rfl (Nat.le_of_ble_eq_true rfl) dX0_op_19 ⟨Nat.le_of_ble_eq_true rfl, Nat.le_of_ble_eq_true rfl⟩ rfl rfl (fun H locs hP hD hS => ?_)
  refine lv_iload_n hx hb dX0_op_22 rfl (lv_at hl 3 rfl) ?_
  refine sm_callS (As := [.int (nI a)]) (rest := []) (wr := (sm_wX cI x0 x1 x2 x3 V S M)) (wn := (sm_wX cI x0 x1 x2 x3 V S M)) (st1 := []) ⟨hx, hb, hml, hown, hts⟩ (c_checkRegister l D a (by omega)) (va_cwS 1 hts (sm_gS (i1 := 47) (i2 := 48) (i4 := 1) (i5 := 49) rfl rfl rfl rfl) rfl rfl rfl (by decide +kernel) ⟨Nat.le_of_ble_eq_true rfl, Nat.le_of_ble_eq_true rfl⟩) hK [] rfl hP hD hS hA [] [0, 1, 2, 3] rfl rfl (by decide) (by decide) (by decide) rfl hl.1 rfl (Nat.le_of_ble_eq_true rfl) dX0_op_23 ⟨Nat.le_of_ble_eq_true rfl, Nat.le_of_ble_eq_true rfl⟩ rfl rfl (fun H locs hP hD hS => ?_)
  refine lv_iload hx hb dX0_op_26 (lv_at hl 4 rfl) ?_
  refine sm_callS (As := [.int (nI b)]) (rest := []) (wr := (sm_wX cI x0 x1 x2 x3 V S M)) (wn := (sm_wX cI x0 x1 x2 x3 V S M)) (st1 := []) ⟨hx, hb, hml, hown, hts⟩ (c_checkRegister l D b (by omega)) (va_cwS 1 hts (sm_gS (i1 := 47) (i2 := 48) (i4 := 1) (i5 := 49) rfl rfl rfl rfl) rfl rfl rfl (by decide +kernel) ⟨Nat.le_of_ble_eq_true rfl, Nat.le_of_ble_eq_true rfl⟩) hK [] rfl hP hD hS hA [] [0, 1, 2, 3] rfl rfl (by decide) (by decide) (by decide) rfl hl.1 rfl (Nat.le_of_ble_eq_true rfl) dX0_op_28 ⟨Nat.le_of_ble_eq_true rfl, Nat.le_of_ble_eq_true rfl⟩ rfl rfl (fun H locs hP hD hS => ?_)
  refine lv_aload_n hx hb dX0_op_31 rfl (lv_at hl 0 rfl) ?_
  refine lv_iload_n hx hb dX0_op_32 rfl (lv_at hl 1 rfl) ?_
  refine lv_iload_n hx hb dX0_op_33 rfl (lv_at hl 2 rfl) ?_
  refine lv_iload_n hx hb dX0_op_34 rfl (lv_at hl 3 rfl) ?_
  refine lv_iload hx hb dX0_op_35 (lv_at hl 4 rfl) ?_
  refine sm_callV (C := RX0) (As := [.int 9, .int (nI d), .int (nI a), .int (nI b)]) (rest := []) (wr := []) (wn := (sm_wX cI x0 x1 x2 x3 V S M)) (st1 := [.int (sm_bI (decide (V a < V b)))]) ⟨hx, hb, hml, hown, hts⟩ (c_valueOf_9 l D cI x0 x1 x2 x3 V S M d a b hd ha hb') (cwV 4 hts (sm_gV (i1 := 123) (i2 := 124) (i3 := 344) (i4 := 1) (i5 := 125) rfl rfl rfl rfl rfl) rfl rfl rfl (by decide +kernel) ⟨Nat.le_of_ble_eq_true rfl, Nat.le_of_ble_eq_true rfl⟩) hK [0] rfl hP hD hS hA 0 rfl rfl [0, 1, 2, 3] [] rfl rfl (by decide) (by decide) (by decide) rfl hl.1 rfl (Nat.le_of_ble_eq_true rfl) dX0_op_37 ⟨Nat.le_of_ble_eq_true rfl, Nat.le_of_ble_eq_true rfl⟩ rfl rfl (fun H locs hP hD hS => ?_)
  refine lv_istore (lv' := [(5, .int (sm_bI (decide (V a < V b)))), (0, .ref x0), (1, .int 9), (2, .int (nI d)), (3, .int (nI a)), (4, .int (nI b))]) hx hb dX0_op_40 hl (by decide) rfl (fun ls hl => ?_)
  refine lv_aload_n hx hb dX0_op_42 rfl (lv_at hl 1 rfl) ?_
  refine lv_iload_n hx hb dX0_op_43 rfl (lv_at hl 2 rfl) ?_
  refine lv_iload_n hx hb dX0_op_44 rfl (lv_at hl 3 rfl) ?_
  refine lv_iload_n hx hb dX0_op_45 rfl (lv_at hl 4 rfl) ?_
  refine lv_iload hx hb dX0_op_46 (lv_at hl 5 rfl) ?_
  refine sm_callV (C := RX0) (As := [.int 9, .int (nI d), .int (nI a), .int (nI b)]) (rest := []) (wr := []) (wn := (sm_wX cI x0 x1 x2 x3 V S M)) (st1 := [.int (sm_bI (decide (sm_le (V a) (S a) < sm_he (V b) (S b)) && decide (sm_le (V b) (S b) ≤ sm_he (V a) (S a))))]) ⟨hx, hb, hml, hown, hts⟩ (c_shadowOf_9 l D cI x0 x1 x2 x3 V S M d a b hd ha hb') (cwV 4 hts (sm_gV (i1 := 139) (i2 := 140) (i3 := 346) (i4 := 1) (i5 := 141) rfl rfl rfl rfl rfl) rfl rfl rfl (by decide +kernel) ⟨Nat.le_of_ble_eq_true rfl, Nat.le_of_ble_eq_true rfl⟩) hK [0] rfl hP hD hS hA 0 rfl rfl [0, 1, 2, 3] [] rfl rfl (by decide) (by decide) (by decide) rfl hl.1 rfl (Nat.le_of_ble_eq_true rfl) dX0_op_48 ⟨Nat.le_of_ble_eq_true rfl, Nat.le_of_ble_eq_true rfl⟩ rfl rfl (fun H locs hP hD hS => ?_)
  refine lv_istore (lv' := [(6, .int (sm_bI (decide (sm_le (V a) (S a) < sm_he (V b) (S b)) && decide (sm_le (V b) (S b) ≤ sm_he (V a) (S a))))), (5, .int (sm_bI (decide (V a < V b)))), (0, .ref x0), (1, .int 9), (2, .int (nI d)), (3, .int (nI a)), (4, .int (nI b))]) hx hb dX0_op_51 hl (by decide) rfl (fun ls hl => ?_)
  refine lv_aload_n hx hb dX0_op_53 rfl (lv_at hl 2 rfl) ?_
  refine va_get (D := D) (ci := 0) (v := .ref x1) (C := RX0) (T := TX0) (N := 3) hx hb hts inX0 hown hK hP 0 rfl rfl 0 (by decide) (hw 18 rfl) (fun _ h9 => h9) rfl dX0_op_54 ?_
  refine lv_iload_n hx hb dX0_op_57 rfl (lv_at hl 4 rfl) ?_
  refine lv_iload hx hb dX0_op_58 (lv_at hl 1 rfl) ?_
  refine sm_iast (f' := upd V d (sm_bI (decide (V a < V b)))) (ws' := (sm_wX cI x0 x1 x2 x3 (upd V d (sm_bI (decide (V a < V b)))) S M)) hx hb hK hP hD hS 1 0 rfl rfl (vp_in_nI (n := d) (by omega) (by decide)) dX0_op_60 (by rw [nI_clamp (by omega)]) rfl (fun H locs hP hD hS => ?_)
  refine lv_aload_n hx hb dX0_op_61 rfl (lv_at hl 2 rfl) ?_
  refine va_get (D := D) (ci := 0) (v := .ref x2) (C := RX0) (T := TX0) (N := 3) hx hb hts inX0 hown hK hP 0 rfl rfl 1 (by decide) (hw 19 rfl) (fun _ h9 => h9) rfl dX0_op_62 ?_
  refine lv_iload_n hx hb dX0_op_65 rfl (lv_at hl 4 rfl) ?_
  refine lv_iload hx hb dX0_op_66 (lv_at hl 0 rfl) ?_
  refine sm_iast (f' := upd S d (sm_bI (decide (sm_le (V a) (S a) < sm_he (V b) (S b)) && decide (sm_le (V b) (S b) ≤ sm_he (V a) (S a))))) (ws' := (sm_wX cI x0 x1 x2 x3 (upd V d (sm_bI (decide (V a < V b)))) (upd S d (sm_bI (decide (sm_le (V a) (S a) < sm_he (V b) (S b)) && decide (sm_le (V b) (S b) ≤ sm_he (V a) (S a))))) M)) hx hb hK hP hD hS 2 0 rfl rfl (vp_in_nI (n := d) (by omega) (by decide)) dX0_op_68 (by rw [nI_clamp (by omega)]) rfl (fun H locs hP hD hS => ?_)
  exact sm_vret hx hb hrt hlocks hS hP hD dX0_op_69
set_option maxHeartbeats 4000000 in
set_option maxRecDepth 100000 in
theorem c_op_10 (l : Launch) (D : va_G) (cI : ClassId) (x0 x1 x2 x3 : Nat) (V S M : Nat → Int32) (d a b : Nat) (hd : d < 16) (ha : a < 16) (hb' : b < 16) : sm_C l yX0_op wsX0_op ({ frames := 6, cells := 0, slots := 0, locals := 140 } : Room) D vwCl [(cI, .int)] [.ref x0, .int 10, .int (nI d), .int (nI a), .int (nI b)] (sm_wX cI x0 x1 x2 x3 V S M) none (sm_wX cI x0 x1 x2 x3 (upd V d (sm_bI (decide (V a ^^^ (-2147483648) < V b ^^^ (-2147483648))))) (upd S d (sm_bI (decide (sm_le (V a ^^^ (-2147483648)) (S a) < sm_he (V b ^^^ (-2147483648)) (S b)) && decide (sm_le (V b ^^^ (-2147483648)) (S b) ≤ sm_he (V a ^^^ (-2147483648)) (S a))))) M) := by
  refine sm_start (cc := cX0_op) (maxL := 7) (ret := none) (lv := [(0, .ref x0), (1, .int 10), (2, .int (nI d)), (3, .int (nI a)), (4, .int (nI b))]) (by decide) rfl (Nat.le_of_ble_eq_true rfl) rfl ?_
  intro p e s m below meth c hx hb hrt hts hown hlocks hml hin hK hP hD hS hA ls hl
  have hw := sm_hw hts
  refine lv_iload_n hx hb dX0_op_0 rfl (lv_at hl 1 rfl) ?_
  refine lv_if_lt (tgt := 10) hx hb dX0_op_1 rfl (fun z => absurd z (by decide)) (fun _ => ?_)
  refine lv_iload_n hx hb dX0_op_4 rfl (lv_at hl 1 rfl) ?_
  refine lv_bipush (v := 12) hx hb dX0_op_5 (by decide) ?_
  refine lv_icmp_le (tgt := 18) hx hb dX0_op_7 rfl (fun _ => ?_) (fun z => absurd (by decide) z)
  refine lv_iload_n hx hb dX0_op_18 rfl (lv_at hl 2 rfl) ?_
  refine sm_callS (As := [.int (nI d)]) (rest := []) (wr := (sm_wX cI x0 x1 x2 x3 V S M)) (wn := (sm_wX cI x0 x1 x2 x3 V S M)) (st1 := []) ⟨hx, hb, hml, hown, hts⟩ (c_checkRegister l D d (by omega)) (va_cwS 1 hts (sm_gS (i1 := 47) (i2 := 48) (i4 := 1) (i5 := 49) rfl rfl rfl rfl) rfl rfl rfl (by decide +kernel) ⟨Nat.le_of_ble_eq_true rfl, Nat.le_of_ble_eq_true rfl⟩) hK [] rfl hP hD hS hA [] [0, 1, 2, 3] rfl rfl (by decide) (by decide) (by decide) rfl hl.1 rfl (Nat.le_of_ble_eq_true rfl) dX0_op_19 ⟨Nat.le_of_ble_eq_true rfl, Nat.le_of_ble_eq_true rfl⟩ rfl rfl (fun H locs hP hD hS => ?_)
  refine lv_iload_n hx hb dX0_op_22 rfl (lv_at hl 3 rfl) ?_
  refine sm_callS (As := [.int (nI a)]) (rest := []) (wr := (sm_wX cI x0 x1 x2 x3 V S M)) (wn := (sm_wX cI x0 x1 x2 x3 V S M)) (st1 := []) ⟨hx, hb, hml, hown, hts⟩ (c_checkRegister l D a (by omega)) (va_cwS 1 hts (sm_gS (i1 := 47) (i2 := 48) (i4 := 1) (i5 := 49) rfl rfl rfl rfl) rfl rfl rfl (by decide +kernel) ⟨Nat.le_of_ble_eq_true rfl, Nat.le_of_ble_eq_true rfl⟩) hK [] rfl hP hD hS hA [] [0, 1, 2, 3] rfl rfl (by decide) (by decide) (by decide) rfl hl.1 rfl (Nat.le_of_ble_eq_true rfl) dX0_op_23 ⟨Nat.le_of_ble_eq_true rfl, Nat.le_of_ble_eq_true rfl⟩ rfl rfl (fun H locs hP hD hS => ?_)
  refine lv_iload hx hb dX0_op_26 (lv_at hl 4 rfl) ?_
  refine sm_callS (As := [.int (nI b)]) (rest := []) (wr := (sm_wX cI x0 x1 x2 x3 V S M)) (wn := (sm_wX cI x0 x1 x2 x3 V S M)) (st1 := []) ⟨hx, hb, hml, hown, hts⟩ (c_checkRegister l D b (by omega)) (va_cwS 1 hts (sm_gS (i1 := 47) (i2 := 48) (i4 := 1) (i5 := 49) rfl rfl rfl rfl) rfl rfl rfl (by decide +kernel) ⟨Nat.le_of_ble_eq_true rfl, Nat.le_of_ble_eq_true rfl⟩) hK [] rfl hP hD hS hA [] [0, 1, 2, 3] rfl rfl (by decide) (by decide) (by decide) rfl hl.1 rfl (Nat.le_of_ble_eq_true rfl) dX0_op_28 ⟨Nat.le_of_ble_eq_true rfl, Nat.le_of_ble_eq_true rfl⟩ rfl rfl (fun H locs hP hD hS => ?_)
  refine lv_aload_n hx hb dX0_op_31 rfl (lv_at hl 0 rfl) ?_
  refine lv_iload_n hx hb dX0_op_32 rfl (lv_at hl 1 rfl) ?_
  refine lv_iload_n hx hb dX0_op_33 rfl (lv_at hl 2 rfl) ?_
  refine lv_iload_n hx hb dX0_op_34 rfl (lv_at hl 3 rfl) ?_
  refine lv_iload hx hb dX0_op_35 (lv_at hl 4 rfl) ?_
  refine sm_callV (C := RX0) (As := [.int 10, .int (nI d), .int (nI a), .int (nI b)]) (rest := []) (wr := []) (wn := (sm_wX cI x0 x1 x2 x3 V S M)) (st1 := [.int (sm_bI (decide (V a ^^^ (-2147483648) < V b ^^^ (-2147483648))))]) ⟨hx, hb, hml, hown, hts⟩ (c_valueOf_10 l D cI x0 x1 x2 x3 V S M d a b hd ha hb') (cwV 4 hts (sm_gV (i1 := 123) (i2 := 124) (i3 := 344) (i4 := 1) (i5 := 125) rfl rfl rfl rfl rfl) rfl rfl rfl (by decide +kernel) ⟨Nat.le_of_ble_eq_true rfl, Nat.le_of_ble_eq_true rfl⟩) hK [0] rfl hP hD hS hA 0 rfl rfl [0, 1, 2, 3] [] rfl rfl (by decide) (by decide) (by decide) rfl hl.1 rfl (Nat.le_of_ble_eq_true rfl) dX0_op_37 ⟨Nat.le_of_ble_eq_true rfl, Nat.le_of_ble_eq_true rfl⟩ rfl rfl (fun H locs hP hD hS => ?_)
  refine lv_istore (lv' := [(5, .int (sm_bI (decide (V a ^^^ (-2147483648) < V b ^^^ (-2147483648))))), (0, .ref x0), (1, .int 10), (2, .int (nI d)), (3, .int (nI a)), (4, .int (nI b))]) hx hb dX0_op_40 hl (by decide) rfl (fun ls hl => ?_)
  refine lv_aload_n hx hb dX0_op_42 rfl (lv_at hl 1 rfl) ?_
  refine lv_iload_n hx hb dX0_op_43 rfl (lv_at hl 2 rfl) ?_
  refine lv_iload_n hx hb dX0_op_44 rfl (lv_at hl 3 rfl) ?_
  refine lv_iload_n hx hb dX0_op_45 rfl (lv_at hl 4 rfl) ?_
  refine lv_iload hx hb dX0_op_46 (lv_at hl 5 rfl) ?_
  refine sm_callV (C := RX0) (As := [.int 10, .int (nI d), .int (nI a), .int (nI b)]) (rest := []) (wr := []) (wn := (sm_wX cI x0 x1 x2 x3 V S M)) (st1 := [.int (sm_bI (decide (sm_le (V a ^^^ (-2147483648)) (S a) < sm_he (V b ^^^ (-2147483648)) (S b)) && decide (sm_le (V b ^^^ (-2147483648)) (S b) ≤ sm_he (V a ^^^ (-2147483648)) (S a))))]) ⟨hx, hb, hml, hown, hts⟩ (c_shadowOf_10 l D cI x0 x1 x2 x3 V S M d a b hd ha hb') (cwV 4 hts (sm_gV (i1 := 139) (i2 := 140) (i3 := 346) (i4 := 1) (i5 := 141) rfl rfl rfl rfl rfl) rfl rfl rfl (by decide +kernel) ⟨Nat.le_of_ble_eq_true rfl, Nat.le_of_ble_eq_true rfl⟩) hK [0] rfl hP hD hS hA 0 rfl rfl [0, 1, 2, 3] [] rfl rfl (by decide) (by decide) (by decide) rfl hl.1 rfl (Nat.le_of_ble_eq_true rfl) dX0_op_48 ⟨Nat.le_of_ble_eq_true rfl, Nat.le_of_ble_eq_true rfl⟩ rfl rfl (fun H locs hP hD hS => ?_)
  refine lv_istore (lv' := [(6, .int (sm_bI (decide (sm_le (V a ^^^ (-2147483648)) (S a) < sm_he (V b ^^^ (-2147483648)) (S b)) && decide (sm_le (V b ^^^ (-2147483648)) (S b) ≤ sm_he (V a ^^^ (-2147483648)) (S a))))), (5, .int (sm_bI (decide (V a ^^^ (-2147483648) < V b ^^^ (-2147483648))))), (0, .ref x0), (1, .int 10), (2, .int (nI d)), (3, .int (nI a)), (4, .int (nI b))]) hx hb dX0_op_51 hl (by decide) rfl (fun ls hl => ?_)
  refine lv_aload_n hx hb dX0_op_53 rfl (lv_at hl 2 rfl) ?_
  refine va_get (D := D) (ci := 0) (v := .ref x1) (C := RX0) (T := TX0) (N := 3) hx hb hts inX0 hown hK hP 0 rfl rfl 0 (by decide) (hw 18 rfl) (fun _ h9 => h9) rfl dX0_op_54 ?_
  refine lv_iload_n hx hb dX0_op_57 rfl (lv_at hl 4 rfl) ?_
  refine lv_iload hx hb dX0_op_58 (lv_at hl 1 rfl) ?_
  refine sm_iast (f' := upd V d (sm_bI (decide (V a ^^^ (-2147483648) < V b ^^^ (-2147483648))))) (ws' := (sm_wX cI x0 x1 x2 x3 (upd V d (sm_bI (decide (V a ^^^ (-2147483648) < V b ^^^ (-2147483648))))) S M)) hx hb hK hP hD hS 1 0 rfl rfl (vp_in_nI (n := d) (by omega) (by decide)) dX0_op_60 (by rw [nI_clamp (by omega)]) rfl (fun H locs hP hD hS => ?_)
  refine lv_aload_n hx hb dX0_op_61 rfl (lv_at hl 2 rfl) ?_
  refine va_get (D := D) (ci := 0) (v := .ref x2) (C := RX0) (T := TX0) (N := 3) hx hb hts inX0 hown hK hP 0 rfl rfl 1 (by decide) (hw 19 rfl) (fun _ h9 => h9) rfl dX0_op_62 ?_
  refine lv_iload_n hx hb dX0_op_65 rfl (lv_at hl 4 rfl) ?_
  refine lv_iload hx hb dX0_op_66 (lv_at hl 0 rfl) ?_
  refine sm_iast (f' := upd S d (sm_bI (decide (sm_le (V a ^^^ (-2147483648)) (S a) < sm_he (V b ^^^ (-2147483648)) (S b)) && decide (sm_le (V b ^^^ (-2147483648)) (S b) ≤ sm_he (V a ^^^ (-2147483648)) (S a))))) (ws' := (sm_wX cI x0 x1 x2 x3 (upd V d (sm_bI (decide (V a ^^^ (-2147483648) < V b ^^^ (-2147483648))))) (upd S d (sm_bI (decide (sm_le (V a ^^^ (-2147483648)) (S a) < sm_he (V b ^^^ (-2147483648)) (S b)) && decide (sm_le (V b ^^^ (-2147483648)) (S b) ≤ sm_he (V a ^^^ (-2147483648)) (S a))))) M)) hx hb hK hP hD hS 2 0 rfl rfl (vp_in_nI (n := d) (by omega) (by decide)) dX0_op_68 (by rw [nI_clamp (by omega)]) rfl (fun H locs hP hD hS => ?_)
  exact sm_vret hx hb hrt hlocks hS hP hD dX0_op_69
set_option maxHeartbeats 4000000 in
set_option maxRecDepth 100000 in
theorem c_op_11 (l : Launch) (D : va_G) (cI : ClassId) (x0 x1 x2 x3 : Nat) (V S M : Nat → Int32) (d a b : Nat) (hd : d < 16) (ha : a < 16) (hb' : b < 16) : sm_C l yX0_op wsX0_op ({ frames := 6, cells := 0, slots := 0, locals := 140 } : Room) D vwCl [(cI, .int)] [.ref x0, .int 11, .int (nI d), .int (nI a), .int (nI b)] (sm_wX cI x0 x1 x2 x3 V S M) none (sm_wX cI x0 x1 x2 x3 (upd V d (sm_bI (decide (V a = V b)))) (upd S d (sm_bI (!decide (S a ||| S b = 0) && decide ((V a ^^^ V b) &&& ((S a ||| S b) ^^^ (-1)) = 0)))) M) := by
  refine sm_start (cc := cX0_op) (maxL := 7) (ret := none) (lv := [(0, .ref x0), (1, .int 11), (2, .int (nI d)), (3, .int (nI a)), (4, .int (nI b))]) (by decide) rfl (Nat.le_of_ble_eq_true rfl) rfl ?_
  intro p e s m below meth c hx hb hrt hts hown hlocks hml hin hK hP hD hS hA ls hl
  have hw := sm_hw hts
  refine lv_iload_n hx hb dX0_op_0 rfl (lv_at hl 1 rfl) ?_
  refine lv_if_lt (tgt := 10) hx hb dX0_op_1 rfl (fun z => absurd z (by decide)) (fun _ => ?_)
  refine lv_iload_n hx hb dX0_op_4 rfl (lv_at hl 1 rfl) ?_
  refine lv_bipush (v := 12) hx hb dX0_op_5 (by decide) ?_
  refine lv_icmp_le (tgt := 18) hx hb dX0_op_7 rfl (fun _ => ?_) (fun z => absurd (by decide) z)
  refine lv_iload_n hx hb dX0_op_18 rfl (lv_at hl 2 rfl) ?_
  refine sm_callS (As := [.int (nI d)]) (rest := []) (wr := (sm_wX cI x0 x1 x2 x3 V S M)) (wn := (sm_wX cI x0 x1 x2 x3 V S M)) (st1 := []) ⟨hx, hb, hml, hown, hts⟩ (c_checkRegister l D d (by omega)) (va_cwS 1 hts (sm_gS (i1 := 47) (i2 := 48) (i4 := 1) (i5 := 49) rfl rfl rfl rfl) rfl rfl rfl (by decide +kernel) ⟨Nat.le_of_ble_eq_true rfl, Nat.le_of_ble_eq_true rfl⟩) hK [] rfl hP hD hS hA [] [0, 1, 2, 3] rfl rfl (by decide) (by decide) (by decide) rfl hl.1 rfl (Nat.le_of_ble_eq_true rfl) dX0_op_19 ⟨Nat.le_of_ble_eq_true rfl, Nat.le_of_ble_eq_true rfl⟩ rfl rfl (fun H locs hP hD hS => ?_)
  refine lv_iload_n hx hb dX0_op_22 rfl (lv_at hl 3 rfl) ?_
  refine sm_callS (As := [.int (nI a)]) (rest := []) (wr := (sm_wX cI x0 x1 x2 x3 V S M)) (wn := (sm_wX cI x0 x1 x2 x3 V S M)) (st1 := []) ⟨hx, hb, hml, hown, hts⟩ (c_checkRegister l D a (by omega)) (va_cwS 1 hts (sm_gS (i1 := 47) (i2 := 48) (i4 := 1) (i5 := 49) rfl rfl rfl rfl) rfl rfl rfl (by decide +kernel) ⟨Nat.le_of_ble_eq_true rfl, Nat.le_of_ble_eq_true rfl⟩) hK [] rfl hP hD hS hA [] [0, 1, 2, 3] rfl rfl (by decide) (by decide) (by decide) rfl hl.1 rfl (Nat.le_of_ble_eq_true rfl) dX0_op_23 ⟨Nat.le_of_ble_eq_true rfl, Nat.le_of_ble_eq_true rfl⟩ rfl rfl (fun H locs hP hD hS => ?_)
  refine lv_iload hx hb dX0_op_26 (lv_at hl 4 rfl) ?_
  refine sm_callS (As := [.int (nI b)]) (rest := []) (wr := (sm_wX cI x0 x1 x2 x3 V S M)) (wn := (sm_wX cI x0 x1 x2 x3 V S M)) (st1 := []) ⟨hx, hb, hml, hown, hts⟩ (c_checkRegister l D b (by omega)) (va_cwS 1 hts (sm_gS (i1 := 47) (i2 := 48) (i4 := 1) (i5 := 49) rfl rfl rfl rfl) rfl rfl rfl (by decide +kernel) ⟨Nat.le_of_ble_eq_true rfl, Nat.le_of_ble_eq_true rfl⟩) hK [] rfl hP hD hS hA [] [0, 1, 2, 3] rfl rfl (by decide) (by decide) (by decide) rfl hl.1 rfl (Nat.le_of_ble_eq_true rfl) dX0_op_28 ⟨Nat.le_of_ble_eq_true rfl, Nat.le_of_ble_eq_true rfl⟩ rfl rfl (fun H locs hP hD hS => ?_)
  refine lv_aload_n hx hb dX0_op_31 rfl (lv_at hl 0 rfl) ?_
  refine lv_iload_n hx hb dX0_op_32 rfl (lv_at hl 1 rfl) ?_
  refine lv_iload_n hx hb dX0_op_33 rfl (lv_at hl 2 rfl) ?_
  refine lv_iload_n hx hb dX0_op_34 rfl (lv_at hl 3 rfl) ?_
  refine lv_iload hx hb dX0_op_35 (lv_at hl 4 rfl) ?_
  refine sm_callV (C := RX0) (As := [.int 11, .int (nI d), .int (nI a), .int (nI b)]) (rest := []) (wr := []) (wn := (sm_wX cI x0 x1 x2 x3 V S M)) (st1 := [.int (sm_bI (decide (V a = V b)))]) ⟨hx, hb, hml, hown, hts⟩ (c_valueOf_11 l D cI x0 x1 x2 x3 V S M d a b hd ha hb') (cwV 4 hts (sm_gV (i1 := 123) (i2 := 124) (i3 := 344) (i4 := 1) (i5 := 125) rfl rfl rfl rfl rfl) rfl rfl rfl (by decide +kernel) ⟨Nat.le_of_ble_eq_true rfl, Nat.le_of_ble_eq_true rfl⟩) hK [0] rfl hP hD hS hA 0 rfl rfl [0, 1, 2, 3] [] rfl rfl (by decide) (by decide) (by decide) rfl hl.1 rfl (Nat.le_of_ble_eq_true rfl) dX0_op_37 ⟨Nat.le_of_ble_eq_true rfl, Nat.le_of_ble_eq_true rfl⟩ rfl rfl (fun H locs hP hD hS => ?_)
  refine lv_istore (lv' := [(5, .int (sm_bI (decide (V a = V b)))), (0, .ref x0), (1, .int 11), (2, .int (nI d)), (3, .int (nI a)), (4, .int (nI b))]) hx hb dX0_op_40 hl (by decide) rfl (fun ls hl => ?_)
  refine lv_aload_n hx hb dX0_op_42 rfl (lv_at hl 1 rfl) ?_
  refine lv_iload_n hx hb dX0_op_43 rfl (lv_at hl 2 rfl) ?_
  refine lv_iload_n hx hb dX0_op_44 rfl (lv_at hl 3 rfl) ?_
  refine lv_iload_n hx hb dX0_op_45 rfl (lv_at hl 4 rfl) ?_
  refine lv_iload hx hb dX0_op_46 (lv_at hl 5 rfl) ?_
  refine sm_callV (C := RX0) (As := [.int 11, .int (nI d), .int (nI a), .int (nI b)]) (rest := []) (wr := []) (wn := (sm_wX cI x0 x1 x2 x3 V S M)) (st1 := [.int (sm_bI (!decide (S a ||| S b = 0) && decide ((V a ^^^ V b) &&& ((S a ||| S b) ^^^ (-1)) = 0)))]) ⟨hx, hb, hml, hown, hts⟩ (c_shadowOf_11 l D cI x0 x1 x2 x3 V S M d a b hd ha hb') (cwV 4 hts (sm_gV (i1 := 139) (i2 := 140) (i3 := 346) (i4 := 1) (i5 := 141) rfl rfl rfl rfl rfl) rfl rfl rfl (by decide +kernel) ⟨Nat.le_of_ble_eq_true rfl, Nat.le_of_ble_eq_true rfl⟩) hK [0] rfl hP hD hS hA 0 rfl rfl [0, 1, 2, 3] [] rfl rfl (by decide) (by decide) (by decide) rfl hl.1 rfl (Nat.le_of_ble_eq_true rfl) dX0_op_48 ⟨Nat.le_of_ble_eq_true rfl, Nat.le_of_ble_eq_true rfl⟩ rfl rfl (fun H locs hP hD hS => ?_)
  refine lv_istore (lv' := [(6, .int (sm_bI (!decide (S a ||| S b = 0) && decide ((V a ^^^ V b) &&& ((S a ||| S b) ^^^ (-1)) = 0)))), (5, .int (sm_bI (decide (V a = V b)))), (0, .ref x0), (1, .int 11), (2, .int (nI d)), (3, .int (nI a)), (4, .int (nI b))]) hx hb dX0_op_51 hl (by decide) rfl (fun ls hl => ?_)
  refine lv_aload_n hx hb dX0_op_53 rfl (lv_at hl 2 rfl) ?_
  refine va_get (D := D) (ci := 0) (v := .ref x1) (C := RX0) (T := TX0) (N := 3) hx hb hts inX0 hown hK hP 0 rfl rfl 0 (by decide) (hw 18 rfl) (fun _ h9 => h9) rfl dX0_op_54 ?_
  refine lv_iload_n hx hb dX0_op_57 rfl (lv_at hl 4 rfl) ?_
  refine lv_iload hx hb dX0_op_58 (lv_at hl 1 rfl) ?_
  refine sm_iast (f' := upd V d (sm_bI (decide (V a = V b)))) (ws' := (sm_wX cI x0 x1 x2 x3 (upd V d (sm_bI (decide (V a = V b)))) S M)) hx hb hK hP hD hS 1 0 rfl rfl (vp_in_nI (n := d) (by omega) (by decide)) dX0_op_60 (by rw [nI_clamp (by omega)]) rfl (fun H locs hP hD hS => ?_)
  refine lv_aload_n hx hb dX0_op_61 rfl (lv_at hl 2 rfl) ?_
  refine va_get (D := D) (ci := 0) (v := .ref x2) (C := RX0) (T := TX0) (N := 3) hx hb hts inX0 hown hK hP 0 rfl rfl 1 (by decide) (hw 19 rfl) (fun _ h9 => h9) rfl dX0_op_62 ?_
  refine lv_iload_n hx hb dX0_op_65 rfl (lv_at hl 4 rfl) ?_
  refine lv_iload hx hb dX0_op_66 (lv_at hl 0 rfl) ?_
  refine sm_iast (f' := upd S d (sm_bI (!decide (S a ||| S b = 0) && decide ((V a ^^^ V b) &&& ((S a ||| S b) ^^^ (-1)) = 0)))) (ws' := (sm_wX cI x0 x1 x2 x3 (upd V d (sm_bI (decide (V a = V b)))) (upd S d (sm_bI (!decide (S a ||| S b = 0) && decide ((V a ^^^ V b) &&& ((S a ||| S b) ^^^ (-1)) = 0)))) M)) hx hb hK hP hD hS 2 0 rfl rfl (vp_in_nI (n := d) (by omega) (by decide)) dX0_op_68 (by rw [nI_clamp (by omega)]) rfl (fun H locs hP hD hS => ?_)
  exact sm_vret hx hb hrt hlocks hS hP hD dX0_op_69
set_option maxHeartbeats 4000000 in
set_option maxRecDepth 100000 in
theorem c_op_12 (l : Launch) (D : va_G) (cI : ClassId) (x0 x1 x2 x3 : Nat) (V S M : Nat → Int32) (d a b : Nat) (hd : d < 16) (ha : a < 16) (hb' : b < 16) : sm_C l yX0_op wsX0_op ({ frames := 6, cells := 0, slots := 0, locals := 140 } : Room) D vwCl [(cI, .int)] [.ref x0, .int 12, .int (nI d), .int (nI a), .int (nI b)] (sm_wX cI x0 x1 x2 x3 V S M) none (sm_wX cI x0 x1 x2 x3 (upd V d (if bt (V b) 0 then V a else V d)) (upd S d (if bt (S b) 0 then S a ||| S d ||| (V a ^^^ V d) else if bt (V b) 0 then S a else S d)) M) := by
  refine sm_start (cc := cX0_op) (maxL := 7) (ret := none) (lv := [(0, .ref x0), (1, .int 12), (2, .int (nI d)), (3, .int (nI a)), (4, .int (nI b))]) (by decide) rfl (Nat.le_of_ble_eq_true rfl) rfl ?_
  intro p e s m below meth c hx hb hrt hts hown hlocks hml hin hK hP hD hS hA ls hl
  have hw := sm_hw hts
  refine lv_iload_n hx hb dX0_op_0 rfl (lv_at hl 1 rfl) ?_
  refine lv_if_lt (tgt := 10) hx hb dX0_op_1 rfl (fun z => absurd z (by decide)) (fun _ => ?_)
  refine lv_iload_n hx hb dX0_op_4 rfl (lv_at hl 1 rfl) ?_
  refine lv_bipush (v := 12) hx hb dX0_op_5 (by decide) ?_
  refine lv_icmp_le (tgt := 18) hx hb dX0_op_7 rfl (fun _ => ?_) (fun z => absurd (by decide) z)
  refine lv_iload_n hx hb dX0_op_18 rfl (lv_at hl 2 rfl) ?_
  refine sm_callS (As := [.int (nI d)]) (rest := []) (wr := (sm_wX cI x0 x1 x2 x3 V S M)) (wn := (sm_wX cI x0 x1 x2 x3 V S M)) (st1 := []) ⟨hx, hb, hml, hown, hts⟩ (c_checkRegister l D d (by omega)) (va_cwS 1 hts (sm_gS (i1 := 47) (i2 := 48) (i4 := 1) (i5 := 49) rfl rfl rfl rfl) rfl rfl rfl (by decide +kernel) ⟨Nat.le_of_ble_eq_true rfl, Nat.le_of_ble_eq_true rfl⟩) hK [] rfl hP hD hS hA [] [0, 1, 2, 3] rfl rfl (by decide) (by decide) (by decide) rfl hl.1 rfl (Nat.le_of_ble_eq_true rfl) dX0_op_19 ⟨Nat.le_of_ble_eq_true rfl, Nat.le_of_ble_eq_true rfl⟩ rfl rfl (fun H locs hP hD hS => ?_)
  refine lv_iload_n hx hb dX0_op_22 rfl (lv_at hl 3 rfl) ?_
  refine sm_callS (As := [.int (nI a)]) (rest := []) (wr := (sm_wX cI x0 x1 x2 x3 V S M)) (wn := (sm_wX cI x0 x1 x2 x3 V S M)) (st1 := []) ⟨hx, hb, hml, hown, hts⟩ (c_checkRegister l D a (by omega)) (va_cwS 1 hts (sm_gS (i1 := 47) (i2 := 48) (i4 := 1) (i5 := 49) rfl rfl rfl rfl) rfl rfl rfl (by decide +kernel) ⟨Nat.le_of_ble_eq_true rfl, Nat.le_of_ble_eq_true rfl⟩) hK [] rfl hP hD hS hA [] [0, 1, 2, 3] rfl rfl (by decide) (by decide) (by decide) rfl hl.1 rfl (Nat.le_of_ble_eq_true rfl) dX0_op_23 ⟨Nat.le_of_ble_eq_true rfl, Nat.le_of_ble_eq_true rfl⟩ rfl rfl (fun H locs hP hD hS => ?_)
  refine lv_iload hx hb dX0_op_26 (lv_at hl 4 rfl) ?_
  refine sm_callS (As := [.int (nI b)]) (rest := []) (wr := (sm_wX cI x0 x1 x2 x3 V S M)) (wn := (sm_wX cI x0 x1 x2 x3 V S M)) (st1 := []) ⟨hx, hb, hml, hown, hts⟩ (c_checkRegister l D b (by omega)) (va_cwS 1 hts (sm_gS (i1 := 47) (i2 := 48) (i4 := 1) (i5 := 49) rfl rfl rfl rfl) rfl rfl rfl (by decide +kernel) ⟨Nat.le_of_ble_eq_true rfl, Nat.le_of_ble_eq_true rfl⟩) hK [] rfl hP hD hS hA [] [0, 1, 2, 3] rfl rfl (by decide) (by decide) (by decide) rfl hl.1 rfl (Nat.le_of_ble_eq_true rfl) dX0_op_28 ⟨Nat.le_of_ble_eq_true rfl, Nat.le_of_ble_eq_true rfl⟩ rfl rfl (fun H locs hP hD hS => ?_)
  refine lv_aload_n hx hb dX0_op_31 rfl (lv_at hl 0 rfl) ?_
  refine lv_iload_n hx hb dX0_op_32 rfl (lv_at hl 1 rfl) ?_
  refine lv_iload_n hx hb dX0_op_33 rfl (lv_at hl 2 rfl) ?_
  refine lv_iload_n hx hb dX0_op_34 rfl (lv_at hl 3 rfl) ?_
  refine lv_iload hx hb dX0_op_35 (lv_at hl 4 rfl) ?_
  refine sm_callV (C := RX0) (As := [.int 12, .int (nI d), .int (nI a), .int (nI b)]) (rest := []) (wr := []) (wn := (sm_wX cI x0 x1 x2 x3 V S M)) (st1 := [.int (if bt (V b) 0 then V a else V d)]) ⟨hx, hb, hml, hown, hts⟩ (c_valueOf_12 l D cI x0 x1 x2 x3 V S M d a b hd ha hb') (cwV 4 hts (sm_gV (i1 := 123) (i2 := 124) (i3 := 344) (i4 := 1) (i5 := 125) rfl rfl rfl rfl rfl) rfl rfl rfl (by decide +kernel) ⟨Nat.le_of_ble_eq_true rfl, Nat.le_of_ble_eq_true rfl⟩) hK [0] rfl hP hD hS hA 0 rfl rfl [0, 1, 2, 3] [] rfl rfl (by decide) (by decide) (by decide) rfl hl.1 rfl (Nat.le_of_ble_eq_true rfl) dX0_op_37 ⟨Nat.le_of_ble_eq_true rfl, Nat.le_of_ble_eq_true rfl⟩ rfl rfl (fun H locs hP hD hS => ?_)
  refine lv_istore (lv' := [(5, .int (if bt (V b) 0 then V a else V d)), (0, .ref x0), (1, .int 12), (2, .int (nI d)), (3, .int (nI a)), (4, .int (nI b))]) hx hb dX0_op_40 hl (by decide) rfl (fun ls hl => ?_)
  refine lv_aload_n hx hb dX0_op_42 rfl (lv_at hl 1 rfl) ?_
  refine lv_iload_n hx hb dX0_op_43 rfl (lv_at hl 2 rfl) ?_
  refine lv_iload_n hx hb dX0_op_44 rfl (lv_at hl 3 rfl) ?_
  refine lv_iload_n hx hb dX0_op_45 rfl (lv_at hl 4 rfl) ?_
  refine lv_iload hx hb dX0_op_46 (lv_at hl 5 rfl) ?_
  refine sm_callV (C := RX0) (As := [.int 12, .int (nI d), .int (nI a), .int (nI b)]) (rest := []) (wr := []) (wn := (sm_wX cI x0 x1 x2 x3 V S M)) (st1 := [.int (if bt (S b) 0 then S a ||| S d ||| (V a ^^^ V d) else if bt (V b) 0 then S a else S d)]) ⟨hx, hb, hml, hown, hts⟩ (c_shadowOf_12 l D cI x0 x1 x2 x3 V S M d a b hd ha hb') (cwV 4 hts (sm_gV (i1 := 139) (i2 := 140) (i3 := 346) (i4 := 1) (i5 := 141) rfl rfl rfl rfl rfl) rfl rfl rfl (by decide +kernel) ⟨Nat.le_of_ble_eq_true rfl, Nat.le_of_ble_eq_true rfl⟩) hK [0] rfl hP hD hS hA 0 rfl rfl [0, 1, 2, 3] [] rfl rfl (by decide) (by decide) (by decide) rfl hl.1 rfl (Nat.le_of_ble_eq_true rfl) dX0_op_48 ⟨Nat.le_of_ble_eq_true rfl, Nat.le_of_ble_eq_true rfl⟩ rfl rfl (fun H locs hP hD hS => ?_)
  refine lv_istore (lv' := [(6, .int (if bt (S b) 0 then S a ||| S d ||| (V a ^^^ V d) else if bt (V b) 0 then S a else S d)), (5, .int (if bt (V b) 0 then V a else V d)), (0, .ref x0), (1, .int 12), (2, .int (nI d)), (3, .int (nI a)), (4, .int (nI b))]) hx hb dX0_op_51 hl (by decide) rfl (fun ls hl => ?_)
  refine lv_aload_n hx hb dX0_op_53 rfl (lv_at hl 2 rfl) ?_
  refine va_get (D := D) (ci := 0) (v := .ref x1) (C := RX0) (T := TX0) (N := 3) hx hb hts inX0 hown hK hP 0 rfl rfl 0 (by decide) (hw 18 rfl) (fun _ h9 => h9) rfl dX0_op_54 ?_
  refine lv_iload_n hx hb dX0_op_57 rfl (lv_at hl 4 rfl) ?_
  refine lv_iload hx hb dX0_op_58 (lv_at hl 1 rfl) ?_
  refine sm_iast (f' := upd V d (if bt (V b) 0 then V a else V d)) (ws' := (sm_wX cI x0 x1 x2 x3 (upd V d (if bt (V b) 0 then V a else V d)) S M)) hx hb hK hP hD hS 1 0 rfl rfl (vp_in_nI (n := d) (by omega) (by decide)) dX0_op_60 (by rw [nI_clamp (by omega)]) rfl (fun H locs hP hD hS => ?_)
  refine lv_aload_n hx hb dX0_op_61 rfl (lv_at hl 2 rfl) ?_
  refine va_get (D := D) (ci := 0) (v := .ref x2) (C := RX0) (T := TX0) (N := 3) hx hb hts inX0 hown hK hP 0 rfl rfl 1 (by decide) (hw 19 rfl) (fun _ h9 => h9) rfl dX0_op_62 ?_
  refine lv_iload_n hx hb dX0_op_65 rfl (lv_at hl 4 rfl) ?_
  refine lv_iload hx hb dX0_op_66 (lv_at hl 0 rfl) ?_
  refine sm_iast (f' := upd S d (if bt (S b) 0 then S a ||| S d ||| (V a ^^^ V d) else if bt (V b) 0 then S a else S d)) (ws' := (sm_wX cI x0 x1 x2 x3 (upd V d (if bt (V b) 0 then V a else V d)) (upd S d (if bt (S b) 0 then S a ||| S d ||| (V a ^^^ V d) else if bt (V b) 0 then S a else S d)) M)) hx hb hK hP hD hS 2 0 rfl rfl (vp_in_nI (n := d) (by omega) (by decide)) dX0_op_68 (by rw [nI_clamp (by omega)]) rfl (fun H locs hP hD hS => ?_)
  exact sm_vret hx hb hrt hlocks hS hP hD dX0_op_69
