set_option maxHeartbeats 4000000 in
set_option maxRecDepth 100000 in
theorem h_set (l : Launch) (D : va_G) (cI : ClassId) (x0 x1 x2 x3 : Nat) (V S M : Nat → Int32) (r : Nat) (hr : r < 16) (v n : Int32) : sm_CZ l yL_set wsL_set ({ frames := 9, cells := 1, slots := 6, locals := 240 } : Room) D vwCl [(cI, .int)] [.ref x0, .int (nI r), .int v, .int n] (sm_wX cI x0 x1 x2 x3 V S M) (some (.int 0)) (sm_wX cI x0 x1 x2 x3 (upd V r v) (upd S r n) M) := by
  refine sm_startZ (cc := cL_set) (maxL := 5) (ret := some .int) (lv := [(0, .ref x0), (1, .int (nI r)), (2, .int v), (3, .int n)]) (hh := [(0, 7, 10, 13)]) (by decide) rfl (Nat.le_of_ble_eq_true rfl) rfl ?_
  intro p e s m below meth c hx hb hrt hts hown hlocks hml htab hZ hN hK hP hD hS hA ls hl
  have hw := sm_hw hts
  refine lv_aload_n hx hb dL_set_0 rfl (lv_at hl 0 rfl) ?_
  refine lv_iload_n hx hb dL_set_1 rfl (lv_at hl 1 rfl) ?_
  refine lv_iload_n hx hb dL_set_2 rfl (lv_at hl 2 rfl) ?_
  refine lv_iload_n hx hb dL_set_3 rfl (lv_at hl 3 rfl) ?_
  refine sm_callV (C := RX0) (As := [.int (nI r), .int v, .int n]) (rest := []) (wr := []) (wn := [] ++ (sm_wX cI x0 x1 x2 x3 (upd V r v) (upd S r n) M)) (st1 := []) ⟨hx, hb, hml, hown, hts⟩ (c_set l D cI x0 x1 x2 x3 V S M r hr v n) (cwV 3 hts (sm_gV (i1 := 43) (i2 := 44) (i3 := 45) (i4 := 1) (i5 := 46) rfl rfl rfl rfl rfl) rfl rfl rfl (by decide +kernel) ⟨Nat.le_of_ble_eq_true rfl, Nat.le_of_ble_eq_true rfl⟩) hK [0] rfl hP hD hS hA 0 rfl rfl [0, 1, 2, 3] [] rfl rfl (by decide) (by decide) (by decide) rfl hl.1 rfl (Nat.le_of_ble_eq_true rfl) dL_set_4 ⟨Nat.le_of_ble_eq_true rfl, Nat.le_of_ble_eq_true rfl⟩ rfl rfl (fun H locs hP hD hS => ?_)
  have hP : va_P D vwCl (sm_wX cI x0 x1 x2 x3 (upd V r v) (upd S r n) M) H := hP.sub [0, 1, 2, 3] rfl
  have hD : va_D _ (sm_wX cI x0 x1 x2 x3 (upd V r v) (upd S r n) M) := hD.sub [0, 1, 2, 3] (by decide) rfl
  refine lv_goto (tgt := 14) hx hb dL_set_7 rfl ?_
  refine lv_iconst (v := 0) hx hb dL_set_14 (by decide) ?_
  refine W.widen (k := 1) (n := 6) (Nat.le_of_ble_eq_true rfl) (Nat.le_of_ble_eq_true rfl) ?_
  exact sm_iret hx hb hrt hlocks hS hP hD dL_set_15
set_option maxHeartbeats 4000000 in
set_option maxRecDepth 100000 in
theorem h_set_x (l : Launch) (hlt : l.stackTraces = false) (D : va_G) (cI : ClassId) (x0 x1 x2 x3 : Nat) (V S M : Nat → Int32) (i : Int32) (hi : i < 0 ∨ 16 ≤ i) (v n : Int32) : sm_CZ l yL_set wsL_set ({ frames := 9, cells := 1, slots := 6, locals := 240 } : Room) D vwCl [(cI, .int)] [.ref x0, .int i, .int v, .int n] (sm_wX cI x0 x1 x2 x3 V S M) (some (.int 1)) (sm_wX cI x0 x1 x2 x3 V S M) := by
  refine sm_startZ (cc := cL_set) (maxL := 5) (ret := some .int) (lv := [(0, .ref x0), (1, .int i), (2, .int v), (3, .int n)]) (hh := [(0, 7, 10, 13)]) (by decide) rfl (Nat.le_of_ble_eq_true rfl) rfl ?_
  intro p e s m below meth c hx hb hrt hts hown hlocks hml htab hZ hN hK hP hD hS hA ls hl
  have hw := sm_hw hts
  refine lv_aload_n hx hb dL_set_0 rfl (lv_at hl 0 rfl) ?_
  refine lv_iload_n hx hb dL_set_1 rfl (lv_at hl 1 rfl) ?_
  refine lv_iload_n hx hb dL_set_2 rfl (lv_at hl 2 rfl) ?_
  refine lv_iload_n hx hb dL_set_3 rfl (lv_at hl 3 rfl) ?_
  refine sm_xV (C := RX0) (As := [.int i, .int v, .int n]) (rest := []) (wr := []) ⟨hx, hb, hml, hown, hts⟩ (x_set l hlt D cI x0 x1 x2 x3 V S M i hi v n) (cwV 3 hts (sm_gV (i1 := 43) (i2 := 44) (i3 := 45) (i4 := 1) (i5 := 46) rfl rfl rfl rfl rfl) rfl rfl rfl (by decide +kernel) ⟨Nat.le_of_ble_eq_true rfl, Nat.le_of_ble_eq_true rfl⟩) hK [0] rfl hZ hP hD hS hA 0 rfl rfl [0, 1, 2, 3] [] rfl rfl (by decide) (by decide) (by decide) rfl hl.1 rfl (Nat.le_of_ble_eq_true rfl) dL_set_4 ⟨Nat.le_of_ble_eq_true rfl, Nat.le_of_ble_eq_true rfl⟩ (fun q ce H locs hce hv hcl hP hD hS => ?_)
  have hP : va_P D vwCl (sm_wX cI x0 x1 x2 x3 V S M) H := hP.sub [0, 1, 2, 3] rfl
  have hD : va_D _ (sm_wX cI x0 x1 x2 x3 V S M) := hD.sub [0, 1, 2, 3] (by decide) rfl
  refine sm_catch1 (name := sm_IO) hown htab (Nat.le_of_ble_eq_true rfl) (Nat.le_of_ble_eq_true rfl) (by decide) (hw 42 rfl) (sm_castX (n := 6) (hw 51 rfl)) hce hv hcl ?_
  refine lv_astore (lv' := [(4, .ref q), (0, .ref x0), (1, .int i), (2, .int v), (3, .int n)]) hx hb dL_set_10 hl (by decide) rfl (fun ls hl => ?_)
  refine lv_iconst (v := 1) hx hb dL_set_12 (by decide) ?_
  refine W.widen (k := 1) (n := 6) (Nat.le_of_ble_eq_true rfl) (Nat.le_of_ble_eq_true rfl) ?_
  exact sm_iret hx hb hrt hlocks hS hP hD dL_set_13
set_option maxHeartbeats 4000000 in
set_option maxRecDepth 100000 in
theorem h_op_0 (l : Launch) (D : va_G) (cI : ClassId) (x0 x1 x2 x3 : Nat) (V S M : Nat → Int32) (d a b : Nat) (hd : d < 16) (ha : a < 16) (hb' : b < 16) : sm_CZ l yL_op wsL_op ({ frames := 9, cells := 1, slots := 6, locals := 240 } : Room) D vwCl [(cI, .int)] [.ref x0, .int 0, .int (nI d), .int (nI a), .int (nI b)] (sm_wX cI x0 x1 x2 x3 V S M) (some (.int 0)) (sm_wX cI x0 x1 x2 x3 (upd V d (V a + V b)) (upd S d (sm_fr (sm_tz (S a ||| S b)))) M) := by
  refine sm_startZ (cc := cL_op) (maxL := 6) (ret := some .int) (lv := [(0, .ref x0), (1, .int 0), (2, .int (nI d)), (3, .int (nI a)), (4, .int (nI b))]) (hh := [(0, 9, 12, 19), (0, 9, 16, 13)]) (by decide) rfl (Nat.le_of_ble_eq_true rfl) rfl ?_
  intro p e s m below meth c hx hb hrt hts hown hlocks hml htab hZ hN hK hP hD hS hA ls hl
  have hw := sm_hw hts
  refine lv_aload_n hx hb dL_op_0 rfl (lv_at hl 0 rfl) ?_
  refine lv_iload_n hx hb dL_op_1 rfl (lv_at hl 1 rfl) ?_
  refine lv_iload_n hx hb dL_op_2 rfl (lv_at hl 2 rfl) ?_
  refine lv_iload_n hx hb dL_op_3 rfl (lv_at hl 3 rfl) ?_
  refine lv_iload hx hb dL_op_4 (lv_at hl 4 rfl) ?_
  refine sm_callV (C := RX0) (As := [.int 0, .int (nI d), .int (nI a), .int (nI b)]) (rest := []) (wr := []) (wn := [] ++ (sm_wX cI x0 x1 x2 x3 (upd V d (V a + V b)) (upd S d (sm_fr (sm_tz (S a ||| S b)))) M)) (st1 := []) ⟨hx, hb, hml, hown, hts⟩ (c_op_0 l D cI x0 x1 x2 x3 V S M d a b hd ha hb') (cwV 4 hts (sm_gV (i1 := 105) (i2 := 106) (i3 := 107) (i4 := 1) (i5 := 108) rfl rfl rfl rfl rfl) rfl rfl rfl (by decide +kernel) ⟨Nat.le_of_ble_eq_true rfl, Nat.le_of_ble_eq_true rfl⟩) hK [0] rfl hP hD hS hA 0 rfl rfl [0, 1, 2, 3] [] rfl rfl (by decide) (by decide) (by decide) rfl hl.1 rfl (Nat.le_of_ble_eq_true rfl) dL_op_6 ⟨Nat.le_of_ble_eq_true rfl, Nat.le_of_ble_eq_true rfl⟩ rfl rfl (fun H locs hP hD hS => ?_)
  have hP : va_P D vwCl (sm_wX cI x0 x1 x2 x3 (upd V d (V a + V b)) (upd S d (sm_fr (sm_tz (S a ||| S b)))) M) H := hP.sub [0, 1, 2, 3] rfl
  have hD : va_D _ (sm_wX cI x0 x1 x2 x3 (upd V d (V a + V b)) (upd S d (sm_fr (sm_tz (S a ||| S b)))) M) := hD.sub [0, 1, 2, 3] (by decide) rfl
  refine lv_goto (tgt := 20) hx hb dL_op_9 rfl ?_
  refine lv_iconst (v := 0) hx hb dL_op_20 (by decide) ?_
  refine W.widen (k := 1) (n := 6) (Nat.le_of_ble_eq_true rfl) (Nat.le_of_ble_eq_true rfl) ?_
  exact sm_iret hx hb hrt hlocks hS hP hD dL_op_21
set_option maxHeartbeats 4000000 in
set_option maxRecDepth 100000 in
theorem h_op_1 (l : Launch) (D : va_G) (cI : ClassId) (x0 x1 x2 x3 : Nat) (V S M : Nat → Int32) (d a b : Nat) (hd : d < 16) (ha : a < 16) (hb' : b < 16) : sm_CZ l yL_op wsL_op ({ frames := 9, cells := 1, slots := 6, locals := 240 } : Room) D vwCl [(cI, .int)] [.ref x0, .int 1, .int (nI d), .int (nI a), .int (nI b)] (sm_wX cI x0 x1 x2 x3 V S M) (some (.int 0)) (sm_wX cI x0 x1 x2 x3 (upd V d (V a - V b)) (upd S d (sm_fr (sm_tz (S a ||| S b)))) M) := by
  refine sm_startZ (cc := cL_op) (maxL := 6) (ret := some .int) (lv := [(0, .ref x0), (1, .int 1), (2, .int (nI d)), (3, .int (nI a)), (4, .int (nI b))]) (hh := [(0, 9, 12, 19), (0, 9, 16, 13)]) (by decide) rfl (Nat.le_of_ble_eq_true rfl) rfl ?_
  intro p e s m below meth c hx hb hrt hts hown hlocks hml htab hZ hN hK hP hD hS hA ls hl
  have hw := sm_hw hts
  refine lv_aload_n hx hb dL_op_0 rfl (lv_at hl 0 rfl) ?_
  refine lv_iload_n hx hb dL_op_1 rfl (lv_at hl 1 rfl) ?_
  refine lv_iload_n hx hb dL_op_2 rfl (lv_at hl 2 rfl) ?_
  refine lv_iload_n hx hb dL_op_3 rfl (lv_at hl 3 rfl) ?_
  refine lv_iload hx hb dL_op_4 (lv_at hl 4 rfl) ?_
  refine sm_callV (C := RX0) (As := [.int 1, .int (nI d), .int (nI a), .int (nI b)]) (rest := []) (wr := []) (wn := [] ++ (sm_wX cI x0 x1 x2 x3 (upd V d (V a - V b)) (upd S d (sm_fr (sm_tz (S a ||| S b)))) M)) (st1 := []) ⟨hx, hb, hml, hown, hts⟩ (c_op_1 l D cI x0 x1 x2 x3 V S M d a b hd ha hb') (cwV 4 hts (sm_gV (i1 := 105) (i2 := 106) (i3 := 107) (i4 := 1) (i5 := 108) rfl rfl rfl rfl rfl) rfl rfl rfl (by decide +kernel) ⟨Nat.le_of_ble_eq_true rfl, Nat.le_of_ble_eq_true rfl⟩) hK [0] rfl hP hD hS hA 0 rfl rfl [0, 1, 2, 3] [] rfl rfl (by decide) (by decide) (by decide) rfl hl.1 rfl (Nat.le_of_ble_eq_true rfl) dL_op_6 ⟨Nat.le_of_ble_eq_true rfl, Nat.le_of_ble_eq_true rfl⟩ rfl rfl (fun H locs hP hD hS => ?_)
  have hP : va_P D vwCl (sm_wX cI x0 x1 x2 x3 (upd V d (V a - V b)) (upd S d (sm_fr (sm_tz (S a ||| S b)))) M) H := hP.sub [0, 1, 2, 3] rfl
  have hD : va_D _ (sm_wX cI x0 x1 x2 x3 (upd V d (V a - V b)) (upd S d (sm_fr (sm_tz (S a ||| S b)))) M) := hD.sub [0, 1, 2, 3] (by decide) rfl
  refine lv_goto (tgt := 20) hx hb dL_op_9 rfl ?_
  refine lv_iconst (v := 0) hx hb dL_op_20 (by decide) ?_
  refine W.widen (k := 1) (n := 6) (Nat.le_of_ble_eq_true rfl) (Nat.le_of_ble_eq_true rfl) ?_
  exact sm_iret hx hb hrt hlocks hS hP hD dL_op_21
set_option maxHeartbeats 4000000 in
set_option maxRecDepth 100000 in
theorem h_op_2 (l : Launch) (D : va_G) (cI : ClassId) (x0 x1 x2 x3 : Nat) (V S M : Nat → Int32) (d a b : Nat) (hd : d < 16) (ha : a < 16) (hb' : b < 16) : sm_CZ l yL_op wsL_op ({ frames := 9, cells := 1, slots := 6, locals := 240 } : Room) D vwCl [(cI, .int)] [.ref x0, .int 2, .int (nI d), .int (nI a), .int (nI b)] (sm_wX cI x0 x1 x2 x3 V S M) (some (.int 0)) (sm_wX cI x0 x1 x2 x3 (upd V d (V a &&& V b)) (upd S d ((S a ||| S b) &&& (S a ||| V a) &&& (S b ||| V b))) M) := by
  refine sm_startZ (cc := cL_op) (maxL := 6) (ret := some .int) (lv := [(0, .ref x0), (1, .int 2), (2, .int (nI d)), (3, .int (nI a)), (4, .int (nI b))]) (hh := [(0, 9, 12, 19), (0, 9, 16, 13)]) (by decide) rfl (Nat.le_of_ble_eq_true rfl) rfl ?_
  intro p e s m below meth c hx hb hrt hts hown hlocks hml htab hZ hN hK hP hD hS hA ls hl
  have hw := sm_hw hts
  refine lv_aload_n hx hb dL_op_0 rfl (lv_at hl 0 rfl) ?_
  refine lv_iload_n hx hb dL_op_1 rfl (lv_at hl 1 rfl) ?_
  refine lv_iload_n hx hb dL_op_2 rfl (lv_at hl 2 rfl) ?_
  refine lv_iload_n hx hb dL_op_3 rfl (lv_at hl 3 rfl) ?_
  refine lv_iload hx hb dL_op_4 (lv_at hl 4 rfl) ?_
  refine sm_callV (C := RX0) (As := [.int 2, .int (nI d), .int (nI a), .int (nI b)]) (rest := []) (wr := []) (wn := [] ++ (sm_wX cI x0 x1 x2 x3 (upd V d (V a &&& V b)) (upd S d ((S a ||| S b) &&& (S a ||| V a) &&& (S b ||| V b))) M)) (st1 := []) ⟨hx, hb, hml, hown, hts⟩ (c_op_2 l D cI x0 x1 x2 x3 V S M d a b hd ha hb') (cwV 4 hts (sm_gV (i1 := 105) (i2 := 106) (i3 := 107) (i4 := 1) (i5 := 108) rfl rfl rfl rfl rfl) rfl rfl rfl (by decide +kernel) ⟨Nat.le_of_ble_eq_true rfl, Nat.le_of_ble_eq_true rfl⟩) hK [0] rfl hP hD hS hA 0 rfl rfl [0, 1, 2, 3] [] rfl rfl (by decide) (by decide) (by decide) rfl hl.1 rfl (Nat.le_of_ble_eq_true rfl) dL_op_6 ⟨Nat.le_of_ble_eq_true rfl, Nat.le_of_ble_eq_true rfl⟩ rfl rfl (fun H locs hP hD hS => ?_)
  have hP : va_P D vwCl (sm_wX cI x0 x1 x2 x3 (upd V d (V a &&& V b)) (upd S d ((S a ||| S b) &&& (S a ||| V a) &&& (S b ||| V b))) M) H := hP.sub [0, 1, 2, 3] rfl
  have hD : va_D _ (sm_wX cI x0 x1 x2 x3 (upd V d (V a &&& V b)) (upd S d ((S a ||| S b) &&& (S a ||| V a) &&& (S b ||| V b))) M) := hD.sub [0, 1, 2, 3] (by decide) rfl
  refine lv_goto (tgt := 20) hx hb dL_op_9 rfl ?_
  refine lv_iconst (v := 0) hx hb dL_op_20 (by decide) ?_
  refine W.widen (k := 1) (n := 6) (Nat.le_of_ble_eq_true rfl) (Nat.le_of_ble_eq_true rfl) ?_
  exact sm_iret hx hb hrt hlocks hS hP hD dL_op_21
set_option maxHeartbeats 4000000 in
set_option maxRecDepth 100000 in
theorem h_op_3 (l : Launch) (D : va_G) (cI : ClassId) (x0 x1 x2 x3 : Nat) (V S M : Nat → Int32) (d a b : Nat) (hd : d < 16) (ha : a < 16) (hb' : b < 16) : sm_CZ l yL_op wsL_op ({ frames := 9, cells := 1, slots := 6, locals := 240 } : Room) D vwCl [(cI, .int)] [.ref x0, .int 3, .int (nI d), .int (nI a), .int (nI b)] (sm_wX cI x0 x1 x2 x3 V S M) (some (.int 0)) (sm_wX cI x0 x1 x2 x3 (upd V d (V a ||| V b)) (upd S d ((S a ||| S b) &&& (S a ||| (V a ^^^ (-1))) &&& (S b ||| (V b ^^^ (-1))))) M) := by
  refine sm_startZ (cc := cL_op) (maxL := 6) (ret := some .int) (lv := [(0, .ref x0), (1, .int 3), (2, .int (nI d)), (3, .int (nI a)), (4, .int (nI b))]) (hh := [(0, 9, 12, 19), (0, 9, 16, 13)]) (by decide) rfl (Nat.le_of_ble_eq_true rfl) rfl ?_
  intro p e s m below meth c hx hb hrt hts hown hlocks hml htab hZ hN hK hP hD hS hA ls hl
  have hw := sm_hw hts
  refine lv_aload_n hx hb dL_op_0 rfl (lv_at hl 0 rfl) ?_
  refine lv_iload_n hx hb dL_op_1 rfl (lv_at hl 1 rfl) ?_
  refine lv_iload_n hx hb dL_op_2 rfl (lv_at hl 2 rfl) ?_
  refine lv_iload_n hx hb dL_op_3 rfl (lv_at hl 3 rfl) ?_
  refine lv_iload hx hb dL_op_4 (lv_at hl 4 rfl) ?_
  refine sm_callV (C := RX0) (As := [.int 3, .int (nI d), .int (nI a), .int (nI b)]) (rest := []) (wr := []) (wn := [] ++ (sm_wX cI x0 x1 x2 x3 (upd V d (V a ||| V b)) (upd S d ((S a ||| S b) &&& (S a ||| (V a ^^^ (-1))) &&& (S b ||| (V b ^^^ (-1))))) M)) (st1 := []) ⟨hx, hb, hml, hown, hts⟩ (c_op_3 l D cI x0 x1 x2 x3 V S M d a b hd ha hb') (cwV 4 hts (sm_gV (i1 := 105) (i2 := 106) (i3 := 107) (i4 := 1) (i5 := 108) rfl rfl rfl rfl rfl) rfl rfl rfl (by decide +kernel) ⟨Nat.le_of_ble_eq_true rfl, Nat.le_of_ble_eq_true rfl⟩) hK [0] rfl hP hD hS hA 0 rfl rfl [0, 1, 2, 3] [] rfl rfl (by decide) (by decide) (by decide) rfl hl.1 rfl (Nat.le_of_ble_eq_true rfl) dL_op_6 ⟨Nat.le_of_ble_eq_true rfl, Nat.le_of_ble_eq_true rfl⟩ rfl rfl (fun H locs hP hD hS => ?_)
  have hP : va_P D vwCl (sm_wX cI x0 x1 x2 x3 (upd V d (V a ||| V b)) (upd S d ((S a ||| S b) &&& (S a ||| (V a ^^^ (-1))) &&& (S b ||| (V b ^^^ (-1))))) M) H := hP.sub [0, 1, 2, 3] rfl
  have hD : va_D _ (sm_wX cI x0 x1 x2 x3 (upd V d (V a ||| V b)) (upd S d ((S a ||| S b) &&& (S a ||| (V a ^^^ (-1))) &&& (S b ||| (V b ^^^ (-1))))) M) := hD.sub [0, 1, 2, 3] (by decide) rfl
  refine lv_goto (tgt := 20) hx hb dL_op_9 rfl ?_
  refine lv_iconst (v := 0) hx hb dL_op_20 (by decide) ?_
  refine W.widen (k := 1) (n := 6) (Nat.le_of_ble_eq_true rfl) (Nat.le_of_ble_eq_true rfl) ?_
  exact sm_iret hx hb hrt hlocks hS hP hD dL_op_21
set_option maxHeartbeats 4000000 in
set_option maxRecDepth 100000 in
theorem h_op_4 (l : Launch) (D : va_G) (cI : ClassId) (x0 x1 x2 x3 : Nat) (V S M : Nat → Int32) (d a b : Nat) (hd : d < 16) (ha : a < 16) (hb' : b < 16) : sm_CZ l yL_op wsL_op ({ frames := 9, cells := 1, slots := 6, locals := 240 } : Room) D vwCl [(cI, .int)] [.ref x0, .int 4, .int (nI d), .int (nI a), .int (nI b)] (sm_wX cI x0 x1 x2 x3 V S M) (some (.int 0)) (sm_wX cI x0 x1 x2 x3 (upd V d (V a ^^^ V b)) (upd S d (S a ||| S b)) M) := by
  refine sm_startZ (cc := cL_op) (maxL := 6) (ret := some .int) (lv := [(0, .ref x0), (1, .int 4), (2, .int (nI d)), (3, .int (nI a)), (4, .int (nI b))]) (hh := [(0, 9, 12, 19), (0, 9, 16, 13)]) (by decide) rfl (Nat.le_of_ble_eq_true rfl) rfl ?_
  intro p e s m below meth c hx hb hrt hts hown hlocks hml htab hZ hN hK hP hD hS hA ls hl
  have hw := sm_hw hts
  refine lv_aload_n hx hb dL_op_0 rfl (lv_at hl 0 rfl) ?_
  refine lv_iload_n hx hb dL_op_1 rfl (lv_at hl 1 rfl) ?_
  refine lv_iload_n hx hb dL_op_2 rfl (lv_at hl 2 rfl) ?_
  refine lv_iload_n hx hb dL_op_3 rfl (lv_at hl 3 rfl) ?_
  refine lv_iload hx hb dL_op_4 (lv_at hl 4 rfl) ?_
  refine sm_callV (C := RX0) (As := [.int 4, .int (nI d), .int (nI a), .int (nI b)]) (rest := []) (wr := []) (wn := [] ++ (sm_wX cI x0 x1 x2 x3 (upd V d (V a ^^^ V b)) (upd S d (S a ||| S b)) M)) (st1 := []) ⟨hx, hb, hml, hown, hts⟩ (c_op_4 l D cI x0 x1 x2 x3 V S M d a b hd ha hb') (cwV 4 hts (sm_gV (i1 := 105) (i2 := 106) (i3 := 107) (i4 := 1) (i5 := 108) rfl rfl rfl rfl rfl) rfl rfl rfl (by decide +kernel) ⟨Nat.le_of_ble_eq_true rfl, Nat.le_of_ble_eq_true rfl⟩) hK [0] rfl hP hD hS hA 0 rfl rfl [0, 1, 2, 3] [] rfl rfl (by decide) (by decide) (by decide) rfl hl.1 rfl (Nat.le_of_ble_eq_true rfl) dL_op_6 ⟨Nat.le_of_ble_eq_true rfl, Nat.le_of_ble_eq_true rfl⟩ rfl rfl (fun H locs hP hD hS => ?_)
  have hP : va_P D vwCl (sm_wX cI x0 x1 x2 x3 (upd V d (V a ^^^ V b)) (upd S d (S a ||| S b)) M) H := hP.sub [0, 1, 2, 3] rfl
  have hD : va_D _ (sm_wX cI x0 x1 x2 x3 (upd V d (V a ^^^ V b)) (upd S d (S a ||| S b)) M) := hD.sub [0, 1, 2, 3] (by decide) rfl
  refine lv_goto (tgt := 20) hx hb dL_op_9 rfl ?_
  refine lv_iconst (v := 0) hx hb dL_op_20 (by decide) ?_
  refine W.widen (k := 1) (n := 6) (Nat.le_of_ble_eq_true rfl) (Nat.le_of_ble_eq_true rfl) ?_
  exact sm_iret hx hb hrt hlocks hS hP hD dL_op_21
set_option maxHeartbeats 4000000 in
set_option maxRecDepth 100000 in
theorem h_op_5 (l : Launch) (D : va_G) (cI : ClassId) (x0 x1 x2 x3 : Nat) (V S M : Nat → Int32) (d a b : Nat) (hd : d < 16) (ha : a < 16) (hb' : b < 16) : sm_CZ l yL_op wsL_op ({ frames := 9, cells := 1, slots := 6, locals := 240 } : Room) D vwCl [(cI, .int)] [.ref x0, .int 5, .int (nI d), .int (nI a), .int (nI b)] (sm_wX cI x0 x1 x2 x3 V S M) (some (.int 0)) (sm_wX cI x0 x1 x2 x3 (upd V d (V a <<< ((V b &&& 31) &&& 31))) (upd S d (if S b &&& 31 = 0 then S a <<< ((V b &&& 31) &&& 31) else (-1))) M) := by
  refine sm_startZ (cc := cL_op) (maxL := 6) (ret := some .int) (lv := [(0, .ref x0), (1, .int 5), (2, .int (nI d)), (3, .int (nI a)), (4, .int (nI b))]) (hh := [(0, 9, 12, 19), (0, 9, 16, 13)]) (by decide) rfl (Nat.le_of_ble_eq_true rfl) rfl ?_
  intro p e s m below meth c hx hb hrt hts hown hlocks hml htab hZ hN hK hP hD hS hA ls hl
  have hw := sm_hw hts
  refine lv_aload_n hx hb dL_op_0 rfl (lv_at hl 0 rfl) ?_
  refine lv_iload_n hx hb dL_op_1 rfl (lv_at hl 1 rfl) ?_
  refine lv_iload_n hx hb dL_op_2 rfl (lv_at hl 2 rfl) ?_
  refine lv_iload_n hx hb dL_op_3 rfl (lv_at hl 3 rfl) ?_
  refine lv_iload hx hb dL_op_4 (lv_at hl 4 rfl) ?_
  refine sm_callV (C := RX0) (As := [.int 5, .int (nI d), .int (nI a), .int (nI b)]) (rest := []) (wr := []) (wn := [] ++ (sm_wX cI x0 x1 x2 x3 (upd V d (V a <<< ((V b &&& 31) &&& 31))) (upd S d (if S b &&& 31 = 0 then S a <<< ((V b &&& 31) &&& 31) else (-1))) M)) (st1 := []) ⟨hx, hb, hml, hown, hts⟩ (c_op_5 l D cI x0 x1 x2 x3 V S M d a b hd ha hb') (cwV 4 hts (sm_gV (i1 := 105) (i2 := 106) (i3 := 107) (i4 := 1) (i5 := 108) rfl rfl rfl rfl rfl) rfl rfl rfl (by decide +kernel) ⟨Nat.le_of_ble_eq_true rfl, Nat.le_of_ble_eq_true rfl⟩) hK [0] rfl hP hD hS hA 0 rfl rfl [0, 1, 2, 3] [] rfl rfl (by decide) (by decide) (by decide) rfl hl.1 rfl (Nat.le_of_ble_eq_true rfl) dL_op_6 ⟨Nat.le_of_ble_eq_true rfl, Nat.le_of_ble_eq_true rfl⟩ rfl rfl (fun H locs hP hD hS => ?_)
  have hP : va_P D vwCl (sm_wX cI x0 x1 x2 x3 (upd V d (V a <<< ((V b &&& 31) &&& 31))) (upd S d (if S b &&& 31 = 0 then S a <<< ((V b &&& 31) &&& 31) else (-1))) M) H := hP.sub [0, 1, 2, 3] rfl
  have hD : va_D _ (sm_wX cI x0 x1 x2 x3 (upd V d (V a <<< ((V b &&& 31) &&& 31))) (upd S d (if S b &&& 31 = 0 then S a <<< ((V b &&& 31) &&& 31) else (-1))) M) := hD.sub [0, 1, 2, 3] (by decide) rfl
  refine lv_goto (tgt := 20) hx hb dL_op_9 rfl ?_
  refine lv_iconst (v := 0) hx hb dL_op_20 (by decide) ?_
  refine W.widen (k := 1) (n := 6) (Nat.le_of_ble_eq_true rfl) (Nat.le_of_ble_eq_true rfl) ?_
  exact sm_iret hx hb hrt hlocks hS hP hD dL_op_21
set_option maxHeartbeats 4000000 in
set_option maxRecDepth 100000 in
theorem h_op_6 (l : Launch) (D : va_G) (cI : ClassId) (x0 x1 x2 x3 : Nat) (V S M : Nat → Int32) (d a b : Nat) (hd : d < 16) (ha : a < 16) (hb' : b < 16) : sm_CZ l yL_op wsL_op ({ frames := 9, cells := 1, slots := 6, locals := 240 } : Room) D vwCl [(cI, .int)] [.ref x0, .int 6, .int (nI d), .int (nI a), .int (nI b)] (sm_wX cI x0 x1 x2 x3 V S M) (some (.int 0)) (sm_wX cI x0 x1 x2 x3 (upd V d (sm_ushr (V a) (V b &&& 31))) (upd S d (if S b &&& 31 = 0 then sm_ushr (S a) (V b &&& 31) else (-1))) M) := by
  refine sm_startZ (cc := cL_op) (maxL := 6) (ret := some .int) (lv := [(0, .ref x0), (1, .int 6), (2, .int (nI d)), (3, .int (nI a)), (4, .int (nI b))]) (hh := [(0, 9, 12, 19), (0, 9, 16, 13)]) (by decide) rfl (Nat.le_of_ble_eq_true rfl) rfl ?_
  intro p e s m below meth c hx hb hrt hts hown hlocks hml htab hZ hN hK hP hD hS hA ls hl
  have hw := sm_hw hts
  refine lv_aload_n hx hb dL_op_0 rfl (lv_at hl 0 rfl) ?_
  refine lv_iload_n hx hb dL_op_1 rfl (lv_at hl 1 rfl) ?_
  refine lv_iload_n hx hb dL_op_2 rfl (lv_at hl 2 rfl) ?_
  refine lv_iload_n hx hb dL_op_3 rfl (lv_at hl 3 rfl) ?_
  refine lv_iload hx hb dL_op_4 (lv_at hl 4 rfl) ?_
  refine sm_callV (C := RX0) (As := [.int 6, .int (nI d), .int (nI a), .int (nI b)]) (rest := []) (wr := []) (wn := [] ++ (sm_wX cI x0 x1 x2 x3 (upd V d (sm_ushr (V a) (V b &&& 31))) (upd S d (if S b &&& 31 = 0 then sm_ushr (S a) (V b &&& 31) else (-1))) M)) (st1 := []) ⟨hx, hb, hml, hown, hts⟩ (c_op_6 l D cI x0 x1 x2 x3 V S M d a b hd ha hb') (cwV 4 hts (sm_gV (i1 := 105) (i2 := 106) (i3 := 107) (i4 := 1) (i5 := 108) rfl rfl rfl rfl rfl) rfl rfl rfl (by decide +kernel) ⟨Nat.le_of_ble_eq_true rfl, Nat.le_of_ble_eq_true rfl⟩) hK [0] rfl hP hD hS hA 0 rfl rfl [0, 1, 2, 3] [] rfl rfl (by decide) (by decide) (by decide) rfl hl.1 rfl (Nat.le_of_ble_eq_true rfl) dL_op_6 ⟨Nat.le_of_ble_eq_true rfl, Nat.le_of_ble_eq_true rfl⟩ rfl rfl (fun H locs hP hD hS => ?_)
  have hP : va_P D vwCl (sm_wX cI x0 x1 x2 x3 (upd V d (sm_ushr (V a) (V b &&& 31))) (upd S d (if S b &&& 31 = 0 then sm_ushr (S a) (V b &&& 31) else (-1))) M) H := hP.sub [0, 1, 2, 3] rfl
  have hD : va_D _ (sm_wX cI x0 x1 x2 x3 (upd V d (sm_ushr (V a) (V b &&& 31))) (upd S d (if S b &&& 31 = 0 then sm_ushr (S a) (V b &&& 31) else (-1))) M) := hD.sub [0, 1, 2, 3] (by decide) rfl
  refine lv_goto (tgt := 20) hx hb dL_op_9 rfl ?_
  refine lv_iconst (v := 0) hx hb dL_op_20 (by decide) ?_
  refine W.widen (k := 1) (n := 6) (Nat.le_of_ble_eq_true rfl) (Nat.le_of_ble_eq_true rfl) ?_
  exact sm_iret hx hb hrt hlocks hS hP hD dL_op_21
set_option maxHeartbeats 4000000 in
set_option maxRecDepth 100000 in
theorem h_op_7 (l : Launch) (D : va_G) (cI : ClassId) (x0 x1 x2 x3 : Nat) (V S M : Nat → Int32) (d a b : Nat) (hd : d < 16) (ha : a < 16) (hb' : b < 16) : sm_CZ l yL_op wsL_op ({ frames := 9, cells := 1, slots := 6, locals := 240 } : Room) D vwCl [(cI, .int)] [.ref x0, .int 7, .int (nI d), .int (nI a), .int (nI b)] (sm_wX cI x0 x1 x2 x3 V S M) (some (.int 0)) (sm_wX cI x0 x1 x2 x3 (upd V d (V a >>> ((V b &&& 31) &&& 31))) (upd S d (if S b &&& 31 = 0 then S a >>> ((V b &&& 31) &&& 31) else (-1))) M) := by
  refine sm_startZ (cc := cL_op) (maxL := 6) (ret := some .int) (lv := [(0, .ref x0), (1, .int 7), (2, .int (nI d)), (3, .int (nI a)), (4, .int (nI b))]) (hh := [(0, 9, 12, 19), (0, 9, 16, 13)]) (by decide) rfl (Nat.le_of_ble_eq_true rfl) rfl ?_
  intro p e s m below meth c hx hb hrt hts hown hlocks hml htab hZ hN hK hP hD hS hA ls hl
  have hw := sm_hw hts
  refine lv_aload_n hx hb dL_op_0 rfl (lv_at hl 0 rfl) ?_
  refine lv_iload_n hx hb dL_op_1 rfl (lv_at hl 1 rfl) ?_
  refine lv_iload_n hx hb dL_op_2 rfl (lv_at hl 2 rfl) ?_
  refine lv_iload_n hx hb dL_op_3 rfl (lv_at hl 3 rfl) ?_
  refine lv_iload hx hb dL_op_4 (lv_at hl 4 rfl) ?_
  refine sm_callV (C := RX0) (As := [.int 7, .int (nI d), .int (nI a), .int (nI b)]) (rest := []) (wr := []) (wn := [] ++ (sm_wX cI x0 x1 x2 x3 (upd V d (V a >>> ((V b &&& 31) &&& 31))) (upd S d (if S b &&& 31 = 0 then S a >>> ((V b &&& 31) &&& 31) else (-1))) M)) (st1 := []) ⟨hx, hb, hml, hown, hts⟩ (c_op_7 l D cI x0 x1 x2 x3 V S M d a b hd ha hb') (cwV 4 hts (sm_gV (i1 := 105) (i2 := 106) (i3 := 107) (i4 := 1) (i5 := 108) rfl rfl rfl rfl rfl) rfl rfl rfl (by decide +kernel) ⟨Nat.le_of_ble_eq_true rfl, Nat.le_of_ble_eq_true rfl⟩) hK [0] rfl hP hD hS hA 0 rfl rfl [0, 1, 2, 3] [] rfl rfl (by decide) (by decide) (by decide) rfl hl.1 rfl (Nat.le_of_ble_eq_true rfl) dL_op_6 ⟨Nat.le_of_ble_eq_true rfl, Nat.le_of_ble_eq_true rfl⟩ rfl rfl (fun H locs hP hD hS => ?_)
  have hP : va_P D vwCl (sm_wX cI x0 x1 x2 x3 (upd V d (V a >>> ((V b &&& 31) &&& 31))) (upd S d (if S b &&& 31 = 0 then S a >>> ((V b &&& 31) &&& 31) else (-1))) M) H := hP.sub [0, 1, 2, 3] rfl
  have hD : va_D _ (sm_wX cI x0 x1 x2 x3 (upd V d (V a >>> ((V b &&& 31) &&& 31))) (upd S d (if S b &&& 31 = 0 then S a >>> ((V b &&& 31) &&& 31) else (-1))) M) := hD.sub [0, 1, 2, 3] (by decide) rfl
  refine lv_goto (tgt := 20) hx hb dL_op_9 rfl ?_
  refine lv_iconst (v := 0) hx hb dL_op_20 (by decide) ?_
  refine W.widen (k := 1) (n := 6) (Nat.le_of_ble_eq_true rfl) (Nat.le_of_ble_eq_true rfl) ?_
  exact sm_iret hx hb hrt hlocks hS hP hD dL_op_21
set_option maxHeartbeats 4000000 in
set_option maxRecDepth 100000 in
theorem h_op_8 (l : Launch) (D : va_G) (cI : ClassId) (x0 x1 x2 x3 : Nat) (V S M : Nat → Int32) (d a b : Nat) (hd : d < 16) (ha : a < 16) (hb' : b < 16) : sm_CZ l yL_op wsL_op ({ frames := 9, cells := 1, slots := 6, locals := 240 } : Room) D vwCl [(cI, .int)] [.ref x0, .int 8, .int (nI d), .int (nI a), .int (nI b)] (sm_wX cI x0 x1 x2 x3 V S M) (some (.int 0)) (sm_wX cI x0 x1 x2 x3 (upd V d (V a * V b)) (upd S d (sm_fr (sm_min (sm_tz (S a) + sm_tz (V b ||| S b)) (sm_tz (S b) + sm_tz (V a ||| S a))))) M) := by
  refine sm_startZ (cc := cL_op) (maxL := 6) (ret := some .int) (lv := [(0, .ref x0), (1, .int 8), (2, .int (nI d)), (3, .int (nI a)), (4, .int (nI b))]) (hh := [(0, 9, 12, 19), (0, 9, 16, 13)]) (by decide) rfl (Nat.le_of_ble_eq_true rfl) rfl ?_
  intro p e s m below meth c hx hb hrt hts hown hlocks hml htab hZ hN hK hP hD hS hA ls hl
  have hw := sm_hw hts
  refine lv_aload_n hx hb dL_op_0 rfl (lv_at hl 0 rfl) ?_
  refine lv_iload_n hx hb dL_op_1 rfl (lv_at hl 1 rfl) ?_
  refine lv_iload_n hx hb dL_op_2 rfl (lv_at hl 2 rfl) ?_
  refine lv_iload_n hx hb dL_op_3 rfl (lv_at hl 3 rfl) ?_
  refine lv_iload hx hb dL_op_4 (lv_at hl 4 rfl) ?_
  refine sm_callV (C := RX0) (As := [.int 8, .int (nI d), .int (nI a), .int (nI b)]) (rest := []) (wr := []) (wn := [] ++ (sm_wX cI x0 x1 x2 x3 (upd V d (V a * V b)) (upd S d (sm_fr (sm_min (sm_tz (S a) + sm_tz (V b ||| S b)) (sm_tz (S b) + sm_tz (V a ||| S a))))) M)) (st1 := []) ⟨hx, hb, hml, hown, hts⟩ (c_op_8 l D cI x0 x1 x2 x3 V S M d a b hd ha hb') (cwV 4 hts (sm_gV (i1 := 105) (i2 := 106) (i3 := 107) (i4 := 1) (i5 := 108) rfl rfl rfl rfl rfl) rfl rfl rfl (by decide +kernel) ⟨Nat.le_of_ble_eq_true rfl, Nat.le_of_ble_eq_true rfl⟩) hK [0] rfl hP hD hS hA 0 rfl rfl [0, 1, 2, 3] [] rfl rfl (by decide) (by decide) (by decide) rfl hl.1 rfl (Nat.le_of_ble_eq_true rfl) dL_op_6 ⟨Nat.le_of_ble_eq_true rfl, Nat.le_of_ble_eq_true rfl⟩ rfl rfl (fun H locs hP hD hS => ?_)
  have hP : va_P D vwCl (sm_wX cI x0 x1 x2 x3 (upd V d (V a * V b)) (upd S d (sm_fr (sm_min (sm_tz (S a) + sm_tz (V b ||| S b)) (sm_tz (S b) + sm_tz (V a ||| S a))))) M) H := hP.sub [0, 1, 2, 3] rfl
  have hD : va_D _ (sm_wX cI x0 x1 x2 x3 (upd V d (V a * V b)) (upd S d (sm_fr (sm_min (sm_tz (S a) + sm_tz (V b ||| S b)) (sm_tz (S b) + sm_tz (V a ||| S a))))) M) := hD.sub [0, 1, 2, 3] (by decide) rfl
  refine lv_goto (tgt := 20) hx hb dL_op_9 rfl ?_
  refine lv_iconst (v := 0) hx hb dL_op_20 (by decide) ?_
  refine W.widen (k := 1) (n := 6) (Nat.le_of_ble_eq_true rfl) (Nat.le_of_ble_eq_true rfl) ?_
  exact sm_iret hx hb hrt hlocks hS hP hD dL_op_21
set_option maxHeartbeats 4000000 in
set_option maxRecDepth 100000 in
theorem h_op_9 (l : Launch) (D : va_G) (cI : ClassId) (x0 x1 x2 x3 : Nat) (V S M : Nat → Int32) (d a b : Nat) (hd : d < 16) (ha : a < 16) (hb' : b < 16) : sm_CZ l yL_op wsL_op ({ frames := 9, cells := 1, slots := 6, locals := 240 } : Room) D vwCl [(cI, .int)] [.ref x0, .int 9, .int (nI d), .int (nI a), .int (nI b)] (sm_wX cI x0 x1 x2 x3 V S M) (some (.int 0)) (sm_wX cI x0 x1 x2 x3 (upd V d (sm_bI (decide (V a < V b)))) (upd S d (sm_bI (decide (sm_le (V a) (S a) < sm_he (V b) (S b)) && decide (sm_le (V b) (S b) ≤ sm_he (V a) (S a))))) M) := by
  refine sm_startZ (cc := cL_op) (maxL := 6) (ret := some .int) (lv := [(0, .ref x0), (1, .int 9), (2, .int (nI d)), (3, .int (nI a)), (4, .int (nI b))]) (hh := [(0, 9, 12, 19), (0, 9, 16, 13)]) (by decide) rfl (Nat.le_of_ble_eq_true rfl) rfl ?_
  intro p e s m below meth c hx hb hrt hts hown hlocks hml htab hZ hN hK hP hD hS hA ls hl
  have hw := sm_hw hts
  refine lv_aload_n hx hb dL_op_0 rfl (lv_at hl 0 rfl) ?_
  refine lv_iload_n hx hb dL_op_1 rfl (lv_at hl 1 rfl) ?_
  refine lv_iload_n hx hb dL_op_2 rfl (lv_at hl 2 rfl) ?_
  refine lv_iload_n hx hb dL_op_3 rfl (lv_at hl 3 rfl) ?_
  refine lv_iload hx hb dL_op_4 (lv_at hl 4 rfl) ?_
  refine sm_callV (C := RX0) (As := [.int 9, .int (nI d), .int (nI a), .int (nI b)]) (rest := []) (wr := []) (wn := [] ++ (sm_wX cI x0 x1 x2 x3 (upd V d (sm_bI (decide (V a < V b)))) (upd S d (sm_bI (decide (sm_le (V a) (S a) < sm_he (V b) (S b)) && decide (sm_le (V b) (S b) ≤ sm_he (V a) (S a))))) M)) (st1 := []) ⟨hx, hb, hml, hown, hts⟩ (c_op_9 l D cI x0 x1 x2 x3 V S M d a b hd ha hb') (cwV 4 hts (sm_gV (i1 := 105) (i2 := 106) (i3 := 107) (i4 := 1) (i5 := 108) rfl rfl rfl rfl rfl) rfl rfl rfl (by decide +kernel) ⟨Nat.le_of_ble_eq_true rfl, Nat.le_of_ble_eq_true rfl⟩) hK [0] rfl hP hD hS hA 0 rfl rfl [0, 1, 2, 3] [] rfl rfl (by decide) (by decide) (by decide) rfl hl.1 rfl (Nat.le_of_ble_eq_true rfl) dL_op_6 ⟨Nat.le_of_ble_eq_true rfl, Nat.le_of_ble_eq_true rfl⟩ rfl rfl (fun H locs hP hD hS => ?_)
  have hP : va_P D vwCl (sm_wX cI x0 x1 x2 x3 (upd V d (sm_bI (decide (V a < V b)))) (upd S d (sm_bI (decide (sm_le (V a) (S a) < sm_he (V b) (S b)) && decide (sm_le (V b) (S b) ≤ sm_he (V a) (S a))))) M) H := hP.sub [0, 1, 2, 3] rfl
  have hD : va_D _ (sm_wX cI x0 x1 x2 x3 (upd V d (sm_bI (decide (V a < V b)))) (upd S d (sm_bI (decide (sm_le (V a) (S a) < sm_he (V b) (S b)) && decide (sm_le (V b) (S b) ≤ sm_he (V a) (S a))))) M) := hD.sub [0, 1, 2, 3] (by decide) rfl
  refine lv_goto (tgt := 20) hx hb dL_op_9 rfl ?_
  refine lv_iconst (v := 0) hx hb dL_op_20 (by decide) ?_
  refine W.widen (k := 1) (n := 6) (Nat.le_of_ble_eq_true rfl) (Nat.le_of_ble_eq_true rfl) ?_
  exact sm_iret hx hb hrt hlocks hS hP hD dL_op_21
set_option maxHeartbeats 4000000 in
set_option maxRecDepth 100000 in
theorem h_op_10 (l : Launch) (D : va_G) (cI : ClassId) (x0 x1 x2 x3 : Nat) (V S M : Nat → Int32) (d a b : Nat) (hd : d < 16) (ha : a < 16) (hb' : b < 16) : sm_CZ l yL_op wsL_op ({ frames := 9, cells := 1, slots := 6, locals := 240 } : Room) D vwCl [(cI, .int)] [.ref x0, .int 10, .int (nI d), .int (nI a), .int (nI b)] (sm_wX cI x0 x1 x2 x3 V S M) (some (.int 0)) (sm_wX cI x0 x1 x2 x3 (upd V d (sm_bI (decide (V a ^^^ (-2147483648) < V b ^^^ (-2147483648))))) (upd S d (sm_bI (decide (sm_le (V a ^^^ (-2147483648)) (S a) < sm_he (V b ^^^ (-2147483648)) (S b)) && decide (sm_le (V b ^^^ (-2147483648)) (S b) ≤ sm_he (V a ^^^ (-2147483648)) (S a))))) M) := by
  refine sm_startZ (cc := cL_op) (maxL := 6) (ret := some .int) (lv := [(0, .ref x0), (1, .int 10), (2, .int (nI d)), (3, .int (nI a)), (4, .int (nI b))]) (hh := [(0, 9, 12, 19), (0, 9, 16, 13)]) (by decide) rfl (Nat.le_of_ble_eq_true rfl) rfl ?_
  intro p e s m below meth c hx hb hrt hts hown hlocks hml htab hZ hN hK hP hD hS hA ls hl
  have hw := sm_hw hts
  refine lv_aload_n hx hb dL_op_0 rfl (lv_at hl 0 rfl) ?_
  refine lv_iload_n hx hb dL_op_1 rfl (lv_at hl 1 rfl) ?_
  refine lv_iload_n hx hb dL_op_2 rfl (lv_at hl 2 rfl) ?_
  refine lv_iload_n hx hb dL_op_3 rfl (lv_at hl 3 rfl) ?_
  refine lv_iload hx hb dL_op_4 (lv_at hl 4 rfl) ?_
  refine sm_callV (C := RX0) (As := [.int 10, .int (nI d), .int (nI a), .int (nI b)]) (rest := []) (wr := []) (wn := [] ++ (sm_wX cI x0 x1 x2 x3 (upd V d (sm_bI (decide (V a ^^^ (-2147483648) < V b ^^^ (-2147483648))))) (upd S d (sm_bI (decide (sm_le (V a ^^^ (-2147483648)) (S a) < sm_he (V b ^^^ (-2147483648)) (S b)) && decide (sm_le (V b ^^^ (-2147483648)) (S b) ≤ sm_he (V a ^^^ (-2147483648)) (S a))))) M)) (st1 := []) ⟨hx, hb, hml, hown, hts⟩ (c_op_10 l D cI x0 x1 x2 x3 V S M d a b hd ha hb') (cwV 4 hts (sm_gV (i1 := 105) (i2 := 106) (i3 := 107) (i4 := 1) (i5 := 108) rfl rfl rfl rfl rfl) rfl rfl rfl (by decide +kernel) ⟨Nat.le_of_ble_eq_true rfl, Nat.le_of_ble_eq_true rfl⟩) hK [0] rfl hP hD hS hA 0 rfl rfl [0, 1, 2, 3] [] rfl rfl (by decide) (by decide) (by decide) rfl hl.1 rfl (Nat.le_of_ble_eq_true rfl) dL_op_6 ⟨Nat.le_of_ble_eq_true rfl, Nat.le_of_ble_eq_true rfl⟩ rfl rfl (fun H locs hP hD hS => ?_)
  have hP : va_P D vwCl (sm_wX cI x0 x1 x2 x3 (upd V d (sm_bI (decide (V a ^^^ (-2147483648) < V b ^^^ (-2147483648))))) (upd S d (sm_bI (decide (sm_le (V a ^^^ (-2147483648)) (S a) < sm_he (V b ^^^ (-2147483648)) (S b)) && decide (sm_le (V b ^^^ (-2147483648)) (S b) ≤ sm_he (V a ^^^ (-2147483648)) (S a))))) M) H := hP.sub [0, 1, 2, 3] rfl
  have hD : va_D _ (sm_wX cI x0 x1 x2 x3 (upd V d (sm_bI (decide (V a ^^^ (-2147483648) < V b ^^^ (-2147483648))))) (upd S d (sm_bI (decide (sm_le (V a ^^^ (-2147483648)) (S a) < sm_he (V b ^^^ (-2147483648)) (S b)) && decide (sm_le (V b ^^^ (-2147483648)) (S b) ≤ sm_he (V a ^^^ (-2147483648)) (S a))))) M) := hD.sub [0, 1, 2, 3] (by decide) rfl
  refine lv_goto (tgt := 20) hx hb dL_op_9 rfl ?_
  refine lv_iconst (v := 0) hx hb dL_op_20 (by decide) ?_
  refine W.widen (k := 1) (n := 6) (Nat.le_of_ble_eq_true rfl) (Nat.le_of_ble_eq_true rfl) ?_
  exact sm_iret hx hb hrt hlocks hS hP hD dL_op_21
set_option maxHeartbeats 4000000 in
set_option maxRecDepth 100000 in
theorem h_op_11 (l : Launch) (D : va_G) (cI : ClassId) (x0 x1 x2 x3 : Nat) (V S M : Nat → Int32) (d a b : Nat) (hd : d < 16) (ha : a < 16) (hb' : b < 16) : sm_CZ l yL_op wsL_op ({ frames := 9, cells := 1, slots := 6, locals := 240 } : Room) D vwCl [(cI, .int)] [.ref x0, .int 11, .int (nI d), .int (nI a), .int (nI b)] (sm_wX cI x0 x1 x2 x3 V S M) (some (.int 0)) (sm_wX cI x0 x1 x2 x3 (upd V d (sm_bI (decide (V a = V b)))) (upd S d (sm_bI (!decide (S a ||| S b = 0) && decide ((V a ^^^ V b) &&& ((S a ||| S b) ^^^ (-1)) = 0)))) M) := by
  refine sm_startZ (cc := cL_op) (maxL := 6) (ret := some .int) (lv := [(0, .ref x0), (1, .int 11), (2, .int (nI d)), (3, .int (nI a)), (4, .int (nI b))]) (hh := [(0, 9, 12, 19), (0, 9, 16, 13)]) (by decide) rfl (Nat.le_of_ble_eq_true rfl) rfl ?_
  intro p e s m below meth c hx hb hrt hts hown hlocks hml htab hZ hN hK hP hD hS hA ls hl
  have hw := sm_hw hts
  refine lv_aload_n hx hb dL_op_0 rfl (lv_at hl 0 rfl) ?_
  refine lv_iload_n hx hb dL_op_1 rfl (lv_at hl 1 rfl) ?_
  refine lv_iload_n hx hb dL_op_2 rfl (lv_at hl 2 rfl) ?_
  refine lv_iload_n hx hb dL_op_3 rfl (lv_at hl 3 rfl) ?_
  refine lv_iload hx hb dL_op_4 (lv_at hl 4 rfl) ?_
  refine sm_callV (C := RX0) (As := [.int 11, .int (nI d), .int (nI a), .int (nI b)]) (rest := []) (wr := []) (wn := [] ++ (sm_wX cI x0 x1 x2 x3 (upd V d (sm_bI (decide (V a = V b)))) (upd S d (sm_bI (!decide (S a ||| S b = 0) && decide ((V a ^^^ V b) &&& ((S a ||| S b) ^^^ (-1)) = 0)))) M)) (st1 := []) ⟨hx, hb, hml, hown, hts⟩ (c_op_11 l D cI x0 x1 x2 x3 V S M d a b hd ha hb') (cwV 4 hts (sm_gV (i1 := 105) (i2 := 106) (i3 := 107) (i4 := 1) (i5 := 108) rfl rfl rfl rfl rfl) rfl rfl rfl (by decide +kernel) ⟨Nat.le_of_ble_eq_true rfl, Nat.le_of_ble_eq_true rfl⟩) hK [0] rfl hP hD hS hA 0 rfl rfl [0, 1, 2, 3] [] rfl rfl (by decide) (by decide) (by decide) rfl hl.1 rfl (Nat.le_of_ble_eq_true rfl) dL_op_6 ⟨Nat.le_of_ble_eq_true rfl, Nat.le_of_ble_eq_true rfl⟩ rfl rfl (fun H locs hP hD hS => ?_)
  have hP : va_P D vwCl (sm_wX cI x0 x1 x2 x3 (upd V d (sm_bI (decide (V a = V b)))) (upd S d (sm_bI (!decide (S a ||| S b = 0) && decide ((V a ^^^ V b) &&& ((S a ||| S b) ^^^ (-1)) = 0)))) M) H := hP.sub [0, 1, 2, 3] rfl
  have hD : va_D _ (sm_wX cI x0 x1 x2 x3 (upd V d (sm_bI (decide (V a = V b)))) (upd S d (sm_bI (!decide (S a ||| S b = 0) && decide ((V a ^^^ V b) &&& ((S a ||| S b) ^^^ (-1)) = 0)))) M) := hD.sub [0, 1, 2, 3] (by decide) rfl
  refine lv_goto (tgt := 20) hx hb dL_op_9 rfl ?_
  refine lv_iconst (v := 0) hx hb dL_op_20 (by decide) ?_
  refine W.widen (k := 1) (n := 6) (Nat.le_of_ble_eq_true rfl) (Nat.le_of_ble_eq_true rfl) ?_
  exact sm_iret hx hb hrt hlocks hS hP hD dL_op_21
set_option maxHeartbeats 4000000 in
set_option maxRecDepth 100000 in
theorem h_op_12 (l : Launch) (D : va_G) (cI : ClassId) (x0 x1 x2 x3 : Nat) (V S M : Nat → Int32) (d a b : Nat) (hd : d < 16) (ha : a < 16) (hb' : b < 16) : sm_CZ l yL_op wsL_op ({ frames := 9, cells := 1, slots := 6, locals := 240 } : Room) D vwCl [(cI, .int)] [.ref x0, .int 12, .int (nI d), .int (nI a), .int (nI b)] (sm_wX cI x0 x1 x2 x3 V S M) (some (.int 0)) (sm_wX cI x0 x1 x2 x3 (upd V d (if bt (V b) 0 then V a else V d)) (upd S d (if bt (S b) 0 then S a ||| S d ||| (V a ^^^ V d) else if bt (V b) 0 then S a else S d)) M) := by
  refine sm_startZ (cc := cL_op) (maxL := 6) (ret := some .int) (lv := [(0, .ref x0), (1, .int 12), (2, .int (nI d)), (3, .int (nI a)), (4, .int (nI b))]) (hh := [(0, 9, 12, 19), (0, 9, 16, 13)]) (by decide) rfl (Nat.le_of_ble_eq_true rfl) rfl ?_
  intro p e s m below meth c hx hb hrt hts hown hlocks hml htab hZ hN hK hP hD hS hA ls hl
  have hw := sm_hw hts
  refine lv_aload_n hx hb dL_op_0 rfl (lv_at hl 0 rfl) ?_
  refine lv_iload_n hx hb dL_op_1 rfl (lv_at hl 1 rfl) ?_
  refine lv_iload_n hx hb dL_op_2 rfl (lv_at hl 2 rfl) ?_
  refine lv_iload_n hx hb dL_op_3 rfl (lv_at hl 3 rfl) ?_
  refine lv_iload hx hb dL_op_4 (lv_at hl 4 rfl) ?_
  refine sm_callV (C := RX0) (As := [.int 12, .int (nI d), .int (nI a), .int (nI b)]) (rest := []) (wr := []) (wn := [] ++ (sm_wX cI x0 x1 x2 x3 (upd V d (if bt (V b) 0 then V a else V d)) (upd S d (if bt (S b) 0 then S a ||| S d ||| (V a ^^^ V d) else if bt (V b) 0 then S a else S d)) M)) (st1 := []) ⟨hx, hb, hml, hown, hts⟩ (c_op_12 l D cI x0 x1 x2 x3 V S M d a b hd ha hb') (cwV 4 hts (sm_gV (i1 := 105) (i2 := 106) (i3 := 107) (i4 := 1) (i5 := 108) rfl rfl rfl rfl rfl) rfl rfl rfl (by decide +kernel) ⟨Nat.le_of_ble_eq_true rfl, Nat.le_of_ble_eq_true rfl⟩) hK [0] rfl hP hD hS hA 0 rfl rfl [0, 1, 2, 3] [] rfl rfl (by decide) (by decide) (by decide) rfl hl.1 rfl (Nat.le_of_ble_eq_true rfl) dL_op_6 ⟨Nat.le_of_ble_eq_true rfl, Nat.le_of_ble_eq_true rfl⟩ rfl rfl (fun H locs hP hD hS => ?_)
  have hP : va_P D vwCl (sm_wX cI x0 x1 x2 x3 (upd V d (if bt (V b) 0 then V a else V d)) (upd S d (if bt (S b) 0 then S a ||| S d ||| (V a ^^^ V d) else if bt (V b) 0 then S a else S d)) M) H := hP.sub [0, 1, 2, 3] rfl
  have hD : va_D _ (sm_wX cI x0 x1 x2 x3 (upd V d (if bt (V b) 0 then V a else V d)) (upd S d (if bt (S b) 0 then S a ||| S d ||| (V a ^^^ V d) else if bt (V b) 0 then S a else S d)) M) := hD.sub [0, 1, 2, 3] (by decide) rfl
  refine lv_goto (tgt := 20) hx hb dL_op_9 rfl ?_
  refine lv_iconst (v := 0) hx hb dL_op_20 (by decide) ?_
  refine W.widen (k := 1) (n := 6) (Nat.le_of_ble_eq_true rfl) (Nat.le_of_ble_eq_true rfl) ?_
  exact sm_iret hx hb hrt hlocks hS hP hD dL_op_21
set_option maxHeartbeats 4000000 in
set_option maxRecDepth 100000 in
theorem h_op_x0 (l : Launch) (hlt : l.stackTraces = false) (D : va_G) (cI : ClassId) (x0 x1 x2 x3 : Nat) (V S M : Nat → Int32) (o d a b : Int32) (ho : o < 0 ∨ 12 < o) : sm_CZ l yL_op wsL_op ({ frames := 9, cells := 1, slots := 6, locals := 240 } : Room) D vwCl [(cI, .int)] [.ref x0, .int o, .int d, .int a, .int b] (sm_wX cI x0 x1 x2 x3 V S M) (some (.int 1)) (sm_wX cI x0 x1 x2 x3 V S M) := by
  refine sm_startZ (cc := cL_op) (maxL := 6) (ret := some .int) (lv := [(0, .ref x0), (1, .int o), (2, .int d), (3, .int a), (4, .int b)]) (hh := [(0, 9, 12, 19), (0, 9, 16, 13)]) (by decide) rfl (Nat.le_of_ble_eq_true rfl) rfl ?_
  intro p e s m below meth c hx hb hrt hts hown hlocks hml htab hZ hN hK hP hD hS hA ls hl
  have hw := sm_hw hts
  refine lv_aload_n hx hb dL_op_0 rfl (lv_at hl 0 rfl) ?_
  refine lv_iload_n hx hb dL_op_1 rfl (lv_at hl 1 rfl) ?_
  refine lv_iload_n hx hb dL_op_2 rfl (lv_at hl 2 rfl) ?_
  refine lv_iload_n hx hb dL_op_3 rfl (lv_at hl 3 rfl) ?_
  refine lv_iload hx hb dL_op_4 (lv_at hl 4 rfl) ?_
  refine sm_xV (C := RX0) (As := [.int o, .int d, .int a, .int b]) (rest := []) (wr := []) ⟨hx, hb, hml, hown, hts⟩ (x_op0 l hlt D cI x0 x1 x2 x3 V S M o d a b ho) (cwV 4 hts (sm_gV (i1 := 105) (i2 := 106) (i3 := 107) (i4 := 1) (i5 := 108) rfl rfl rfl rfl rfl) rfl rfl rfl (by decide +kernel) ⟨Nat.le_of_ble_eq_true rfl, Nat.le_of_ble_eq_true rfl⟩) hK [0] rfl hZ hP hD hS hA 0 rfl rfl [0, 1, 2, 3] [] rfl rfl (by decide) (by decide) (by decide) rfl hl.1 rfl (Nat.le_of_ble_eq_true rfl) dL_op_6 ⟨Nat.le_of_ble_eq_true rfl, Nat.le_of_ble_eq_true rfl⟩ (fun q ce H locs hce hv hcl hP hD hS => ?_)
  have hP : va_P D vwCl (sm_wX cI x0 x1 x2 x3 V S M) H := hP.sub [0, 1, 2, 3] rfl
  have hD : va_D _ (sm_wX cI x0 x1 x2 x3 V S M) := hD.sub [0, 1, 2, 3] (by decide) rfl
  refine sm_catch1 (name := sm_IA) hown htab (Nat.le_of_ble_eq_true rfl) (Nat.le_of_ble_eq_true rfl) (by decide) (hw 104 rfl) (sm_castX (n := 6) (hw 110 rfl)) hce hv hcl ?_
  refine lv_astore (lv' := [(5, .ref q), (0, .ref x0), (1, .int o), (2, .int d), (3, .int a), (4, .int b)]) hx hb dL_op_12 hl (by decide) rfl (fun ls hl => ?_)
  refine lv_iconst (v := 1) hx hb dL_op_14 (by decide) ?_
  refine W.widen (k := 1) (n := 6) (Nat.le_of_ble_eq_true rfl) (Nat.le_of_ble_eq_true rfl) ?_
  exact sm_iret hx hb hrt hlocks hS hP hD dL_op_15
set_option maxHeartbeats 4000000 in
set_option maxRecDepth 100000 in
theorem h_op_x1 (l : Launch) (hlt : l.stackTraces = false) (D : va_G) (cI : ClassId) (x0 x1 x2 x3 : Nat) (V S M : Nat → Int32) (o : Nat) (ho : o < 13) (a b : Int32) (i : Int32) (hi : i < 0 ∨ 16 ≤ i) : sm_CZ l yL_op wsL_op ({ frames := 9, cells := 1, slots := 6, locals := 240 } : Room) D vwCl [(cI, .int)] [.ref x0, .int (nI o), .int i, .int a, .int b] (sm_wX cI x0 x1 x2 x3 V S M) (some (.int 2)) (sm_wX cI x0 x1 x2 x3 V S M) := by
  refine sm_startZ (cc := cL_op) (maxL := 6) (ret := some .int) (lv := [(0, .ref x0), (1, .int (nI o)), (2, .int i), (3, .int a), (4, .int b)]) (hh := [(0, 9, 12, 19), (0, 9, 16, 13)]) (by decide) rfl (Nat.le_of_ble_eq_true rfl) rfl ?_
  intro p e s m below meth c hx hb hrt hts hown hlocks hml htab hZ hN hK hP hD hS hA ls hl
  have hw := sm_hw hts
  refine lv_aload_n hx hb dL_op_0 rfl (lv_at hl 0 rfl) ?_
  refine lv_iload_n hx hb dL_op_1 rfl (lv_at hl 1 rfl) ?_
  refine lv_iload_n hx hb dL_op_2 rfl (lv_at hl 2 rfl) ?_
  refine lv_iload_n hx hb dL_op_3 rfl (lv_at hl 3 rfl) ?_
  refine lv_iload hx hb dL_op_4 (lv_at hl 4 rfl) ?_
  refine sm_xV (C := RX0) (As := [.int (nI o), .int i, .int a, .int b]) (rest := []) (wr := []) ⟨hx, hb, hml, hown, hts⟩ (x_op1 l hlt D cI x0 x1 x2 x3 V S M o ho a b i hi) (cwV 4 hts (sm_gV (i1 := 105) (i2 := 106) (i3 := 107) (i4 := 1) (i5 := 108) rfl rfl rfl rfl rfl) rfl rfl rfl (by decide +kernel) ⟨Nat.le_of_ble_eq_true rfl, Nat.le_of_ble_eq_true rfl⟩) hK [0] rfl hZ hP hD hS hA 0 rfl rfl [0, 1, 2, 3] [] rfl rfl (by decide) (by decide) (by decide) rfl hl.1 rfl (Nat.le_of_ble_eq_true rfl) dL_op_6 ⟨Nat.le_of_ble_eq_true rfl, Nat.le_of_ble_eq_true rfl⟩ (fun q ce H locs hce hv hcl hP hD hS => ?_)
  have hP : va_P D vwCl (sm_wX cI x0 x1 x2 x3 V S M) H := hP.sub [0, 1, 2, 3] rfl
  have hD : va_D _ (sm_wX cI x0 x1 x2 x3 V S M) := hD.sub [0, 1, 2, 3] (by decide) rfl
  refine sm_catch2 (nm := sm_IA) (name := sm_IO) hown htab (Nat.le_of_ble_eq_true rfl) (Nat.le_of_ble_eq_true rfl) (by decide) (Nat.le_of_ble_eq_true rfl) (Nat.le_of_ble_eq_true rfl) (by decide) (hw 104 rfl) hN (hw 42 rfl) (sm_castX (n := 6) (hw 51 rfl)) hce hv hcl ?_
  refine lv_astore (lv' := [(5, .ref q), (0, .ref x0), (1, .int (nI o)), (2, .int i), (3, .int a), (4, .int b)]) hx hb dL_op_16 hl (by decide) rfl (fun ls hl => ?_)
  refine lv_iconst (v := 2) hx hb dL_op_18 (by decide) ?_
  refine W.widen (k := 1) (n := 6) (Nat.le_of_ble_eq_true rfl) (Nat.le_of_ble_eq_true rfl) ?_
  exact sm_iret hx hb hrt hlocks hS hP hD dL_op_19
set_option maxHeartbeats 4000000 in
set_option maxRecDepth 100000 in
theorem h_op_x2 (l : Launch) (hlt : l.stackTraces = false) (D : va_G) (cI : ClassId) (x0 x1 x2 x3 : Nat) (V S M : Nat → Int32) (o d : Nat) (ho : o < 13) (hd : d < 16) (b : Int32) (i : Int32) (hi : i < 0 ∨ 16 ≤ i) : sm_CZ l yL_op wsL_op ({ frames := 9, cells := 1, slots := 6, locals := 240 } : Room) D vwCl [(cI, .int)] [.ref x0, .int (nI o), .int (nI d), .int i, .int b] (sm_wX cI x0 x1 x2 x3 V S M) (some (.int 2)) (sm_wX cI x0 x1 x2 x3 V S M) := by
  refine sm_startZ (cc := cL_op) (maxL := 6) (ret := some .int) (lv := [(0, .ref x0), (1, .int (nI o)), (2, .int (nI d)), (3, .int i), (4, .int b)]) (hh := [(0, 9, 12, 19), (0, 9, 16, 13)]) (by decide) rfl (Nat.le_of_ble_eq_true rfl) rfl ?_
  intro p e s m below meth c hx hb hrt hts hown hlocks hml htab hZ hN hK hP hD hS hA ls hl
  have hw := sm_hw hts
  refine lv_aload_n hx hb dL_op_0 rfl (lv_at hl 0 rfl) ?_
  refine lv_iload_n hx hb dL_op_1 rfl (lv_at hl 1 rfl) ?_
  refine lv_iload_n hx hb dL_op_2 rfl (lv_at hl 2 rfl) ?_
  refine lv_iload_n hx hb dL_op_3 rfl (lv_at hl 3 rfl) ?_
  refine lv_iload hx hb dL_op_4 (lv_at hl 4 rfl) ?_
  refine sm_xV (C := RX0) (As := [.int (nI o), .int (nI d), .int i, .int b]) (rest := []) (wr := []) ⟨hx, hb, hml, hown, hts⟩ (x_op2 l hlt D cI x0 x1 x2 x3 V S M o d ho hd b i hi) (cwV 4 hts (sm_gV (i1 := 105) (i2 := 106) (i3 := 107) (i4 := 1) (i5 := 108) rfl rfl rfl rfl rfl) rfl rfl rfl (by decide +kernel) ⟨Nat.le_of_ble_eq_true rfl, Nat.le_of_ble_eq_true rfl⟩) hK [0] rfl hZ hP hD hS hA 0 rfl rfl [0, 1, 2, 3] [] rfl rfl (by decide) (by decide) (by decide) rfl hl.1 rfl (Nat.le_of_ble_eq_true rfl) dL_op_6 ⟨Nat.le_of_ble_eq_true rfl, Nat.le_of_ble_eq_true rfl⟩ (fun q ce H locs hce hv hcl hP hD hS => ?_)
  have hP : va_P D vwCl (sm_wX cI x0 x1 x2 x3 V S M) H := hP.sub [0, 1, 2, 3] rfl
  have hD : va_D _ (sm_wX cI x0 x1 x2 x3 V S M) := hD.sub [0, 1, 2, 3] (by decide) rfl
  refine sm_catch2 (nm := sm_IA) (name := sm_IO) hown htab (Nat.le_of_ble_eq_true rfl) (Nat.le_of_ble_eq_true rfl) (by decide) (Nat.le_of_ble_eq_true rfl) (Nat.le_of_ble_eq_true rfl) (by decide) (hw 104 rfl) hN (hw 42 rfl) (sm_castX (n := 6) (hw 51 rfl)) hce hv hcl ?_
  refine lv_astore (lv' := [(5, .ref q), (0, .ref x0), (1, .int (nI o)), (2, .int (nI d)), (3, .int i), (4, .int b)]) hx hb dL_op_16 hl (by decide) rfl (fun ls hl => ?_)
  refine lv_iconst (v := 2) hx hb dL_op_18 (by decide) ?_
  refine W.widen (k := 1) (n := 6) (Nat.le_of_ble_eq_true rfl) (Nat.le_of_ble_eq_true rfl) ?_
  exact sm_iret hx hb hrt hlocks hS hP hD dL_op_19
set_option maxHeartbeats 4000000 in
set_option maxRecDepth 100000 in
theorem h_op_x3 (l : Launch) (hlt : l.stackTraces = false) (D : va_G) (cI : ClassId) (x0 x1 x2 x3 : Nat) (V S M : Nat → Int32) (o d a : Nat) (ho : o < 13) (hd : d < 16) (ha : a < 16) (i : Int32) (hi : i < 0 ∨ 16 ≤ i) : sm_CZ l yL_op wsL_op ({ frames := 9, cells := 1, slots := 6, locals := 240 } : Room) D vwCl [(cI, .int)] [.ref x0, .int (nI o), .int (nI d), .int (nI a), .int i] (sm_wX cI x0 x1 x2 x3 V S M) (some (.int 2)) (sm_wX cI x0 x1 x2 x3 V S M) := by
  refine sm_startZ (cc := cL_op) (maxL := 6) (ret := some .int) (lv := [(0, .ref x0), (1, .int (nI o)), (2, .int (nI d)), (3, .int (nI a)), (4, .int i)]) (hh := [(0, 9, 12, 19), (0, 9, 16, 13)]) (by decide) rfl (Nat.le_of_ble_eq_true rfl) rfl ?_
  intro p e s m below meth c hx hb hrt hts hown hlocks hml htab hZ hN hK hP hD hS hA ls hl
  have hw := sm_hw hts
  refine lv_aload_n hx hb dL_op_0 rfl (lv_at hl 0 rfl) ?_
  refine lv_iload_n hx hb dL_op_1 rfl (lv_at hl 1 rfl) ?_
  refine lv_iload_n hx hb dL_op_2 rfl (lv_at hl 2 rfl) ?_
  refine lv_iload_n hx hb dL_op_3 rfl (lv_at hl 3 rfl) ?_
  refine lv_iload hx hb dL_op_4 (lv_at hl 4 rfl) ?_
  refine sm_xV (C := RX0) (As := [.int (nI o), .int (nI d), .int (nI a), .int i]) (rest := []) (wr := []) ⟨hx, hb, hml, hown, hts⟩ (x_op3 l hlt D cI x0 x1 x2 x3 V S M o d a ho hd ha i hi) (cwV 4 hts (sm_gV (i1 := 105) (i2 := 106) (i3 := 107) (i4 := 1) (i5 := 108) rfl rfl rfl rfl rfl) rfl rfl rfl (by decide +kernel) ⟨Nat.le_of_ble_eq_true rfl, Nat.le_of_ble_eq_true rfl⟩) hK [0] rfl hZ hP hD hS hA 0 rfl rfl [0, 1, 2, 3] [] rfl rfl (by decide) (by decide) (by decide) rfl hl.1 rfl (Nat.le_of_ble_eq_true rfl) dL_op_6 ⟨Nat.le_of_ble_eq_true rfl, Nat.le_of_ble_eq_true rfl⟩ (fun q ce H locs hce hv hcl hP hD hS => ?_)
  have hP : va_P D vwCl (sm_wX cI x0 x1 x2 x3 V S M) H := hP.sub [0, 1, 2, 3] rfl
  have hD : va_D _ (sm_wX cI x0 x1 x2 x3 V S M) := hD.sub [0, 1, 2, 3] (by decide) rfl
  refine sm_catch2 (nm := sm_IA) (name := sm_IO) hown htab (Nat.le_of_ble_eq_true rfl) (Nat.le_of_ble_eq_true rfl) (by decide) (Nat.le_of_ble_eq_true rfl) (Nat.le_of_ble_eq_true rfl) (by decide) (hw 104 rfl) hN (hw 42 rfl) (sm_castX (n := 6) (hw 51 rfl)) hce hv hcl ?_
  refine lv_astore (lv' := [(5, .ref q), (0, .ref x0), (1, .int (nI o)), (2, .int (nI d)), (3, .int (nI a)), (4, .int i)]) hx hb dL_op_16 hl (by decide) rfl (fun ls hl => ?_)
  refine lv_iconst (v := 2) hx hb dL_op_18 (by decide) ?_
  refine W.widen (k := 1) (n := 6) (Nat.le_of_ble_eq_true rfl) (Nat.le_of_ble_eq_true rfl) ?_
  exact sm_iret hx hb hrt hlocks hS hP hD dL_op_19
set_option maxHeartbeats 4000000 in
set_option maxRecDepth 100000 in
theorem h_store_1 (l : Launch) (D : va_G) (cI : ClassId) (x0 x1 x2 x3 : Nat) (V S M : Nat → Int32) (r t : Nat) (hr : r < 16) (ht : t + 1 ≤ 256) : sm_CZ l yL_store wsL_store ({ frames := 9, cells := 1, slots := 6, locals := 240 } : Room) D vwCl [(cI, .int)] [.ref x0, .int (nI r), .int (nI t), .int 1] (sm_wX cI x0 x1 x2 x3 V S M) (some (.int 0)) (sm_wX cI x0 x1 x2 x3 V S (sm_fil M (sm_by (V r) (S r)) t 1)) := by
  refine sm_startZ (cc := cL_store) (maxL := 5) (ret := some .int) (lv := [(0, .ref x0), (1, .int (nI r)), (2, .int (nI t)), (3, .int 1)]) (hh := [(0, 7, 10, 19), (0, 7, 14, 13)]) (by decide) rfl (Nat.le_of_ble_eq_true rfl) rfl ?_
  intro p e s m below meth c hx hb hrt hts hown hlocks hml htab hZ hN hK hP hD hS hA ls hl
  have hw := sm_hw hts
  refine lv_aload_n hx hb dL_store_0 rfl (lv_at hl 0 rfl) ?_
  refine lv_iload_n hx hb dL_store_1 rfl (lv_at hl 1 rfl) ?_
  refine lv_iload_n hx hb dL_store_2 rfl (lv_at hl 2 rfl) ?_
  refine lv_iload_n hx hb dL_store_3 rfl (lv_at hl 3 rfl) ?_
  refine sm_callV (C := RX0) (As := [.int (nI r), .int (nI t), .int 1]) (rest := []) (wr := []) (wn := [] ++ (sm_wX cI x0 x1 x2 x3 V S (sm_fil M (sm_by (V r) (S r)) t 1))) (st1 := []) ⟨hx, hb, hml, hown, hts⟩ (c_store_1 l D cI x0 x1 x2 x3 V S M r t hr ht) (cwV 3 hts (sm_gV (i1 := 174) (i2 := 175) (i3 := 176) (i4 := 1) (i5 := 177) rfl rfl rfl rfl rfl) rfl rfl rfl (by decide +kernel) ⟨Nat.le_of_ble_eq_true rfl, Nat.le_of_ble_eq_true rfl⟩) hK [0] rfl hP hD hS hA 0 rfl rfl [0, 1, 2, 3] [] rfl rfl (by decide) (by decide) (by decide) rfl hl.1 rfl (Nat.le_of_ble_eq_true rfl) dL_store_4 ⟨Nat.le_of_ble_eq_true rfl, Nat.le_of_ble_eq_true rfl⟩ rfl rfl (fun H locs hP hD hS => ?_)
  have hP : va_P D vwCl (sm_wX cI x0 x1 x2 x3 V S (sm_fil M (sm_by (V r) (S r)) t 1)) H := hP.sub [0, 1, 2, 3] rfl
  have hD : va_D _ (sm_wX cI x0 x1 x2 x3 V S (sm_fil M (sm_by (V r) (S r)) t 1)) := hD.sub [0, 1, 2, 3] (by decide) rfl
  refine lv_goto (tgt := 18) hx hb dL_store_7 rfl ?_
  refine lv_iconst (v := 0) hx hb dL_store_18 (by decide) ?_
  refine W.widen (k := 1) (n := 6) (Nat.le_of_ble_eq_true rfl) (Nat.le_of_ble_eq_true rfl) ?_
  exact sm_iret hx hb hrt hlocks hS hP hD dL_store_19
set_option maxHeartbeats 4000000 in
set_option maxRecDepth 100000 in
theorem h_load_1_t (l : Launch) (D : va_G) (cI : ClassId) (x0 x1 x2 x3 : Nat) (V S M : Nat → Int32) (r t : Nat) (hr : r < 16) (ht : t + 1 ≤ 256) : sm_CZ l yL_load wsL_load ({ frames := 9, cells := 1, slots := 6, locals := 240 } : Room) D vwCl [(cI, .int)] [.ref x0, .int (nI r), .int (nI t), .int 1, .int (sm_bI true)] (sm_wX cI x0 x1 x2 x3 V S M) (some (.int 0)) (sm_wX cI x0 x1 x2 x3 (upd V r (((sm_lv (fun j => M (t + j) &&& 255) 1) <<< (nI 24 &&& 31)) >>> (nI 24 &&& 31))) (upd S r (((sm_lv (fun j => sm_ushr (M (t + j)) 8) 1) <<< (nI 24 &&& 31)) >>> (nI 24 &&& 31))) M) := by
  refine sm_startZ (cc := cL_load) (maxL := 6) (ret := some .int) (lv := [(0, .ref x0), (1, .int (nI r)), (2, .int (nI t)), (3, .int 1), (4, .int (sm_bI true))]) (hh := [(0, 9, 12, 19), (0, 9, 16, 13)]) (by decide) rfl (Nat.le_of_ble_eq_true rfl) rfl ?_
  intro p e s m below meth c hx hb hrt hts hown hlocks hml htab hZ hN hK hP hD hS hA ls hl
  have hw := sm_hw hts
  refine lv_aload_n hx hb dL_load_0 rfl (lv_at hl 0 rfl) ?_
  refine lv_iload_n hx hb dL_load_1 rfl (lv_at hl 1 rfl) ?_
  refine lv_iload_n hx hb dL_load_2 rfl (lv_at hl 2 rfl) ?_
  refine lv_iload_n hx hb dL_load_3 rfl (lv_at hl 3 rfl) ?_
  refine lv_iload hx hb dL_load_4 (lv_at hl 4 rfl) ?_
  refine sm_callV (C := RX0) (As := [.int (nI r), .int (nI t), .int 1, .int (sm_bI true)]) (rest := []) (wr := []) (wn := [] ++ (sm_wX cI x0 x1 x2 x3 (upd V r (((sm_lv (fun j => M (t + j) &&& 255) 1) <<< (nI 24 &&& 31)) >>> (nI 24 &&& 31))) (upd S r (((sm_lv (fun j => sm_ushr (M (t + j)) 8) 1) <<< (nI 24 &&& 31)) >>> (nI 24 &&& 31))) M)) (st1 := []) ⟨hx, hb, hml, hown, hts⟩ (c_load_1_t l D cI x0 x1 x2 x3 V S M r t hr ht) (cwV 4 hts (sm_gV (i1 := 184) (i2 := 185) (i3 := 186) (i4 := 1) (i5 := 187) rfl rfl rfl rfl rfl) rfl rfl rfl (by decide +kernel) ⟨Nat.le_of_ble_eq_true rfl, Nat.le_of_ble_eq_true rfl⟩) hK [0] rfl hP hD hS hA 0 rfl rfl [0, 1, 2, 3] [] rfl rfl (by decide) (by decide) (by decide) rfl hl.1 rfl (Nat.le_of_ble_eq_true rfl) dL_load_6 ⟨Nat.le_of_ble_eq_true rfl, Nat.le_of_ble_eq_true rfl⟩ rfl rfl (fun H locs hP hD hS => ?_)
  have hP : va_P D vwCl (sm_wX cI x0 x1 x2 x3 (upd V r (((sm_lv (fun j => M (t + j) &&& 255) 1) <<< (nI 24 &&& 31)) >>> (nI 24 &&& 31))) (upd S r (((sm_lv (fun j => sm_ushr (M (t + j)) 8) 1) <<< (nI 24 &&& 31)) >>> (nI 24 &&& 31))) M) H := hP.sub [0, 1, 2, 3] rfl
  have hD : va_D _ (sm_wX cI x0 x1 x2 x3 (upd V r (((sm_lv (fun j => M (t + j) &&& 255) 1) <<< (nI 24 &&& 31)) >>> (nI 24 &&& 31))) (upd S r (((sm_lv (fun j => sm_ushr (M (t + j)) 8) 1) <<< (nI 24 &&& 31)) >>> (nI 24 &&& 31))) M) := hD.sub [0, 1, 2, 3] (by decide) rfl
  refine lv_goto (tgt := 20) hx hb dL_load_9 rfl ?_
  refine lv_iconst (v := 0) hx hb dL_load_20 (by decide) ?_
  refine W.widen (k := 1) (n := 6) (Nat.le_of_ble_eq_true rfl) (Nat.le_of_ble_eq_true rfl) ?_
  exact sm_iret hx hb hrt hlocks hS hP hD dL_load_21
set_option maxHeartbeats 4000000 in
set_option maxRecDepth 100000 in
theorem h_load_1_f (l : Launch) (D : va_G) (cI : ClassId) (x0 x1 x2 x3 : Nat) (V S M : Nat → Int32) (r t : Nat) (hr : r < 16) (ht : t + 1 ≤ 256) : sm_CZ l yL_load wsL_load ({ frames := 9, cells := 1, slots := 6, locals := 240 } : Room) D vwCl [(cI, .int)] [.ref x0, .int (nI r), .int (nI t), .int 1, .int (sm_bI false)] (sm_wX cI x0 x1 x2 x3 V S M) (some (.int 0)) (sm_wX cI x0 x1 x2 x3 (upd V r (sm_ushr ((sm_lv (fun j => M (t + j) &&& 255) 1) <<< (nI 24 &&& 31)) (nI 24))) (upd S r (sm_ushr ((sm_lv (fun j => sm_ushr (M (t + j)) 8) 1) <<< (nI 24 &&& 31)) (nI 24))) M) := by
  refine sm_startZ (cc := cL_load) (maxL := 6) (ret := some .int) (lv := [(0, .ref x0), (1, .int (nI r)), (2, .int (nI t)), (3, .int 1), (4, .int (sm_bI false))]) (hh := [(0, 9, 12, 19), (0, 9, 16, 13)]) (by decide) rfl (Nat.le_of_ble_eq_true rfl) rfl ?_
  intro p e s m below meth c hx hb hrt hts hown hlocks hml htab hZ hN hK hP hD hS hA ls hl
  have hw := sm_hw hts
  refine lv_aload_n hx hb dL_load_0 rfl (lv_at hl 0 rfl) ?_
  refine lv_iload_n hx hb dL_load_1 rfl (lv_at hl 1 rfl) ?_
  refine lv_iload_n hx hb dL_load_2 rfl (lv_at hl 2 rfl) ?_
  refine lv_iload_n hx hb dL_load_3 rfl (lv_at hl 3 rfl) ?_
  refine lv_iload hx hb dL_load_4 (lv_at hl 4 rfl) ?_
  refine sm_callV (C := RX0) (As := [.int (nI r), .int (nI t), .int 1, .int (sm_bI false)]) (rest := []) (wr := []) (wn := [] ++ (sm_wX cI x0 x1 x2 x3 (upd V r (sm_ushr ((sm_lv (fun j => M (t + j) &&& 255) 1) <<< (nI 24 &&& 31)) (nI 24))) (upd S r (sm_ushr ((sm_lv (fun j => sm_ushr (M (t + j)) 8) 1) <<< (nI 24 &&& 31)) (nI 24))) M)) (st1 := []) ⟨hx, hb, hml, hown, hts⟩ (c_load_1_f l D cI x0 x1 x2 x3 V S M r t hr ht) (cwV 4 hts (sm_gV (i1 := 184) (i2 := 185) (i3 := 186) (i4 := 1) (i5 := 187) rfl rfl rfl rfl rfl) rfl rfl rfl (by decide +kernel) ⟨Nat.le_of_ble_eq_true rfl, Nat.le_of_ble_eq_true rfl⟩) hK [0] rfl hP hD hS hA 0 rfl rfl [0, 1, 2, 3] [] rfl rfl (by decide) (by decide) (by decide) rfl hl.1 rfl (Nat.le_of_ble_eq_true rfl) dL_load_6 ⟨Nat.le_of_ble_eq_true rfl, Nat.le_of_ble_eq_true rfl⟩ rfl rfl (fun H locs hP hD hS => ?_)
  have hP : va_P D vwCl (sm_wX cI x0 x1 x2 x3 (upd V r (sm_ushr ((sm_lv (fun j => M (t + j) &&& 255) 1) <<< (nI 24 &&& 31)) (nI 24))) (upd S r (sm_ushr ((sm_lv (fun j => sm_ushr (M (t + j)) 8) 1) <<< (nI 24 &&& 31)) (nI 24))) M) H := hP.sub [0, 1, 2, 3] rfl
  have hD : va_D _ (sm_wX cI x0 x1 x2 x3 (upd V r (sm_ushr ((sm_lv (fun j => M (t + j) &&& 255) 1) <<< (nI 24 &&& 31)) (nI 24))) (upd S r (sm_ushr ((sm_lv (fun j => sm_ushr (M (t + j)) 8) 1) <<< (nI 24 &&& 31)) (nI 24))) M) := hD.sub [0, 1, 2, 3] (by decide) rfl
  refine lv_goto (tgt := 20) hx hb dL_load_9 rfl ?_
  refine lv_iconst (v := 0) hx hb dL_load_20 (by decide) ?_
  refine W.widen (k := 1) (n := 6) (Nat.le_of_ble_eq_true rfl) (Nat.le_of_ble_eq_true rfl) ?_
  exact sm_iret hx hb hrt hlocks hS hP hD dL_load_21
set_option maxHeartbeats 4000000 in
set_option maxRecDepth 100000 in
theorem h_store_2 (l : Launch) (D : va_G) (cI : ClassId) (x0 x1 x2 x3 : Nat) (V S M : Nat → Int32) (r t : Nat) (hr : r < 16) (ht : t + 2 ≤ 256) : sm_CZ l yL_store wsL_store ({ frames := 9, cells := 1, slots := 6, locals := 240 } : Room) D vwCl [(cI, .int)] [.ref x0, .int (nI r), .int (nI t), .int 2] (sm_wX cI x0 x1 x2 x3 V S M) (some (.int 0)) (sm_wX cI x0 x1 x2 x3 V S (sm_fil M (sm_by (V r) (S r)) t 2)) := by
  refine sm_startZ (cc := cL_store) (maxL := 5) (ret := some .int) (lv := [(0, .ref x0), (1, .int (nI r)), (2, .int (nI t)), (3, .int 2)]) (hh := [(0, 7, 10, 19), (0, 7, 14, 13)]) (by decide) rfl (Nat.le_of_ble_eq_true rfl) rfl ?_
  intro p e s m below meth c hx hb hrt hts hown hlocks hml htab hZ hN hK hP hD hS hA ls hl
  have hw := sm_hw hts
  refine lv_aload_n hx hb dL_store_0 rfl (lv_at hl 0 rfl) ?_
  refine lv_iload_n hx hb dL_store_1 rfl (lv_at hl 1 rfl) ?_
  refine lv_iload_n hx hb dL_store_2 rfl (lv_at hl 2 rfl) ?_
  refine lv_iload_n hx hb dL_store_3 rfl (lv_at hl 3 rfl) ?_
  refine sm_callV (C := RX0) (As := [.int (nI r), .int (nI t), .int 2]) (rest := []) (wr := []) (wn := [] ++ (sm_wX cI x0 x1 x2 x3 V S (sm_fil M (sm_by (V r) (S r)) t 2))) (st1 := []) ⟨hx, hb, hml, hown, hts⟩ (c_store_2 l D cI x0 x1 x2 x3 V S M r t hr ht) (cwV 3 hts (sm_gV (i1 := 174) (i2 := 175) (i3 := 176) (i4 := 1) (i5 := 177) rfl rfl rfl rfl rfl) rfl rfl rfl (by decide +kernel) ⟨Nat.le_of_ble_eq_true rfl, Nat.le_of_ble_eq_true rfl⟩) hK [0] rfl hP hD hS hA 0 rfl rfl [0, 1, 2, 3] [] rfl rfl (by decide) (by decide) (by decide) rfl hl.1 rfl (Nat.le_of_ble_eq_true rfl) dL_store_4 ⟨Nat.le_of_ble_eq_true rfl, Nat.le_of_ble_eq_true rfl⟩ rfl rfl (fun H locs hP hD hS => ?_)
  have hP : va_P D vwCl (sm_wX cI x0 x1 x2 x3 V S (sm_fil M (sm_by (V r) (S r)) t 2)) H := hP.sub [0, 1, 2, 3] rfl
  have hD : va_D _ (sm_wX cI x0 x1 x2 x3 V S (sm_fil M (sm_by (V r) (S r)) t 2)) := hD.sub [0, 1, 2, 3] (by decide) rfl
  refine lv_goto (tgt := 18) hx hb dL_store_7 rfl ?_
  refine lv_iconst (v := 0) hx hb dL_store_18 (by decide) ?_
  refine W.widen (k := 1) (n := 6) (Nat.le_of_ble_eq_true rfl) (Nat.le_of_ble_eq_true rfl) ?_
  exact sm_iret hx hb hrt hlocks hS hP hD dL_store_19
set_option maxHeartbeats 4000000 in
set_option maxRecDepth 100000 in
theorem h_load_2_t (l : Launch) (D : va_G) (cI : ClassId) (x0 x1 x2 x3 : Nat) (V S M : Nat → Int32) (r t : Nat) (hr : r < 16) (ht : t + 2 ≤ 256) : sm_CZ l yL_load wsL_load ({ frames := 9, cells := 1, slots := 6, locals := 240 } : Room) D vwCl [(cI, .int)] [.ref x0, .int (nI r), .int (nI t), .int 2, .int (sm_bI true)] (sm_wX cI x0 x1 x2 x3 V S M) (some (.int 0)) (sm_wX cI x0 x1 x2 x3 (upd V r (((sm_lv (fun j => M (t + j) &&& 255) 2) <<< (nI 16 &&& 31)) >>> (nI 16 &&& 31))) (upd S r (((sm_lv (fun j => sm_ushr (M (t + j)) 8) 2) <<< (nI 16 &&& 31)) >>> (nI 16 &&& 31))) M) := by
  refine sm_startZ (cc := cL_load) (maxL := 6) (ret := some .int) (lv := [(0, .ref x0), (1, .int (nI r)), (2, .int (nI t)), (3, .int 2), (4, .int (sm_bI true))]) (hh := [(0, 9, 12, 19), (0, 9, 16, 13)]) (by decide) rfl (Nat.le_of_ble_eq_true rfl) rfl ?_
  intro p e s m below meth c hx hb hrt hts hown hlocks hml htab hZ hN hK hP hD hS hA ls hl
  have hw := sm_hw hts
  refine lv_aload_n hx hb dL_load_0 rfl (lv_at hl 0 rfl) ?_
  refine lv_iload_n hx hb dL_load_1 rfl (lv_at hl 1 rfl) ?_
  refine lv_iload_n hx hb dL_load_2 rfl (lv_at hl 2 rfl) ?_
  refine lv_iload_n hx hb dL_load_3 rfl (lv_at hl 3 rfl) ?_
  refine lv_iload hx hb dL_load_4 (lv_at hl 4 rfl) ?_
  refine sm_callV (C := RX0) (As := [.int (nI r), .int (nI t), .int 2, .int (sm_bI true)]) (rest := []) (wr := []) (wn := [] ++ (sm_wX cI x0 x1 x2 x3 (upd V r (((sm_lv (fun j => M (t + j) &&& 255) 2) <<< (nI 16 &&& 31)) >>> (nI 16 &&& 31))) (upd S r (((sm_lv (fun j => sm_ushr (M (t + j)) 8) 2) <<< (nI 16 &&& 31)) >>> (nI 16 &&& 31))) M)) (st1 := []) ⟨hx, hb, hml, hown, hts⟩ (c_load_2_t l D cI x0 x1 x2 x3 V S M r t hr ht) (cwV 4 hts (sm_gV (i1 := 184) (i2 := 185) (i3 := 186) (i4 := 1) (i5 := 187) rfl rfl rfl rfl rfl) rfl rfl rfl (by decide +kernel) ⟨Nat.le_of_ble_eq_true rfl, Nat.le_of_ble_eq_true rfl⟩) hK [0] rfl hP hD hS hA 0 rfl rfl [0, 1, 2, 3] [] rfl rfl (by decide) (by decide) (by decide) rfl hl.1 rfl (Nat.le_of_ble_eq_true rfl) dL_load_6 ⟨Nat.le_of_ble_eq_true rfl, Nat.le_of_ble_eq_true rfl⟩ rfl rfl (fun H locs hP hD hS => ?_)
  have hP : va_P D vwCl (sm_wX cI x0 x1 x2 x3 (upd V r (((sm_lv (fun j => M (t + j) &&& 255) 2) <<< (nI 16 &&& 31)) >>> (nI 16 &&& 31))) (upd S r (((sm_lv (fun j => sm_ushr (M (t + j)) 8) 2) <<< (nI 16 &&& 31)) >>> (nI 16 &&& 31))) M) H := hP.sub [0, 1, 2, 3] rfl
  have hD : va_D _ (sm_wX cI x0 x1 x2 x3 (upd V r (((sm_lv (fun j => M (t + j) &&& 255) 2) <<< (nI 16 &&& 31)) >>> (nI 16 &&& 31))) (upd S r (((sm_lv (fun j => sm_ushr (M (t + j)) 8) 2) <<< (nI 16 &&& 31)) >>> (nI 16 &&& 31))) M) := hD.sub [0, 1, 2, 3] (by decide) rfl
  refine lv_goto (tgt := 20) hx hb dL_load_9 rfl ?_
  refine lv_iconst (v := 0) hx hb dL_load_20 (by decide) ?_
  refine W.widen (k := 1) (n := 6) (Nat.le_of_ble_eq_true rfl) (Nat.le_of_ble_eq_true rfl) ?_
  exact sm_iret hx hb hrt hlocks hS hP hD dL_load_21
set_option maxHeartbeats 4000000 in
set_option maxRecDepth 100000 in
theorem h_load_2_f (l : Launch) (D : va_G) (cI : ClassId) (x0 x1 x2 x3 : Nat) (V S M : Nat → Int32) (r t : Nat) (hr : r < 16) (ht : t + 2 ≤ 256) : sm_CZ l yL_load wsL_load ({ frames := 9, cells := 1, slots := 6, locals := 240 } : Room) D vwCl [(cI, .int)] [.ref x0, .int (nI r), .int (nI t), .int 2, .int (sm_bI false)] (sm_wX cI x0 x1 x2 x3 V S M) (some (.int 0)) (sm_wX cI x0 x1 x2 x3 (upd V r (sm_ushr ((sm_lv (fun j => M (t + j) &&& 255) 2) <<< (nI 16 &&& 31)) (nI 16))) (upd S r (sm_ushr ((sm_lv (fun j => sm_ushr (M (t + j)) 8) 2) <<< (nI 16 &&& 31)) (nI 16))) M) := by
  refine sm_startZ (cc := cL_load) (maxL := 6) (ret := some .int) (lv := [(0, .ref x0), (1, .int (nI r)), (2, .int (nI t)), (3, .int 2), (4, .int (sm_bI false))]) (hh := [(0, 9, 12, 19), (0, 9, 16, 13)]) (by decide) rfl (Nat.le_of_ble_eq_true rfl) rfl ?_
  intro p e s m below meth c hx hb hrt hts hown hlocks hml htab hZ hN hK hP hD hS hA ls hl
  have hw := sm_hw hts
  refine lv_aload_n hx hb dL_load_0 rfl (lv_at hl 0 rfl) ?_
  refine lv_iload_n hx hb dL_load_1 rfl (lv_at hl 1 rfl) ?_
  refine lv_iload_n hx hb dL_load_2 rfl (lv_at hl 2 rfl) ?_
  refine lv_iload_n hx hb dL_load_3 rfl (lv_at hl 3 rfl) ?_
  refine lv_iload hx hb dL_load_4 (lv_at hl 4 rfl) ?_
  refine sm_callV (C := RX0) (As := [.int (nI r), .int (nI t), .int 2, .int (sm_bI false)]) (rest := []) (wr := []) (wn := [] ++ (sm_wX cI x0 x1 x2 x3 (upd V r (sm_ushr ((sm_lv (fun j => M (t + j) &&& 255) 2) <<< (nI 16 &&& 31)) (nI 16))) (upd S r (sm_ushr ((sm_lv (fun j => sm_ushr (M (t + j)) 8) 2) <<< (nI 16 &&& 31)) (nI 16))) M)) (st1 := []) ⟨hx, hb, hml, hown, hts⟩ (c_load_2_f l D cI x0 x1 x2 x3 V S M r t hr ht) (cwV 4 hts (sm_gV (i1 := 184) (i2 := 185) (i3 := 186) (i4 := 1) (i5 := 187) rfl rfl rfl rfl rfl) rfl rfl rfl (by decide +kernel) ⟨Nat.le_of_ble_eq_true rfl, Nat.le_of_ble_eq_true rfl⟩) hK [0] rfl hP hD hS hA 0 rfl rfl [0, 1, 2, 3] [] rfl rfl (by decide) (by decide) (by decide) rfl hl.1 rfl (Nat.le_of_ble_eq_true rfl) dL_load_6 ⟨Nat.le_of_ble_eq_true rfl, Nat.le_of_ble_eq_true rfl⟩ rfl rfl (fun H locs hP hD hS => ?_)
  have hP : va_P D vwCl (sm_wX cI x0 x1 x2 x3 (upd V r (sm_ushr ((sm_lv (fun j => M (t + j) &&& 255) 2) <<< (nI 16 &&& 31)) (nI 16))) (upd S r (sm_ushr ((sm_lv (fun j => sm_ushr (M (t + j)) 8) 2) <<< (nI 16 &&& 31)) (nI 16))) M) H := hP.sub [0, 1, 2, 3] rfl
  have hD : va_D _ (sm_wX cI x0 x1 x2 x3 (upd V r (sm_ushr ((sm_lv (fun j => M (t + j) &&& 255) 2) <<< (nI 16 &&& 31)) (nI 16))) (upd S r (sm_ushr ((sm_lv (fun j => sm_ushr (M (t + j)) 8) 2) <<< (nI 16 &&& 31)) (nI 16))) M) := hD.sub [0, 1, 2, 3] (by decide) rfl
  refine lv_goto (tgt := 20) hx hb dL_load_9 rfl ?_
  refine lv_iconst (v := 0) hx hb dL_load_20 (by decide) ?_
  refine W.widen (k := 1) (n := 6) (Nat.le_of_ble_eq_true rfl) (Nat.le_of_ble_eq_true rfl) ?_
  exact sm_iret hx hb hrt hlocks hS hP hD dL_load_21
set_option maxHeartbeats 4000000 in
set_option maxRecDepth 100000 in
theorem h_store_4 (l : Launch) (D : va_G) (cI : ClassId) (x0 x1 x2 x3 : Nat) (V S M : Nat → Int32) (r t : Nat) (hr : r < 16) (ht : t + 4 ≤ 256) : sm_CZ l yL_store wsL_store ({ frames := 9, cells := 1, slots := 6, locals := 240 } : Room) D vwCl [(cI, .int)] [.ref x0, .int (nI r), .int (nI t), .int 4] (sm_wX cI x0 x1 x2 x3 V S M) (some (.int 0)) (sm_wX cI x0 x1 x2 x3 V S (sm_fil M (sm_by (V r) (S r)) t 4)) := by
  refine sm_startZ (cc := cL_store) (maxL := 5) (ret := some .int) (lv := [(0, .ref x0), (1, .int (nI r)), (2, .int (nI t)), (3, .int 4)]) (hh := [(0, 7, 10, 19), (0, 7, 14, 13)]) (by decide) rfl (Nat.le_of_ble_eq_true rfl) rfl ?_
  intro p e s m below meth c hx hb hrt hts hown hlocks hml htab hZ hN hK hP hD hS hA ls hl
  have hw := sm_hw hts
  refine lv_aload_n hx hb dL_store_0 rfl (lv_at hl 0 rfl) ?_
  refine lv_iload_n hx hb dL_store_1 rfl (lv_at hl 1 rfl) ?_
  refine lv_iload_n hx hb dL_store_2 rfl (lv_at hl 2 rfl) ?_
  refine lv_iload_n hx hb dL_store_3 rfl (lv_at hl 3 rfl) ?_
  refine sm_callV (C := RX0) (As := [.int (nI r), .int (nI t), .int 4]) (rest := []) (wr := []) (wn := [] ++ (sm_wX cI x0 x1 x2 x3 V S (sm_fil M (sm_by (V r) (S r)) t 4))) (st1 := []) ⟨hx, hb, hml, hown, hts⟩ (c_store_4 l D cI x0 x1 x2 x3 V S M r t hr ht) (cwV 3 hts (sm_gV (i1 := 174) (i2 := 175) (i3 := 176) (i4 := 1) (i5 := 177) rfl rfl rfl rfl rfl) rfl rfl rfl (by decide +kernel) ⟨Nat.le_of_ble_eq_true rfl, Nat.le_of_ble_eq_true rfl⟩) hK [0] rfl hP hD hS hA 0 rfl rfl [0, 1, 2, 3] [] rfl rfl (by decide) (by decide) (by decide) rfl hl.1 rfl (Nat.le_of_ble_eq_true rfl) dL_store_4 ⟨Nat.le_of_ble_eq_true rfl, Nat.le_of_ble_eq_true rfl⟩ rfl rfl (fun H locs hP hD hS => ?_)
  have hP : va_P D vwCl (sm_wX cI x0 x1 x2 x3 V S (sm_fil M (sm_by (V r) (S r)) t 4)) H := hP.sub [0, 1, 2, 3] rfl
  have hD : va_D _ (sm_wX cI x0 x1 x2 x3 V S (sm_fil M (sm_by (V r) (S r)) t 4)) := hD.sub [0, 1, 2, 3] (by decide) rfl
  refine lv_goto (tgt := 18) hx hb dL_store_7 rfl ?_
  refine lv_iconst (v := 0) hx hb dL_store_18 (by decide) ?_
  refine W.widen (k := 1) (n := 6) (Nat.le_of_ble_eq_true rfl) (Nat.le_of_ble_eq_true rfl) ?_
  exact sm_iret hx hb hrt hlocks hS hP hD dL_store_19
set_option maxHeartbeats 4000000 in
set_option maxRecDepth 100000 in
theorem h_load_4_t (l : Launch) (D : va_G) (cI : ClassId) (x0 x1 x2 x3 : Nat) (V S M : Nat → Int32) (r t : Nat) (hr : r < 16) (ht : t + 4 ≤ 256) : sm_CZ l yL_load wsL_load ({ frames := 9, cells := 1, slots := 6, locals := 240 } : Room) D vwCl [(cI, .int)] [.ref x0, .int (nI r), .int (nI t), .int 4, .int (sm_bI true)] (sm_wX cI x0 x1 x2 x3 V S M) (some (.int 0)) (sm_wX cI x0 x1 x2 x3 (upd V r (((sm_lv (fun j => M (t + j) &&& 255) 4) <<< (nI 0 &&& 31)) >>> (nI 0 &&& 31))) (upd S r (((sm_lv (fun j => sm_ushr (M (t + j)) 8) 4) <<< (nI 0 &&& 31)) >>> (nI 0 &&& 31))) M) := by
  refine sm_startZ (cc := cL_load) (maxL := 6) (ret := some .int) (lv := [(0, .ref x0), (1, .int (nI r)), (2, .int (nI t)), (3, .int 4), (4, .int (sm_bI true))]) (hh := [(0, 9, 12, 19), (0, 9, 16, 13)]) (by decide) rfl (Nat.le_of_ble_eq_true rfl) rfl ?_
  intro p e s m below meth c hx hb hrt hts hown hlocks hml htab hZ hN hK hP hD hS hA ls hl
  have hw := sm_hw hts
  refine lv_aload_n hx hb dL_load_0 rfl (lv_at hl 0 rfl) ?_
  refine lv_iload_n hx hb dL_load_1 rfl (lv_at hl 1 rfl) ?_
  refine lv_iload_n hx hb dL_load_2 rfl (lv_at hl 2 rfl) ?_
  refine lv_iload_n hx hb dL_load_3 rfl (lv_at hl 3 rfl) ?_
  refine lv_iload hx hb dL_load_4 (lv_at hl 4 rfl) ?_
  refine sm_callV (C := RX0) (As := [.int (nI r), .int (nI t), .int 4, .int (sm_bI true)]) (rest := []) (wr := []) (wn := [] ++ (sm_wX cI x0 x1 x2 x3 (upd V r (((sm_lv (fun j => M (t + j) &&& 255) 4) <<< (nI 0 &&& 31)) >>> (nI 0 &&& 31))) (upd S r (((sm_lv (fun j => sm_ushr (M (t + j)) 8) 4) <<< (nI 0 &&& 31)) >>> (nI 0 &&& 31))) M)) (st1 := []) ⟨hx, hb, hml, hown, hts⟩ (c_load_4_t l D cI x0 x1 x2 x3 V S M r t hr ht) (cwV 4 hts (sm_gV (i1 := 184) (i2 := 185) (i3 := 186) (i4 := 1) (i5 := 187) rfl rfl rfl rfl rfl) rfl rfl rfl (by decide +kernel) ⟨Nat.le_of_ble_eq_true rfl, Nat.le_of_ble_eq_true rfl⟩) hK [0] rfl hP hD hS hA 0 rfl rfl [0, 1, 2, 3] [] rfl rfl (by decide) (by decide) (by decide) rfl hl.1 rfl (Nat.le_of_ble_eq_true rfl) dL_load_6 ⟨Nat.le_of_ble_eq_true rfl, Nat.le_of_ble_eq_true rfl⟩ rfl rfl (fun H locs hP hD hS => ?_)
  have hP : va_P D vwCl (sm_wX cI x0 x1 x2 x3 (upd V r (((sm_lv (fun j => M (t + j) &&& 255) 4) <<< (nI 0 &&& 31)) >>> (nI 0 &&& 31))) (upd S r (((sm_lv (fun j => sm_ushr (M (t + j)) 8) 4) <<< (nI 0 &&& 31)) >>> (nI 0 &&& 31))) M) H := hP.sub [0, 1, 2, 3] rfl
  have hD : va_D _ (sm_wX cI x0 x1 x2 x3 (upd V r (((sm_lv (fun j => M (t + j) &&& 255) 4) <<< (nI 0 &&& 31)) >>> (nI 0 &&& 31))) (upd S r (((sm_lv (fun j => sm_ushr (M (t + j)) 8) 4) <<< (nI 0 &&& 31)) >>> (nI 0 &&& 31))) M) := hD.sub [0, 1, 2, 3] (by decide) rfl
  refine lv_goto (tgt := 20) hx hb dL_load_9 rfl ?_
  refine lv_iconst (v := 0) hx hb dL_load_20 (by decide) ?_
  refine W.widen (k := 1) (n := 6) (Nat.le_of_ble_eq_true rfl) (Nat.le_of_ble_eq_true rfl) ?_
  exact sm_iret hx hb hrt hlocks hS hP hD dL_load_21
set_option maxHeartbeats 4000000 in
set_option maxRecDepth 100000 in
theorem h_load_4_f (l : Launch) (D : va_G) (cI : ClassId) (x0 x1 x2 x3 : Nat) (V S M : Nat → Int32) (r t : Nat) (hr : r < 16) (ht : t + 4 ≤ 256) : sm_CZ l yL_load wsL_load ({ frames := 9, cells := 1, slots := 6, locals := 240 } : Room) D vwCl [(cI, .int)] [.ref x0, .int (nI r), .int (nI t), .int 4, .int (sm_bI false)] (sm_wX cI x0 x1 x2 x3 V S M) (some (.int 0)) (sm_wX cI x0 x1 x2 x3 (upd V r (sm_ushr ((sm_lv (fun j => M (t + j) &&& 255) 4) <<< (nI 0 &&& 31)) (nI 0))) (upd S r (sm_ushr ((sm_lv (fun j => sm_ushr (M (t + j)) 8) 4) <<< (nI 0 &&& 31)) (nI 0))) M) := by
  refine sm_startZ (cc := cL_load) (maxL := 6) (ret := some .int) (lv := [(0, .ref x0), (1, .int (nI r)), (2, .int (nI t)), (3, .int 4), (4, .int (sm_bI false))]) (hh := [(0, 9, 12, 19), (0, 9, 16, 13)]) (by decide) rfl (Nat.le_of_ble_eq_true rfl) rfl ?_
  intro p e s m below meth c hx hb hrt hts hown hlocks hml htab hZ hN hK hP hD hS hA ls hl
  have hw := sm_hw hts
  refine lv_aload_n hx hb dL_load_0 rfl (lv_at hl 0 rfl) ?_
  refine lv_iload_n hx hb dL_load_1 rfl (lv_at hl 1 rfl) ?_
  refine lv_iload_n hx hb dL_load_2 rfl (lv_at hl 2 rfl) ?_
  refine lv_iload_n hx hb dL_load_3 rfl (lv_at hl 3 rfl) ?_
  refine lv_iload hx hb dL_load_4 (lv_at hl 4 rfl) ?_
  refine sm_callV (C := RX0) (As := [.int (nI r), .int (nI t), .int 4, .int (sm_bI false)]) (rest := []) (wr := []) (wn := [] ++ (sm_wX cI x0 x1 x2 x3 (upd V r (sm_ushr ((sm_lv (fun j => M (t + j) &&& 255) 4) <<< (nI 0 &&& 31)) (nI 0))) (upd S r (sm_ushr ((sm_lv (fun j => sm_ushr (M (t + j)) 8) 4) <<< (nI 0 &&& 31)) (nI 0))) M)) (st1 := []) ⟨hx, hb, hml, hown, hts⟩ (c_load_4_f l D cI x0 x1 x2 x3 V S M r t hr ht) (cwV 4 hts (sm_gV (i1 := 184) (i2 := 185) (i3 := 186) (i4 := 1) (i5 := 187) rfl rfl rfl rfl rfl) rfl rfl rfl (by decide +kernel) ⟨Nat.le_of_ble_eq_true rfl, Nat.le_of_ble_eq_true rfl⟩) hK [0] rfl hP hD hS hA 0 rfl rfl [0, 1, 2, 3] [] rfl rfl (by decide) (by decide) (by decide) rfl hl.1 rfl (Nat.le_of_ble_eq_true rfl) dL_load_6 ⟨Nat.le_of_ble_eq_true rfl, Nat.le_of_ble_eq_true rfl⟩ rfl rfl (fun H locs hP hD hS => ?_)
  have hP : va_P D vwCl (sm_wX cI x0 x1 x2 x3 (upd V r (sm_ushr ((sm_lv (fun j => M (t + j) &&& 255) 4) <<< (nI 0 &&& 31)) (nI 0))) (upd S r (sm_ushr ((sm_lv (fun j => sm_ushr (M (t + j)) 8) 4) <<< (nI 0 &&& 31)) (nI 0))) M) H := hP.sub [0, 1, 2, 3] rfl
  have hD : va_D _ (sm_wX cI x0 x1 x2 x3 (upd V r (sm_ushr ((sm_lv (fun j => M (t + j) &&& 255) 4) <<< (nI 0 &&& 31)) (nI 0))) (upd S r (sm_ushr ((sm_lv (fun j => sm_ushr (M (t + j)) 8) 4) <<< (nI 0 &&& 31)) (nI 0))) M) := hD.sub [0, 1, 2, 3] (by decide) rfl
  refine lv_goto (tgt := 20) hx hb dL_load_9 rfl ?_
  refine lv_iconst (v := 0) hx hb dL_load_20 (by decide) ?_
  refine W.widen (k := 1) (n := 6) (Nat.le_of_ble_eq_true rfl) (Nat.le_of_ble_eq_true rfl) ?_
  exact sm_iret hx hb hrt hlocks hS hP hD dL_load_21
set_option maxHeartbeats 4000000 in
set_option maxRecDepth 100000 in
theorem h_store_x0 (l : Launch) (hlt : l.stackTraces = false) (D : va_G) (cI : ClassId) (x0 x1 x2 x3 : Nat) (V S M : Nat → Int32) (r t n : Int32) (h1' : ¬ n = 1) (h2' : ¬ n = 2) (h4' : ¬ n = 4) : sm_CZ l yL_store wsL_store ({ frames := 9, cells := 1, slots := 6, locals := 240 } : Room) D vwCl [(cI, .int)] [.ref x0, .int r, .int t, .int n] (sm_wX cI x0 x1 x2 x3 V S M) (some (.int 1)) (sm_wX cI x0 x1 x2 x3 V S M) := by
  refine sm_startZ (cc := cL_store) (maxL := 5) (ret := some .int) (lv := [(0, .ref x0), (1, .int r), (2, .int t), (3, .int n)]) (hh := [(0, 7, 10, 19), (0, 7, 14, 13)]) (by decide) rfl (Nat.le_of_ble_eq_true rfl) rfl ?_
  intro p e s m below meth c hx hb hrt hts hown hlocks hml htab hZ hN hK hP hD hS hA ls hl
  have hw := sm_hw hts
  refine lv_aload_n hx hb dL_store_0 rfl (lv_at hl 0 rfl) ?_
  refine lv_iload_n hx hb dL_store_1 rfl (lv_at hl 1 rfl) ?_
  refine lv_iload_n hx hb dL_store_2 rfl (lv_at hl 2 rfl) ?_
  refine lv_iload_n hx hb dL_store_3 rfl (lv_at hl 3 rfl) ?_
  refine sm_xV (C := RX0) (As := [.int r, .int t, .int n]) (rest := []) (wr := []) ⟨hx, hb, hml, hown, hts⟩ (x_store0 l hlt D cI x0 x1 x2 x3 V S M r t n h1' h2' h4') (cwV 3 hts (sm_gV (i1 := 174) (i2 := 175) (i3 := 176) (i4 := 1) (i5 := 177) rfl rfl rfl rfl rfl) rfl rfl rfl (by decide +kernel) ⟨Nat.le_of_ble_eq_true rfl, Nat.le_of_ble_eq_true rfl⟩) hK [0] rfl hZ hP hD hS hA 0 rfl rfl [0, 1, 2, 3] [] rfl rfl (by decide) (by decide) (by decide) rfl hl.1 rfl (Nat.le_of_ble_eq_true rfl) dL_store_4 ⟨Nat.le_of_ble_eq_true rfl, Nat.le_of_ble_eq_true rfl⟩ (fun q ce H locs hce hv hcl hP hD hS => ?_)
  have hP : va_P D vwCl (sm_wX cI x0 x1 x2 x3 V S M) H := hP.sub [0, 1, 2, 3] rfl
  have hD : va_D _ (sm_wX cI x0 x1 x2 x3 V S M) := hD.sub [0, 1, 2, 3] (by decide) rfl
  refine sm_catch1 (name := sm_IA) hown htab (Nat.le_of_ble_eq_true rfl) (Nat.le_of_ble_eq_true rfl) (by decide) (hw 104 rfl) (sm_castX (n := 6) (hw 110 rfl)) hce hv hcl ?_
  refine lv_astore (lv' := [(4, .ref q), (0, .ref x0), (1, .int r), (2, .int t), (3, .int n)]) hx hb dL_store_10 hl (by decide) rfl (fun ls hl => ?_)
  refine lv_iconst (v := 1) hx hb dL_store_12 (by decide) ?_
  refine W.widen (k := 1) (n := 6) (Nat.le_of_ble_eq_true rfl) (Nat.le_of_ble_eq_true rfl) ?_
  exact sm_iret hx hb hrt hlocks hS hP hD dL_store_13
set_option maxHeartbeats 4000000 in
set_option maxRecDepth 100000 in
theorem h_store_x1_1 (l : Launch) (hlt : l.stackTraces = false) (D : va_G) (cI : ClassId) (x0 x1 x2 x3 : Nat) (V S M : Nat → Int32) (r i : Int32) (hi : i < 0 ∨ 255 < i) : sm_CZ l yL_store wsL_store ({ frames := 9, cells := 1, slots := 6, locals := 240 } : Room) D vwCl [(cI, .int)] [.ref x0, .int r, .int i, .int 1] (sm_wX cI x0 x1 x2 x3 V S M) (some (.int 2)) (sm_wX cI x0 x1 x2 x3 V S M) := by
  refine sm_startZ (cc := cL_store) (maxL := 5) (ret := some .int) (lv := [(0, .ref x0), (1, .int r), (2, .int i), (3, .int 1)]) (hh := [(0, 7, 10, 19), (0, 7, 14, 13)]) (by decide) rfl (Nat.le_of_ble_eq_true rfl) rfl ?_
  intro p e s m below meth c hx hb hrt hts hown hlocks hml htab hZ hN hK hP hD hS hA ls hl
  have hw := sm_hw hts
  refine lv_aload_n hx hb dL_store_0 rfl (lv_at hl 0 rfl) ?_
  refine lv_iload_n hx hb dL_store_1 rfl (lv_at hl 1 rfl) ?_
  refine lv_iload_n hx hb dL_store_2 rfl (lv_at hl 2 rfl) ?_
  refine lv_iload_n hx hb dL_store_3 rfl (lv_at hl 3 rfl) ?_
  refine sm_xV (C := RX0) (As := [.int r, .int i, .int 1]) (rest := []) (wr := []) ⟨hx, hb, hml, hown, hts⟩ (x_store1_1 l hlt D cI x0 x1 x2 x3 V S M r i hi) (cwV 3 hts (sm_gV (i1 := 174) (i2 := 175) (i3 := 176) (i4 := 1) (i5 := 177) rfl rfl rfl rfl rfl) rfl rfl rfl (by decide +kernel) ⟨Nat.le_of_ble_eq_true rfl, Nat.le_of_ble_eq_true rfl⟩) hK [0] rfl hZ hP hD hS hA 0 rfl rfl [0, 1, 2, 3] [] rfl rfl (by decide) (by decide) (by decide) rfl hl.1 rfl (Nat.le_of_ble_eq_true rfl) dL_store_4 ⟨Nat.le_of_ble_eq_true rfl, Nat.le_of_ble_eq_true rfl⟩ (fun q ce H locs hce hv hcl hP hD hS => ?_)
  have hP : va_P D vwCl (sm_wX cI x0 x1 x2 x3 V S M) H := hP.sub [0, 1, 2, 3] rfl
  have hD : va_D _ (sm_wX cI x0 x1 x2 x3 V S M) := hD.sub [0, 1, 2, 3] (by decide) rfl
  refine sm_catch2 (nm := sm_IA) (name := sm_IO) hown htab (Nat.le_of_ble_eq_true rfl) (Nat.le_of_ble_eq_true rfl) (by decide) (Nat.le_of_ble_eq_true rfl) (Nat.le_of_ble_eq_true rfl) (by decide) (hw 104 rfl) hN (hw 42 rfl) (sm_castX (n := 6) (hw 51 rfl)) hce hv hcl ?_
  refine lv_astore (lv' := [(4, .ref q), (0, .ref x0), (1, .int r), (2, .int i), (3, .int 1)]) hx hb dL_store_14 hl (by decide) rfl (fun ls hl => ?_)
  refine lv_iconst (v := 2) hx hb dL_store_16 (by decide) ?_
  refine W.widen (k := 1) (n := 6) (Nat.le_of_ble_eq_true rfl) (Nat.le_of_ble_eq_true rfl) ?_
  exact sm_iret hx hb hrt hlocks hS hP hD dL_store_17
set_option maxHeartbeats 4000000 in
set_option maxRecDepth 100000 in
theorem h_store_x2_1 (l : Launch) (hlt : l.stackTraces = false) (D : va_G) (cI : ClassId) (x0 x1 x2 x3 : Nat) (V S M : Nat → Int32) (t : Nat) (ht : t + 1 ≤ 256) (i : Int32) (hi : i < 0 ∨ 16 ≤ i) : sm_CZ l yL_store wsL_store ({ frames := 9, cells := 1, slots := 6, locals := 240 } : Room) D vwCl [(cI, .int)] [.ref x0, .int i, .int (nI t), .int 1] (sm_wX cI x0 x1 x2 x3 V S M) (some (.int 2)) (sm_wX cI x0 x1 x2 x3 V S M) := by
  refine sm_startZ (cc := cL_store) (maxL := 5) (ret := some .int) (lv := [(0, .ref x0), (1, .int i), (2, .int (nI t)), (3, .int 1)]) (hh := [(0, 7, 10, 19), (0, 7, 14, 13)]) (by decide) rfl (Nat.le_of_ble_eq_true rfl) rfl ?_
  intro p e s m below meth c hx hb hrt hts hown hlocks hml htab hZ hN hK hP hD hS hA ls hl
  have hw := sm_hw hts
  refine lv_aload_n hx hb dL_store_0 rfl (lv_at hl 0 rfl) ?_
  refine lv_iload_n hx hb dL_store_1 rfl (lv_at hl 1 rfl) ?_
  refine lv_iload_n hx hb dL_store_2 rfl (lv_at hl 2 rfl) ?_
  refine lv_iload_n hx hb dL_store_3 rfl (lv_at hl 3 rfl) ?_
  refine sm_xV (C := RX0) (As := [.int i, .int (nI t), .int 1]) (rest := []) (wr := []) ⟨hx, hb, hml, hown, hts⟩ (x_store2_1 l hlt D cI x0 x1 x2 x3 V S M t ht i hi) (cwV 3 hts (sm_gV (i1 := 174) (i2 := 175) (i3 := 176) (i4 := 1) (i5 := 177) rfl rfl rfl rfl rfl) rfl rfl rfl (by decide +kernel) ⟨Nat.le_of_ble_eq_true rfl, Nat.le_of_ble_eq_true rfl⟩) hK [0] rfl hZ hP hD hS hA 0 rfl rfl [0, 1, 2, 3] [] rfl rfl (by decide) (by decide) (by decide) rfl hl.1 rfl (Nat.le_of_ble_eq_true rfl) dL_store_4 ⟨Nat.le_of_ble_eq_true rfl, Nat.le_of_ble_eq_true rfl⟩ (fun q ce H locs hce hv hcl hP hD hS => ?_)
  have hP : va_P D vwCl (sm_wX cI x0 x1 x2 x3 V S M) H := hP.sub [0, 1, 2, 3] rfl
  have hD : va_D _ (sm_wX cI x0 x1 x2 x3 V S M) := hD.sub [0, 1, 2, 3] (by decide) rfl
  refine sm_catch2 (nm := sm_IA) (name := sm_IO) hown htab (Nat.le_of_ble_eq_true rfl) (Nat.le_of_ble_eq_true rfl) (by decide) (Nat.le_of_ble_eq_true rfl) (Nat.le_of_ble_eq_true rfl) (by decide) (hw 104 rfl) hN (hw 42 rfl) (sm_castX (n := 6) (hw 51 rfl)) hce hv hcl ?_
  refine lv_astore (lv' := [(4, .ref q), (0, .ref x0), (1, .int i), (2, .int (nI t)), (3, .int 1)]) hx hb dL_store_14 hl (by decide) rfl (fun ls hl => ?_)
  refine lv_iconst (v := 2) hx hb dL_store_16 (by decide) ?_
  refine W.widen (k := 1) (n := 6) (Nat.le_of_ble_eq_true rfl) (Nat.le_of_ble_eq_true rfl) ?_
  exact sm_iret hx hb hrt hlocks hS hP hD dL_store_17
set_option maxHeartbeats 4000000 in
set_option maxRecDepth 100000 in
theorem h_store_x1_2 (l : Launch) (hlt : l.stackTraces = false) (D : va_G) (cI : ClassId) (x0 x1 x2 x3 : Nat) (V S M : Nat → Int32) (r i : Int32) (hi : i < 0 ∨ 254 < i) : sm_CZ l yL_store wsL_store ({ frames := 9, cells := 1, slots := 6, locals := 240 } : Room) D vwCl [(cI, .int)] [.ref x0, .int r, .int i, .int 2] (sm_wX cI x0 x1 x2 x3 V S M) (some (.int 2)) (sm_wX cI x0 x1 x2 x3 V S M) := by
  refine sm_startZ (cc := cL_store) (maxL := 5) (ret := some .int) (lv := [(0, .ref x0), (1, .int r), (2, .int i), (3, .int 2)]) (hh := [(0, 7, 10, 19), (0, 7, 14, 13)]) (by decide) rfl (Nat.le_of_ble_eq_true rfl) rfl ?_
  intro p e s m below meth c hx hb hrt hts hown hlocks hml htab hZ hN hK hP hD hS hA ls hl
  have hw := sm_hw hts
  refine lv_aload_n hx hb dL_store_0 rfl (lv_at hl 0 rfl) ?_
  refine lv_iload_n hx hb dL_store_1 rfl (lv_at hl 1 rfl) ?_
  refine lv_iload_n hx hb dL_store_2 rfl (lv_at hl 2 rfl) ?_
  refine lv_iload_n hx hb dL_store_3 rfl (lv_at hl 3 rfl) ?_
  refine sm_xV (C := RX0) (As := [.int r, .int i, .int 2]) (rest := []) (wr := []) ⟨hx, hb, hml, hown, hts⟩ (x_store1_2 l hlt D cI x0 x1 x2 x3 V S M r i hi) (cwV 3 hts (sm_gV (i1 := 174) (i2 := 175) (i3 := 176) (i4 := 1) (i5 := 177) rfl rfl rfl rfl rfl) rfl rfl rfl (by decide +kernel) ⟨Nat.le_of_ble_eq_true rfl, Nat.le_of_ble_eq_true rfl⟩) hK [0] rfl hZ hP hD hS hA 0 rfl rfl [0, 1, 2, 3] [] rfl rfl (by decide) (by decide) (by decide) rfl hl.1 rfl (Nat.le_of_ble_eq_true rfl) dL_store_4 ⟨Nat.le_of_ble_eq_true rfl, Nat.le_of_ble_eq_true rfl⟩ (fun q ce H locs hce hv hcl hP hD hS => ?_)
  have hP : va_P D vwCl (sm_wX cI x0 x1 x2 x3 V S M) H := hP.sub [0, 1, 2, 3] rfl
  have hD : va_D _ (sm_wX cI x0 x1 x2 x3 V S M) := hD.sub [0, 1, 2, 3] (by decide) rfl
  refine sm_catch2 (nm := sm_IA) (name := sm_IO) hown htab (Nat.le_of_ble_eq_true rfl) (Nat.le_of_ble_eq_true rfl) (by decide) (Nat.le_of_ble_eq_true rfl) (Nat.le_of_ble_eq_true rfl) (by decide) (hw 104 rfl) hN (hw 42 rfl) (sm_castX (n := 6) (hw 51 rfl)) hce hv hcl ?_
  refine lv_astore (lv' := [(4, .ref q), (0, .ref x0), (1, .int r), (2, .int i), (3, .int 2)]) hx hb dL_store_14 hl (by decide) rfl (fun ls hl => ?_)
  refine lv_iconst (v := 2) hx hb dL_store_16 (by decide) ?_
  refine W.widen (k := 1) (n := 6) (Nat.le_of_ble_eq_true rfl) (Nat.le_of_ble_eq_true rfl) ?_
  exact sm_iret hx hb hrt hlocks hS hP hD dL_store_17
set_option maxHeartbeats 4000000 in
set_option maxRecDepth 100000 in
theorem h_store_x2_2 (l : Launch) (hlt : l.stackTraces = false) (D : va_G) (cI : ClassId) (x0 x1 x2 x3 : Nat) (V S M : Nat → Int32) (t : Nat) (ht : t + 2 ≤ 256) (i : Int32) (hi : i < 0 ∨ 16 ≤ i) : sm_CZ l yL_store wsL_store ({ frames := 9, cells := 1, slots := 6, locals := 240 } : Room) D vwCl [(cI, .int)] [.ref x0, .int i, .int (nI t), .int 2] (sm_wX cI x0 x1 x2 x3 V S M) (some (.int 2)) (sm_wX cI x0 x1 x2 x3 V S M) := by
  refine sm_startZ (cc := cL_store) (maxL := 5) (ret := some .int) (lv := [(0, .ref x0), (1, .int i), (2, .int (nI t)), (3, .int 2)]) (hh := [(0, 7, 10, 19), (0, 7, 14, 13)]) (by decide) rfl (Nat.le_of_ble_eq_true rfl) rfl ?_
  intro p e s m below meth c hx hb hrt hts hown hlocks hml htab hZ hN hK hP hD hS hA ls hl
  have hw := sm_hw hts
  refine lv_aload_n hx hb dL_store_0 rfl (lv_at hl 0 rfl) ?_
  refine lv_iload_n hx hb dL_store_1 rfl (lv_at hl 1 rfl) ?_
  refine lv_iload_n hx hb dL_store_2 rfl (lv_at hl 2 rfl) ?_
  refine lv_iload_n hx hb dL_store_3 rfl (lv_at hl 3 rfl) ?_
  refine sm_xV (C := RX0) (As := [.int i, .int (nI t), .int 2]) (rest := []) (wr := []) ⟨hx, hb, hml, hown, hts⟩ (x_store2_2 l hlt D cI x0 x1 x2 x3 V S M t ht i hi) (cwV 3 hts (sm_gV (i1 := 174) (i2 := 175) (i3 := 176) (i4 := 1) (i5 := 177) rfl rfl rfl rfl rfl) rfl rfl rfl (by decide +kernel) ⟨Nat.le_of_ble_eq_true rfl, Nat.le_of_ble_eq_true rfl⟩) hK [0] rfl hZ hP hD hS hA 0 rfl rfl [0, 1, 2, 3] [] rfl rfl (by decide) (by decide) (by decide) rfl hl.1 rfl (Nat.le_of_ble_eq_true rfl) dL_store_4 ⟨Nat.le_of_ble_eq_true rfl, Nat.le_of_ble_eq_true rfl⟩ (fun q ce H locs hce hv hcl hP hD hS => ?_)
  have hP : va_P D vwCl (sm_wX cI x0 x1 x2 x3 V S M) H := hP.sub [0, 1, 2, 3] rfl
  have hD : va_D _ (sm_wX cI x0 x1 x2 x3 V S M) := hD.sub [0, 1, 2, 3] (by decide) rfl
  refine sm_catch2 (nm := sm_IA) (name := sm_IO) hown htab (Nat.le_of_ble_eq_true rfl) (Nat.le_of_ble_eq_true rfl) (by decide) (Nat.le_of_ble_eq_true rfl) (Nat.le_of_ble_eq_true rfl) (by decide) (hw 104 rfl) hN (hw 42 rfl) (sm_castX (n := 6) (hw 51 rfl)) hce hv hcl ?_
  refine lv_astore (lv' := [(4, .ref q), (0, .ref x0), (1, .int i), (2, .int (nI t)), (3, .int 2)]) hx hb dL_store_14 hl (by decide) rfl (fun ls hl => ?_)
  refine lv_iconst (v := 2) hx hb dL_store_16 (by decide) ?_
  refine W.widen (k := 1) (n := 6) (Nat.le_of_ble_eq_true rfl) (Nat.le_of_ble_eq_true rfl) ?_
  exact sm_iret hx hb hrt hlocks hS hP hD dL_store_17
set_option maxHeartbeats 4000000 in
set_option maxRecDepth 100000 in
theorem h_store_x1_4 (l : Launch) (hlt : l.stackTraces = false) (D : va_G) (cI : ClassId) (x0 x1 x2 x3 : Nat) (V S M : Nat → Int32) (r i : Int32) (hi : i < 0 ∨ 252 < i) : sm_CZ l yL_store wsL_store ({ frames := 9, cells := 1, slots := 6, locals := 240 } : Room) D vwCl [(cI, .int)] [.ref x0, .int r, .int i, .int 4] (sm_wX cI x0 x1 x2 x3 V S M) (some (.int 2)) (sm_wX cI x0 x1 x2 x3 V S M) := by
  refine sm_startZ (cc := cL_store) (maxL := 5) (ret := some .int) (lv := [(0, .ref x0), (1, .int r), (2, .int i), (3, .int 4)]) (hh := [(0, 7, 10, 19), (0, 7, 14, 13)]) (by decide) rfl (Nat.le_of_ble_eq_true rfl) rfl ?_
  intro p e s m below meth c hx hb hrt hts hown hlocks hml htab hZ hN hK hP hD hS hA ls hl
  have hw := sm_hw hts
  refine lv_aload_n hx hb dL_store_0 rfl (lv_at hl 0 rfl) ?_
  refine lv_iload_n hx hb dL_store_1 rfl (lv_at hl 1 rfl) ?_
  refine lv_iload_n hx hb dL_store_2 rfl (lv_at hl 2 rfl) ?_
  refine lv_iload_n hx hb dL_store_3 rfl (lv_at hl 3 rfl) ?_
  refine sm_xV (C := RX0) (As := [.int r, .int i, .int 4]) (rest := []) (wr := []) ⟨hx, hb, hml, hown, hts⟩ (x_store1_4 l hlt D cI x0 x1 x2 x3 V S M r i hi) (cwV 3 hts (sm_gV (i1 := 174) (i2 := 175) (i3 := 176) (i4 := 1) (i5 := 177) rfl rfl rfl rfl rfl) rfl rfl rfl (by decide +kernel) ⟨Nat.le_of_ble_eq_true rfl, Nat.le_of_ble_eq_true rfl⟩) hK [0] rfl hZ hP hD hS hA 0 rfl rfl [0, 1, 2, 3] [] rfl rfl (by decide) (by decide) (by decide) rfl hl.1 rfl (Nat.le_of_ble_eq_true rfl) dL_store_4 ⟨Nat.le_of_ble_eq_true rfl, Nat.le_of_ble_eq_true rfl⟩ (fun q ce H locs hce hv hcl hP hD hS => ?_)
  have hP : va_P D vwCl (sm_wX cI x0 x1 x2 x3 V S M) H := hP.sub [0, 1, 2, 3] rfl
  have hD : va_D _ (sm_wX cI x0 x1 x2 x3 V S M) := hD.sub [0, 1, 2, 3] (by decide) rfl
  refine sm_catch2 (nm := sm_IA) (name := sm_IO) hown htab (Nat.le_of_ble_eq_true rfl) (Nat.le_of_ble_eq_true rfl) (by decide) (Nat.le_of_ble_eq_true rfl) (Nat.le_of_ble_eq_true rfl) (by decide) (hw 104 rfl) hN (hw 42 rfl) (sm_castX (n := 6) (hw 51 rfl)) hce hv hcl ?_
  refine lv_astore (lv' := [(4, .ref q), (0, .ref x0), (1, .int r), (2, .int i), (3, .int 4)]) hx hb dL_store_14 hl (by decide) rfl (fun ls hl => ?_)
  refine lv_iconst (v := 2) hx hb dL_store_16 (by decide) ?_
  refine W.widen (k := 1) (n := 6) (Nat.le_of_ble_eq_true rfl) (Nat.le_of_ble_eq_true rfl) ?_
  exact sm_iret hx hb hrt hlocks hS hP hD dL_store_17
set_option maxHeartbeats 4000000 in
set_option maxRecDepth 100000 in
theorem h_store_x2_4 (l : Launch) (hlt : l.stackTraces = false) (D : va_G) (cI : ClassId) (x0 x1 x2 x3 : Nat) (V S M : Nat → Int32) (t : Nat) (ht : t + 4 ≤ 256) (i : Int32) (hi : i < 0 ∨ 16 ≤ i) : sm_CZ l yL_store wsL_store ({ frames := 9, cells := 1, slots := 6, locals := 240 } : Room) D vwCl [(cI, .int)] [.ref x0, .int i, .int (nI t), .int 4] (sm_wX cI x0 x1 x2 x3 V S M) (some (.int 2)) (sm_wX cI x0 x1 x2 x3 V S M) := by
  refine sm_startZ (cc := cL_store) (maxL := 5) (ret := some .int) (lv := [(0, .ref x0), (1, .int i), (2, .int (nI t)), (3, .int 4)]) (hh := [(0, 7, 10, 19), (0, 7, 14, 13)]) (by decide) rfl (Nat.le_of_ble_eq_true rfl) rfl ?_
  intro p e s m below meth c hx hb hrt hts hown hlocks hml htab hZ hN hK hP hD hS hA ls hl
  have hw := sm_hw hts
  refine lv_aload_n hx hb dL_store_0 rfl (lv_at hl 0 rfl) ?_
  refine lv_iload_n hx hb dL_store_1 rfl (lv_at hl 1 rfl) ?_
  refine lv_iload_n hx hb dL_store_2 rfl (lv_at hl 2 rfl) ?_
  refine lv_iload_n hx hb dL_store_3 rfl (lv_at hl 3 rfl) ?_
  refine sm_xV (C := RX0) (As := [.int i, .int (nI t), .int 4]) (rest := []) (wr := []) ⟨hx, hb, hml, hown, hts⟩ (x_store2_4 l hlt D cI x0 x1 x2 x3 V S M t ht i hi) (cwV 3 hts (sm_gV (i1 := 174) (i2 := 175) (i3 := 176) (i4 := 1) (i5 := 177) rfl rfl rfl rfl rfl) rfl rfl rfl (by decide +kernel) ⟨Nat.le_of_ble_eq_true rfl, Nat.le_of_ble_eq_true rfl⟩) hK [0] rfl hZ hP hD hS hA 0 rfl rfl [0, 1, 2, 3] [] rfl rfl (by decide) (by decide) (by decide) rfl hl.1 rfl (Nat.le_of_ble_eq_true rfl) dL_store_4 ⟨Nat.le_of_ble_eq_true rfl, Nat.le_of_ble_eq_true rfl⟩ (fun q ce H locs hce hv hcl hP hD hS => ?_)
  have hP : va_P D vwCl (sm_wX cI x0 x1 x2 x3 V S M) H := hP.sub [0, 1, 2, 3] rfl
  have hD : va_D _ (sm_wX cI x0 x1 x2 x3 V S M) := hD.sub [0, 1, 2, 3] (by decide) rfl
  refine sm_catch2 (nm := sm_IA) (name := sm_IO) hown htab (Nat.le_of_ble_eq_true rfl) (Nat.le_of_ble_eq_true rfl) (by decide) (Nat.le_of_ble_eq_true rfl) (Nat.le_of_ble_eq_true rfl) (by decide) (hw 104 rfl) hN (hw 42 rfl) (sm_castX (n := 6) (hw 51 rfl)) hce hv hcl ?_
  refine lv_astore (lv' := [(4, .ref q), (0, .ref x0), (1, .int i), (2, .int (nI t)), (3, .int 4)]) hx hb dL_store_14 hl (by decide) rfl (fun ls hl => ?_)
  refine lv_iconst (v := 2) hx hb dL_store_16 (by decide) ?_
  refine W.widen (k := 1) (n := 6) (Nat.le_of_ble_eq_true rfl) (Nat.le_of_ble_eq_true rfl) ?_
  exact sm_iret hx hb hrt hlocks hS hP hD dL_store_17
set_option maxHeartbeats 4000000 in
set_option maxRecDepth 100000 in
theorem h_load_x0 (l : Launch) (hlt : l.stackTraces = false) (D : va_G) (cI : ClassId) (x0 x1 x2 x3 : Nat) (V S M : Nat → Int32) (r t n : Int32) (h1' : ¬ n = 1) (h2' : ¬ n = 2) (h4' : ¬ n = 4) (sg : Bool) : sm_CZ l yL_load wsL_load ({ frames := 9, cells := 1, slots := 6, locals := 240 } : Room) D vwCl [(cI, .int)] [.ref x0, .int r, .int t, .int n, .int (sm_bI sg)] (sm_wX cI x0 x1 x2 x3 V S M) (some (.int 1)) (sm_wX cI x0 x1 x2 x3 V S M) := by
  refine sm_startZ (cc := cL_load) (maxL := 6) (ret := some .int) (lv := [(0, .ref x0), (1, .int r), (2, .int t), (3, .int n), (4, .int (sm_bI sg))]) (hh := [(0, 9, 12, 19), (0, 9, 16, 13)]) (by decide) rfl (Nat.le_of_ble_eq_true rfl) rfl ?_
  intro p e s m below meth c hx hb hrt hts hown hlocks hml htab hZ hN hK hP hD hS hA ls hl
  have hw := sm_hw hts
  refine lv_aload_n hx hb dL_load_0 rfl (lv_at hl 0 rfl) ?_
  refine lv_iload_n hx hb dL_load_1 rfl (lv_at hl 1 rfl) ?_
  refine lv_iload_n hx hb dL_load_2 rfl (lv_at hl 2 rfl) ?_
  refine lv_iload_n hx hb dL_load_3 rfl (lv_at hl 3 rfl) ?_
  refine lv_iload hx hb dL_load_4 (lv_at hl 4 rfl) ?_
  refine sm_xV (C := RX0) (As := [.int r, .int t, .int n, .int (sm_bI sg)]) (rest := []) (wr := []) ⟨hx, hb, hml, hown, hts⟩ (x_load0 l hlt D cI x0 x1 x2 x3 V S M r t n h1' h2' h4' sg) (cwV 4 hts (sm_gV (i1 := 184) (i2 := 185) (i3 := 186) (i4 := 1) (i5 := 187) rfl rfl rfl rfl rfl) rfl rfl rfl (by decide +kernel) ⟨Nat.le_of_ble_eq_true rfl, Nat.le_of_ble_eq_true rfl⟩) hK [0] rfl hZ hP hD hS hA 0 rfl rfl [0, 1, 2, 3] [] rfl rfl (by decide) (by decide) (by decide) rfl hl.1 rfl (Nat.le_of_ble_eq_true rfl) dL_load_6 ⟨Nat.le_of_ble_eq_true rfl, Nat.le_of_ble_eq_true rfl⟩ (fun q ce H locs hce hv hcl hP hD hS => ?_)
  have hP : va_P D vwCl (sm_wX cI x0 x1 x2 x3 V S M) H := hP.sub [0, 1, 2, 3] rfl
  have hD : va_D _ (sm_wX cI x0 x1 x2 x3 V S M) := hD.sub [0, 1, 2, 3] (by decide) rfl
  refine sm_catch1 (name := sm_IA) hown htab (Nat.le_of_ble_eq_true rfl) (Nat.le_of_ble_eq_true rfl) (by decide) (hw 104 rfl) (sm_castX (n := 6) (hw 110 rfl)) hce hv hcl ?_
  refine lv_astore (lv' := [(5, .ref q), (0, .ref x0), (1, .int r), (2, .int t), (3, .int n), (4, .int (sm_bI sg))]) hx hb dL_load_12 hl (by decide) rfl (fun ls hl => ?_)
  refine lv_iconst (v := 1) hx hb dL_load_14 (by decide) ?_
  refine W.widen (k := 1) (n := 6) (Nat.le_of_ble_eq_true rfl) (Nat.le_of_ble_eq_true rfl) ?_
  exact sm_iret hx hb hrt hlocks hS hP hD dL_load_15
set_option maxHeartbeats 4000000 in
set_option maxRecDepth 100000 in
theorem h_load_x1_1 (l : Launch) (hlt : l.stackTraces = false) (D : va_G) (cI : ClassId) (x0 x1 x2 x3 : Nat) (V S M : Nat → Int32) (r i : Int32) (hi : i < 0 ∨ 255 < i) (sg : Bool) : sm_CZ l yL_load wsL_load ({ frames := 9, cells := 1, slots := 6, locals := 240 } : Room) D vwCl [(cI, .int)] [.ref x0, .int r, .int i, .int 1, .int (sm_bI sg)] (sm_wX cI x0 x1 x2 x3 V S M) (some (.int 2)) (sm_wX cI x0 x1 x2 x3 V S M) := by
  refine sm_startZ (cc := cL_load) (maxL := 6) (ret := some .int) (lv := [(0, .ref x0), (1, .int r), (2, .int i), (3, .int 1), (4, .int (sm_bI sg))]) (hh := [(0, 9, 12, 19), (0, 9, 16, 13)]) (by decide) rfl (Nat.le_of_ble_eq_true rfl) rfl ?_
  intro p e s m below meth c hx hb hrt hts hown hlocks hml htab hZ hN hK hP hD hS hA ls hl
  have hw := sm_hw hts
  refine lv_aload_n hx hb dL_load_0 rfl (lv_at hl 0 rfl) ?_
  refine lv_iload_n hx hb dL_load_1 rfl (lv_at hl 1 rfl) ?_
  refine lv_iload_n hx hb dL_load_2 rfl (lv_at hl 2 rfl) ?_
  refine lv_iload_n hx hb dL_load_3 rfl (lv_at hl 3 rfl) ?_
  refine lv_iload hx hb dL_load_4 (lv_at hl 4 rfl) ?_
  refine sm_xV (C := RX0) (As := [.int r, .int i, .int 1, .int (sm_bI sg)]) (rest := []) (wr := []) ⟨hx, hb, hml, hown, hts⟩ (x_load1_1 l hlt D cI x0 x1 x2 x3 V S M r i hi sg) (cwV 4 hts (sm_gV (i1 := 184) (i2 := 185) (i3 := 186) (i4 := 1) (i5 := 187) rfl rfl rfl rfl rfl) rfl rfl rfl (by decide +kernel) ⟨Nat.le_of_ble_eq_true rfl, Nat.le_of_ble_eq_true rfl⟩) hK [0] rfl hZ hP hD hS hA 0 rfl rfl [0, 1, 2, 3] [] rfl rfl (by decide) (by decide) (by decide) rfl hl.1 rfl (Nat.le_of_ble_eq_true rfl) dL_load_6 ⟨Nat.le_of_ble_eq_true rfl, Nat.le_of_ble_eq_true rfl⟩ (fun q ce H locs hce hv hcl hP hD hS => ?_)
  have hP : va_P D vwCl (sm_wX cI x0 x1 x2 x3 V S M) H := hP.sub [0, 1, 2, 3] rfl
  have hD : va_D _ (sm_wX cI x0 x1 x2 x3 V S M) := hD.sub [0, 1, 2, 3] (by decide) rfl
  refine sm_catch2 (nm := sm_IA) (name := sm_IO) hown htab (Nat.le_of_ble_eq_true rfl) (Nat.le_of_ble_eq_true rfl) (by decide) (Nat.le_of_ble_eq_true rfl) (Nat.le_of_ble_eq_true rfl) (by decide) (hw 104 rfl) hN (hw 42 rfl) (sm_castX (n := 6) (hw 51 rfl)) hce hv hcl ?_
  refine lv_astore (lv' := [(5, .ref q), (0, .ref x0), (1, .int r), (2, .int i), (3, .int 1), (4, .int (sm_bI sg))]) hx hb dL_load_16 hl (by decide) rfl (fun ls hl => ?_)
  refine lv_iconst (v := 2) hx hb dL_load_18 (by decide) ?_
  refine W.widen (k := 1) (n := 6) (Nat.le_of_ble_eq_true rfl) (Nat.le_of_ble_eq_true rfl) ?_
  exact sm_iret hx hb hrt hlocks hS hP hD dL_load_19
set_option maxHeartbeats 4000000 in
set_option maxRecDepth 100000 in
theorem h_load_x2_1 (l : Launch) (hlt : l.stackTraces = false) (D : va_G) (cI : ClassId) (x0 x1 x2 x3 : Nat) (V S M : Nat → Int32) (t : Nat) (ht : t + 1 ≤ 256) (i : Int32) (hi : i < 0 ∨ 16 ≤ i) (sg : Bool) : sm_CZ l yL_load wsL_load ({ frames := 9, cells := 1, slots := 6, locals := 240 } : Room) D vwCl [(cI, .int)] [.ref x0, .int i, .int (nI t), .int 1, .int (sm_bI sg)] (sm_wX cI x0 x1 x2 x3 V S M) (some (.int 2)) (sm_wX cI x0 x1 x2 x3 V S M) := by
  refine sm_startZ (cc := cL_load) (maxL := 6) (ret := some .int) (lv := [(0, .ref x0), (1, .int i), (2, .int (nI t)), (3, .int 1), (4, .int (sm_bI sg))]) (hh := [(0, 9, 12, 19), (0, 9, 16, 13)]) (by decide) rfl (Nat.le_of_ble_eq_true rfl) rfl ?_
  intro p e s m below meth c hx hb hrt hts hown hlocks hml htab hZ hN hK hP hD hS hA ls hl
  have hw := sm_hw hts
  refine lv_aload_n hx hb dL_load_0 rfl (lv_at hl 0 rfl) ?_
  refine lv_iload_n hx hb dL_load_1 rfl (lv_at hl 1 rfl) ?_
  refine lv_iload_n hx hb dL_load_2 rfl (lv_at hl 2 rfl) ?_
  refine lv_iload_n hx hb dL_load_3 rfl (lv_at hl 3 rfl) ?_
  refine lv_iload hx hb dL_load_4 (lv_at hl 4 rfl) ?_
  refine sm_xV (C := RX0) (As := [.int i, .int (nI t), .int 1, .int (sm_bI sg)]) (rest := []) (wr := []) ⟨hx, hb, hml, hown, hts⟩ (x_load2_1 l hlt D cI x0 x1 x2 x3 V S M t ht i hi sg) (cwV 4 hts (sm_gV (i1 := 184) (i2 := 185) (i3 := 186) (i4 := 1) (i5 := 187) rfl rfl rfl rfl rfl) rfl rfl rfl (by decide +kernel) ⟨Nat.le_of_ble_eq_true rfl, Nat.le_of_ble_eq_true rfl⟩) hK [0] rfl hZ hP hD hS hA 0 rfl rfl [0, 1, 2, 3] [] rfl rfl (by decide) (by decide) (by decide) rfl hl.1 rfl (Nat.le_of_ble_eq_true rfl) dL_load_6 ⟨Nat.le_of_ble_eq_true rfl, Nat.le_of_ble_eq_true rfl⟩ (fun q ce H locs hce hv hcl hP hD hS => ?_)
  have hP : va_P D vwCl (sm_wX cI x0 x1 x2 x3 V S M) H := hP.sub [0, 1, 2, 3] rfl
  have hD : va_D _ (sm_wX cI x0 x1 x2 x3 V S M) := hD.sub [0, 1, 2, 3] (by decide) rfl
  refine sm_catch2 (nm := sm_IA) (name := sm_IO) hown htab (Nat.le_of_ble_eq_true rfl) (Nat.le_of_ble_eq_true rfl) (by decide) (Nat.le_of_ble_eq_true rfl) (Nat.le_of_ble_eq_true rfl) (by decide) (hw 104 rfl) hN (hw 42 rfl) (sm_castX (n := 6) (hw 51 rfl)) hce hv hcl ?_
  refine lv_astore (lv' := [(5, .ref q), (0, .ref x0), (1, .int i), (2, .int (nI t)), (3, .int 1), (4, .int (sm_bI sg))]) hx hb dL_load_16 hl (by decide) rfl (fun ls hl => ?_)
  refine lv_iconst (v := 2) hx hb dL_load_18 (by decide) ?_
  refine W.widen (k := 1) (n := 6) (Nat.le_of_ble_eq_true rfl) (Nat.le_of_ble_eq_true rfl) ?_
  exact sm_iret hx hb hrt hlocks hS hP hD dL_load_19
set_option maxHeartbeats 4000000 in
set_option maxRecDepth 100000 in
theorem h_load_x1_2 (l : Launch) (hlt : l.stackTraces = false) (D : va_G) (cI : ClassId) (x0 x1 x2 x3 : Nat) (V S M : Nat → Int32) (r i : Int32) (hi : i < 0 ∨ 254 < i) (sg : Bool) : sm_CZ l yL_load wsL_load ({ frames := 9, cells := 1, slots := 6, locals := 240 } : Room) D vwCl [(cI, .int)] [.ref x0, .int r, .int i, .int 2, .int (sm_bI sg)] (sm_wX cI x0 x1 x2 x3 V S M) (some (.int 2)) (sm_wX cI x0 x1 x2 x3 V S M) := by
  refine sm_startZ (cc := cL_load) (maxL := 6) (ret := some .int) (lv := [(0, .ref x0), (1, .int r), (2, .int i), (3, .int 2), (4, .int (sm_bI sg))]) (hh := [(0, 9, 12, 19), (0, 9, 16, 13)]) (by decide) rfl (Nat.le_of_ble_eq_true rfl) rfl ?_
  intro p e s m below meth c hx hb hrt hts hown hlocks hml htab hZ hN hK hP hD hS hA ls hl
  have hw := sm_hw hts
  refine lv_aload_n hx hb dL_load_0 rfl (lv_at hl 0 rfl) ?_
  refine lv_iload_n hx hb dL_load_1 rfl (lv_at hl 1 rfl) ?_
  refine lv_iload_n hx hb dL_load_2 rfl (lv_at hl 2 rfl) ?_
  refine lv_iload_n hx hb dL_load_3 rfl (lv_at hl 3 rfl) ?_
  refine lv_iload hx hb dL_load_4 (lv_at hl 4 rfl) ?_
  refine sm_xV (C := RX0) (As := [.int r, .int i, .int 2, .int (sm_bI sg)]) (rest := []) (wr := []) ⟨hx, hb, hml, hown, hts⟩ (x_load1_2 l hlt D cI x0 x1 x2 x3 V S M r i hi sg) (cwV 4 hts (sm_gV (i1 := 184) (i2 := 185) (i3 := 186) (i4 := 1) (i5 := 187) rfl rfl rfl rfl rfl) rfl rfl rfl (by decide +kernel) ⟨Nat.le_of_ble_eq_true rfl, Nat.le_of_ble_eq_true rfl⟩) hK [0] rfl hZ hP hD hS hA 0 rfl rfl [0, 1, 2, 3] [] rfl rfl (by decide) (by decide) (by decide) rfl hl.1 rfl (Nat.le_of_ble_eq_true rfl) dL_load_6 ⟨Nat.le_of_ble_eq_true rfl, Nat.le_of_ble_eq_true rfl⟩ (fun q ce H locs hce hv hcl hP hD hS => ?_)
  have hP : va_P D vwCl (sm_wX cI x0 x1 x2 x3 V S M) H := hP.sub [0, 1, 2, 3] rfl
  have hD : va_D _ (sm_wX cI x0 x1 x2 x3 V S M) := hD.sub [0, 1, 2, 3] (by decide) rfl
  refine sm_catch2 (nm := sm_IA) (name := sm_IO) hown htab (Nat.le_of_ble_eq_true rfl) (Nat.le_of_ble_eq_true rfl) (by decide) (Nat.le_of_ble_eq_true rfl) (Nat.le_of_ble_eq_true rfl) (by decide) (hw 104 rfl) hN (hw 42 rfl) (sm_castX (n := 6) (hw 51 rfl)) hce hv hcl ?_
  refine lv_astore (lv' := [(5, .ref q), (0, .ref x0), (1, .int r), (2, .int i), (3, .int 2), (4, .int (sm_bI sg))]) hx hb dL_load_16 hl (by decide) rfl (fun ls hl => ?_)
  refine lv_iconst (v := 2) hx hb dL_load_18 (by decide) ?_
  refine W.widen (k := 1) (n := 6) (Nat.le_of_ble_eq_true rfl) (Nat.le_of_ble_eq_true rfl) ?_
  exact sm_iret hx hb hrt hlocks hS hP hD dL_load_19
set_option maxHeartbeats 4000000 in
set_option maxRecDepth 100000 in
theorem h_load_x2_2 (l : Launch) (hlt : l.stackTraces = false) (D : va_G) (cI : ClassId) (x0 x1 x2 x3 : Nat) (V S M : Nat → Int32) (t : Nat) (ht : t + 2 ≤ 256) (i : Int32) (hi : i < 0 ∨ 16 ≤ i) (sg : Bool) : sm_CZ l yL_load wsL_load ({ frames := 9, cells := 1, slots := 6, locals := 240 } : Room) D vwCl [(cI, .int)] [.ref x0, .int i, .int (nI t), .int 2, .int (sm_bI sg)] (sm_wX cI x0 x1 x2 x3 V S M) (some (.int 2)) (sm_wX cI x0 x1 x2 x3 V S M) := by
  refine sm_startZ (cc := cL_load) (maxL := 6) (ret := some .int) (lv := [(0, .ref x0), (1, .int i), (2, .int (nI t)), (3, .int 2), (4, .int (sm_bI sg))]) (hh := [(0, 9, 12, 19), (0, 9, 16, 13)]) (by decide) rfl (Nat.le_of_ble_eq_true rfl) rfl ?_
  intro p e s m below meth c hx hb hrt hts hown hlocks hml htab hZ hN hK hP hD hS hA ls hl
  have hw := sm_hw hts
  refine lv_aload_n hx hb dL_load_0 rfl (lv_at hl 0 rfl) ?_
  refine lv_iload_n hx hb dL_load_1 rfl (lv_at hl 1 rfl) ?_
  refine lv_iload_n hx hb dL_load_2 rfl (lv_at hl 2 rfl) ?_
  refine lv_iload_n hx hb dL_load_3 rfl (lv_at hl 3 rfl) ?_
  refine lv_iload hx hb dL_load_4 (lv_at hl 4 rfl) ?_
  refine sm_xV (C := RX0) (As := [.int i, .int (nI t), .int 2, .int (sm_bI sg)]) (rest := []) (wr := []) ⟨hx, hb, hml, hown, hts⟩ (x_load2_2 l hlt D cI x0 x1 x2 x3 V S M t ht i hi sg) (cwV 4 hts (sm_gV (i1 := 184) (i2 := 185) (i3 := 186) (i4 := 1) (i5 := 187) rfl rfl rfl rfl rfl) rfl rfl rfl (by decide +kernel) ⟨Nat.le_of_ble_eq_true rfl, Nat.le_of_ble_eq_true rfl⟩) hK [0] rfl hZ hP hD hS hA 0 rfl rfl [0, 1, 2, 3] [] rfl rfl (by decide) (by decide) (by decide) rfl hl.1 rfl (Nat.le_of_ble_eq_true rfl) dL_load_6 ⟨Nat.le_of_ble_eq_true rfl, Nat.le_of_ble_eq_true rfl⟩ (fun q ce H locs hce hv hcl hP hD hS => ?_)
  have hP : va_P D vwCl (sm_wX cI x0 x1 x2 x3 V S M) H := hP.sub [0, 1, 2, 3] rfl
  have hD : va_D _ (sm_wX cI x0 x1 x2 x3 V S M) := hD.sub [0, 1, 2, 3] (by decide) rfl
  refine sm_catch2 (nm := sm_IA) (name := sm_IO) hown htab (Nat.le_of_ble_eq_true rfl) (Nat.le_of_ble_eq_true rfl) (by decide) (Nat.le_of_ble_eq_true rfl) (Nat.le_of_ble_eq_true rfl) (by decide) (hw 104 rfl) hN (hw 42 rfl) (sm_castX (n := 6) (hw 51 rfl)) hce hv hcl ?_
  refine lv_astore (lv' := [(5, .ref q), (0, .ref x0), (1, .int i), (2, .int (nI t)), (3, .int 2), (4, .int (sm_bI sg))]) hx hb dL_load_16 hl (by decide) rfl (fun ls hl => ?_)
  refine lv_iconst (v := 2) hx hb dL_load_18 (by decide) ?_
  refine W.widen (k := 1) (n := 6) (Nat.le_of_ble_eq_true rfl) (Nat.le_of_ble_eq_true rfl) ?_
  exact sm_iret hx hb hrt hlocks hS hP hD dL_load_19
set_option maxHeartbeats 4000000 in
set_option maxRecDepth 100000 in
theorem h_load_x1_4 (l : Launch) (hlt : l.stackTraces = false) (D : va_G) (cI : ClassId) (x0 x1 x2 x3 : Nat) (V S M : Nat → Int32) (r i : Int32) (hi : i < 0 ∨ 252 < i) (sg : Bool) : sm_CZ l yL_load wsL_load ({ frames := 9, cells := 1, slots := 6, locals := 240 } : Room) D vwCl [(cI, .int)] [.ref x0, .int r, .int i, .int 4, .int (sm_bI sg)] (sm_wX cI x0 x1 x2 x3 V S M) (some (.int 2)) (sm_wX cI x0 x1 x2 x3 V S M) := by
  refine sm_startZ (cc := cL_load) (maxL := 6) (ret := some .int) (lv := [(0, .ref x0), (1, .int r), (2, .int i), (3, .int 4), (4, .int (sm_bI sg))]) (hh := [(0, 9, 12, 19), (0, 9, 16, 13)]) (by decide) rfl (Nat.le_of_ble_eq_true rfl) rfl ?_
  intro p e s m below meth c hx hb hrt hts hown hlocks hml htab hZ hN hK hP hD hS hA ls hl
  have hw := sm_hw hts
  refine lv_aload_n hx hb dL_load_0 rfl (lv_at hl 0 rfl) ?_
  refine lv_iload_n hx hb dL_load_1 rfl (lv_at hl 1 rfl) ?_
  refine lv_iload_n hx hb dL_load_2 rfl (lv_at hl 2 rfl) ?_
  refine lv_iload_n hx hb dL_load_3 rfl (lv_at hl 3 rfl) ?_
  refine lv_iload hx hb dL_load_4 (lv_at hl 4 rfl) ?_
  refine sm_xV (C := RX0) (As := [.int r, .int i, .int 4, .int (sm_bI sg)]) (rest := []) (wr := []) ⟨hx, hb, hml, hown, hts⟩ (x_load1_4 l hlt D cI x0 x1 x2 x3 V S M r i hi sg) (cwV 4 hts (sm_gV (i1 := 184) (i2 := 185) (i3 := 186) (i4 := 1) (i5 := 187) rfl rfl rfl rfl rfl) rfl rfl rfl (by decide +kernel) ⟨Nat.le_of_ble_eq_true rfl, Nat.le_of_ble_eq_true rfl⟩) hK [0] rfl hZ hP hD hS hA 0 rfl rfl [0, 1, 2, 3] [] rfl rfl (by decide) (by decide) (by decide) rfl hl.1 rfl (Nat.le_of_ble_eq_true rfl) dL_load_6 ⟨Nat.le_of_ble_eq_true rfl, Nat.le_of_ble_eq_true rfl⟩ (fun q ce H locs hce hv hcl hP hD hS => ?_)
  have hP : va_P D vwCl (sm_wX cI x0 x1 x2 x3 V S M) H := hP.sub [0, 1, 2, 3] rfl
  have hD : va_D _ (sm_wX cI x0 x1 x2 x3 V S M) := hD.sub [0, 1, 2, 3] (by decide) rfl
  refine sm_catch2 (nm := sm_IA) (name := sm_IO) hown htab (Nat.le_of_ble_eq_true rfl) (Nat.le_of_ble_eq_true rfl) (by decide) (Nat.le_of_ble_eq_true rfl) (Nat.le_of_ble_eq_true rfl) (by decide) (hw 104 rfl) hN (hw 42 rfl) (sm_castX (n := 6) (hw 51 rfl)) hce hv hcl ?_
  refine lv_astore (lv' := [(5, .ref q), (0, .ref x0), (1, .int r), (2, .int i), (3, .int 4), (4, .int (sm_bI sg))]) hx hb dL_load_16 hl (by decide) rfl (fun ls hl => ?_)
  refine lv_iconst (v := 2) hx hb dL_load_18 (by decide) ?_
  refine W.widen (k := 1) (n := 6) (Nat.le_of_ble_eq_true rfl) (Nat.le_of_ble_eq_true rfl) ?_
  exact sm_iret hx hb hrt hlocks hS hP hD dL_load_19
set_option maxHeartbeats 4000000 in
set_option maxRecDepth 100000 in
theorem h_load_x2_4 (l : Launch) (hlt : l.stackTraces = false) (D : va_G) (cI : ClassId) (x0 x1 x2 x3 : Nat) (V S M : Nat → Int32) (t : Nat) (ht : t + 4 ≤ 256) (i : Int32) (hi : i < 0 ∨ 16 ≤ i) (sg : Bool) : sm_CZ l yL_load wsL_load ({ frames := 9, cells := 1, slots := 6, locals := 240 } : Room) D vwCl [(cI, .int)] [.ref x0, .int i, .int (nI t), .int 4, .int (sm_bI sg)] (sm_wX cI x0 x1 x2 x3 V S M) (some (.int 2)) (sm_wX cI x0 x1 x2 x3 V S M) := by
  refine sm_startZ (cc := cL_load) (maxL := 6) (ret := some .int) (lv := [(0, .ref x0), (1, .int i), (2, .int (nI t)), (3, .int 4), (4, .int (sm_bI sg))]) (hh := [(0, 9, 12, 19), (0, 9, 16, 13)]) (by decide) rfl (Nat.le_of_ble_eq_true rfl) rfl ?_
  intro p e s m below meth c hx hb hrt hts hown hlocks hml htab hZ hN hK hP hD hS hA ls hl
  have hw := sm_hw hts
  refine lv_aload_n hx hb dL_load_0 rfl (lv_at hl 0 rfl) ?_
  refine lv_iload_n hx hb dL_load_1 rfl (lv_at hl 1 rfl) ?_
  refine lv_iload_n hx hb dL_load_2 rfl (lv_at hl 2 rfl) ?_
  refine lv_iload_n hx hb dL_load_3 rfl (lv_at hl 3 rfl) ?_
  refine lv_iload hx hb dL_load_4 (lv_at hl 4 rfl) ?_
  refine sm_xV (C := RX0) (As := [.int i, .int (nI t), .int 4, .int (sm_bI sg)]) (rest := []) (wr := []) ⟨hx, hb, hml, hown, hts⟩ (x_load2_4 l hlt D cI x0 x1 x2 x3 V S M t ht i hi sg) (cwV 4 hts (sm_gV (i1 := 184) (i2 := 185) (i3 := 186) (i4 := 1) (i5 := 187) rfl rfl rfl rfl rfl) rfl rfl rfl (by decide +kernel) ⟨Nat.le_of_ble_eq_true rfl, Nat.le_of_ble_eq_true rfl⟩) hK [0] rfl hZ hP hD hS hA 0 rfl rfl [0, 1, 2, 3] [] rfl rfl (by decide) (by decide) (by decide) rfl hl.1 rfl (Nat.le_of_ble_eq_true rfl) dL_load_6 ⟨Nat.le_of_ble_eq_true rfl, Nat.le_of_ble_eq_true rfl⟩ (fun q ce H locs hce hv hcl hP hD hS => ?_)
  have hP : va_P D vwCl (sm_wX cI x0 x1 x2 x3 V S M) H := hP.sub [0, 1, 2, 3] rfl
  have hD : va_D _ (sm_wX cI x0 x1 x2 x3 V S M) := hD.sub [0, 1, 2, 3] (by decide) rfl
  refine sm_catch2 (nm := sm_IA) (name := sm_IO) hown htab (Nat.le_of_ble_eq_true rfl) (Nat.le_of_ble_eq_true rfl) (by decide) (Nat.le_of_ble_eq_true rfl) (Nat.le_of_ble_eq_true rfl) (by decide) (hw 104 rfl) hN (hw 42 rfl) (sm_castX (n := 6) (hw 51 rfl)) hce hv hcl ?_
  refine lv_astore (lv' := [(5, .ref q), (0, .ref x0), (1, .int i), (2, .int (nI t)), (3, .int 4), (4, .int (sm_bI sg))]) hx hb dL_load_16 hl (by decide) rfl (fun ls hl => ?_)
  refine lv_iconst (v := 2) hx hb dL_load_18 (by decide) ?_
  refine W.widen (k := 1) (n := 6) (Nat.le_of_ble_eq_true rfl) (Nat.le_of_ble_eq_true rfl) ?_
  exact sm_iret hx hb hrt hlocks hS hP hD dL_load_19
set_option maxHeartbeats 4000000 in
set_option maxRecDepth 100000 in
theorem h_value (l : Launch) (D : va_G) (cI cJ : ClassId) (x0 x1 x2 x3 o0 : Nat) (V S M : Nat → Int32) (U : Nat → Int64) (r : Nat) (hr : r < 16) : sm_CZ l yL_value wsL_value ({ frames := 9, cells := 1, slots := 6, locals := 240 } : Room) D vwCl [(cI, .int), (cJ, .long)] [.ref x0, .int (nI r), .ref o0] (sm_wXO cI cJ x0 x1 x2 x3 o0 V S M U) (some (.int 0)) (sm_wXO cI cJ x0 x1 x2 x3 o0 V S M (vp_updL U 0 (V r).toInt64)) := by
  refine sm_startZ (cc := cL_value) (maxL := 4) (ret := some .int) (lv := [(0, .ref x0), (1, .int (nI r)), (2, .ref o0)]) (hh := [(0, 9, 12, 13)]) (by decide) rfl (Nat.le_of_ble_eq_true rfl) rfl ?_
  intro p e s m below meth c hx hb hrt hts hown hlocks hml htab hZ hN hK hP hD hS hA ls hl
  have hw := sm_hw hts
  refine lv_aload_n hx hb dL_value_0 rfl (lv_at hl 2 rfl) ?_
  refine lv_iconst (v := 0) hx hb dL_value_1 (by decide) ?_
  refine lv_aload_n hx hb dL_value_2 rfl (lv_at hl 0 rfl) ?_
  refine lv_iload_n hx hb dL_value_3 rfl (lv_at hl 1 rfl) ?_
  refine sm_callV (C := RX0) (As := [.int (nI r)]) (rest := [.int 0, .ref o0]) (wr := [(o0, .inl (cJ, 1, .inr (.inl U)))]) (wn := [(o0, .inl (cJ, 1, .inr (.inl U)))] ++ (sm_wX cI x0 x1 x2 x3 V S M)) (st1 := [.int (V r), .int 0, .ref o0]) ⟨hx, hb, hml, hown, hts⟩ (c_value l D cI x0 x1 x2 x3 V S M r hr) (cwV 1 hts (sm_gV (i1 := 194) (i2 := 195) (i3 := 196) (i4 := 1) (i5 := 197) rfl rfl rfl rfl rfl) rfl rfl rfl (by decide +kernel) ⟨Nat.le_of_ble_eq_true rfl, Nat.le_of_ble_eq_true rfl⟩) hK [0] rfl hP hD hS hA 0 rfl rfl [0, 1, 2, 3] [4] rfl rfl (by decide) (by decide) (by decide) rfl hl.1 rfl (Nat.le_of_ble_eq_true rfl) dL_value_4 ⟨Nat.le_of_ble_eq_true rfl, Nat.le_of_ble_eq_true rfl⟩ rfl rfl (fun H locs hP hD hS => ?_)
  have hP : va_P D vwCl (sm_wXO cI cJ x0 x1 x2 x3 o0 V S M U) H := hP.sub [1, 2, 3, 4, 0] rfl
  have hD : va_D _ (sm_wXO cI cJ x0 x1 x2 x3 o0 V S M U) := hD.sub [1, 2, 3, 4, 0] (by decide) rfl
  refine lv_i2l (v := (V r).toInt64) hx hb dL_value_7 rfl ?_
  refine sm_last (f' := vp_updL U 0 (V r).toInt64) (ws' := (sm_wXO cI cJ x0 x1 x2 x3 o0 V S M (vp_updL U 0 (V r).toInt64))) hx hb hK hP hD hS 4 1 rfl rfl (vp_in_nI (n := 0) (by decide) (by decide)) dL_value_8 (rfl) rfl (fun H locs hP hD hS => ?_)
  refine lv_goto (tgt := 15) hx hb dL_value_9 rfl ?_
  refine lv_iconst (v := 0) hx hb dL_value_15 (by decide) ?_
  refine W.widen (k := 1) (n := 6) (Nat.le_of_ble_eq_true rfl) (Nat.le_of_ble_eq_true rfl) ?_
  exact sm_iret hx hb hrt hlocks hS hP hD dL_value_16
set_option maxHeartbeats 4000000 in
set_option maxRecDepth 100000 in
theorem h_value_x (l : Launch) (hlt : l.stackTraces = false) (D : va_G) (cI cJ : ClassId) (x0 x1 x2 x3 o0 : Nat) (V S M : Nat → Int32) (U : Nat → Int64) (i : Int32) (hi : i < 0 ∨ 16 ≤ i) : sm_CZ l yL_value wsL_value ({ frames := 9, cells := 1, slots := 6, locals := 240 } : Room) D vwCl [(cI, .int), (cJ, .long)] [.ref x0, .int i, .ref o0] (sm_wXO cI cJ x0 x1 x2 x3 o0 V S M U) (some (.int 1)) (sm_wXO cI cJ x0 x1 x2 x3 o0 V S M U) := by
  refine sm_startZ (cc := cL_value) (maxL := 4) (ret := some .int) (lv := [(0, .ref x0), (1, .int i), (2, .ref o0)]) (hh := [(0, 9, 12, 13)]) (by decide) rfl (Nat.le_of_ble_eq_true rfl) rfl ?_
  intro p e s m below meth c hx hb hrt hts hown hlocks hml htab hZ hN hK hP hD hS hA ls hl
  have hw := sm_hw hts
  refine lv_aload_n hx hb dL_value_0 rfl (lv_at hl 2 rfl) ?_
  refine lv_iconst (v := 0) hx hb dL_value_1 (by decide) ?_
  refine lv_aload_n hx hb dL_value_2 rfl (lv_at hl 0 rfl) ?_
  refine lv_iload_n hx hb dL_value_3 rfl (lv_at hl 1 rfl) ?_
  refine sm_xV (C := RX0) (As := [.int i]) (rest := [.int 0, .ref o0]) (wr := [(o0, .inl (cJ, 1, .inr (.inl U)))]) ⟨hx, hb, hml, hown, hts⟩ (x_value l hlt D cI x0 x1 x2 x3 V S M i hi) (cwV 1 hts (sm_gV (i1 := 194) (i2 := 195) (i3 := 196) (i4 := 1) (i5 := 197) rfl rfl rfl rfl rfl) rfl rfl rfl (by decide +kernel) ⟨Nat.le_of_ble_eq_true rfl, Nat.le_of_ble_eq_true rfl⟩) hK [0] rfl hZ hP hD hS hA 0 rfl rfl [0, 1, 2, 3] [4] rfl rfl (by decide) (by decide) (by decide) rfl hl.1 rfl (Nat.le_of_ble_eq_true rfl) dL_value_4 ⟨Nat.le_of_ble_eq_true rfl, Nat.le_of_ble_eq_true rfl⟩ (fun q ce H locs hce hv hcl hP hD hS => ?_)
  have hP : va_P D vwCl (sm_wXO cI cJ x0 x1 x2 x3 o0 V S M U) H := hP.sub [1, 2, 3, 4, 0] rfl
  have hD : va_D _ (sm_wXO cI cJ x0 x1 x2 x3 o0 V S M U) := hD.sub [1, 2, 3, 4, 0] (by decide) rfl
  refine sm_catch1 (name := sm_IO) hown htab (Nat.le_of_ble_eq_true rfl) (Nat.le_of_ble_eq_true rfl) (by decide) (hw 42 rfl) (sm_castX (n := 6) (hw 51 rfl)) hce hv hcl ?_
  refine lv_astore_n (lv' := [(3, .ref q), (0, .ref x0), (1, .int i), (2, .ref o0)]) hx hb dL_value_12 rfl hl (by decide) rfl (fun ls hl => ?_)
  refine lv_iconst (v := 1) hx hb dL_value_13 (by decide) ?_
  refine W.widen (k := 1) (n := 6) (Nat.le_of_ble_eq_true rfl) (Nat.le_of_ble_eq_true rfl) ?_
  exact sm_iret hx hb hrt hlocks hS hP hD dL_value_14
set_option maxHeartbeats 4000000 in
set_option maxRecDepth 100000 in
theorem h_not (l : Launch) (D : va_G) (cI cJ : ClassId) (x0 x1 x2 x3 o0 : Nat) (V S M : Nat → Int32) (U : Nat → Int64) (r : Nat) (hr : r < 16) : sm_CZ l yL_not wsL_not ({ frames := 9, cells := 1, slots := 6, locals := 240 } : Room) D vwCl [(cI, .int), (cJ, .long)] [.ref x0, .int (nI r), .ref o0] (sm_wXO cI cJ x0 x1 x2 x3 o0 V S M U) (some (.int 0)) (sm_wXO cI cJ x0 x1 x2 x3 o0 V S M (vp_updL U 0 (S r).toInt64)) := by
  refine sm_startZ (cc := cL_not) (maxL := 4) (ret := some .int) (lv := [(0, .ref x0), (1, .int (nI r)), (2, .ref o0)]) (hh := [(0, 9, 12, 13)]) (by decide) rfl (Nat.le_of_ble_eq_true rfl) rfl ?_
  intro p e s m below meth c hx hb hrt hts hown hlocks hml htab hZ hN hK hP hD hS hA ls hl
  have hw := sm_hw hts
  refine lv_aload_n hx hb dL_not_0 rfl (lv_at hl 2 rfl) ?_
  refine lv_iconst (v := 0) hx hb dL_not_1 (by decide) ?_
  refine lv_aload_n hx hb dL_not_2 rfl (lv_at hl 0 rfl) ?_
  refine lv_iload_n hx hb dL_not_3 rfl (lv_at hl 1 rfl) ?_
  refine sm_callV (C := RX0) (As := [.int (nI r)]) (rest := [.int 0, .ref o0]) (wr := [(o0, .inl (cJ, 1, .inr (.inl U)))]) (wn := [(o0, .inl (cJ, 1, .inr (.inl U)))] ++ (sm_wX cI x0 x1 x2 x3 V S M)) (st1 := [.int (S r), .int 0, .ref o0]) ⟨hx, hb, hml, hown, hts⟩ (c_not l D cI x0 x1 x2 x3 V S M r hr) (cwV 1 hts (sm_gV (i1 := 201) (i2 := 202) (i3 := 203) (i4 := 1) (i5 := 204) rfl rfl rfl rfl rfl) rfl rfl rfl (by decide +kernel) ⟨Nat.le_of_ble_eq_true rfl, Nat.le_of_ble_eq_true rfl⟩) hK [0] rfl hP hD hS hA 0 rfl rfl [0, 1, 2, 3] [4] rfl rfl (by decide) (by decide) (by decide) rfl hl.1 rfl (Nat.le_of_ble_eq_true rfl) dL_not_4 ⟨Nat.le_of_ble_eq_true rfl, Nat.le_of_ble_eq_true rfl⟩ rfl rfl (fun H locs hP hD hS => ?_)
  have hP : va_P D vwCl (sm_wXO cI cJ x0 x1 x2 x3 o0 V S M U) H := hP.sub [1, 2, 3, 4, 0] rfl
  have hD : va_D _ (sm_wXO cI cJ x0 x1 x2 x3 o0 V S M U) := hD.sub [1, 2, 3, 4, 0] (by decide) rfl
  refine lv_i2l (v := (S r).toInt64) hx hb dL_not_7 rfl ?_
  refine sm_last (f' := vp_updL U 0 (S r).toInt64) (ws' := (sm_wXO cI cJ x0 x1 x2 x3 o0 V S M (vp_updL U 0 (S r).toInt64))) hx hb hK hP hD hS 4 1 rfl rfl (vp_in_nI (n := 0) (by decide) (by decide)) dL_not_8 (rfl) rfl (fun H locs hP hD hS => ?_)
  refine lv_goto (tgt := 15) hx hb dL_not_9 rfl ?_
  refine lv_iconst (v := 0) hx hb dL_not_15 (by decide) ?_
  refine W.widen (k := 1) (n := 6) (Nat.le_of_ble_eq_true rfl) (Nat.le_of_ble_eq_true rfl) ?_
  exact sm_iret hx hb hrt hlocks hS hP hD dL_not_16
set_option maxHeartbeats 4000000 in
set_option maxRecDepth 100000 in
theorem h_not_x (l : Launch) (hlt : l.stackTraces = false) (D : va_G) (cI cJ : ClassId) (x0 x1 x2 x3 o0 : Nat) (V S M : Nat → Int32) (U : Nat → Int64) (i : Int32) (hi : i < 0 ∨ 16 ≤ i) : sm_CZ l yL_not wsL_not ({ frames := 9, cells := 1, slots := 6, locals := 240 } : Room) D vwCl [(cI, .int), (cJ, .long)] [.ref x0, .int i, .ref o0] (sm_wXO cI cJ x0 x1 x2 x3 o0 V S M U) (some (.int 1)) (sm_wXO cI cJ x0 x1 x2 x3 o0 V S M U) := by
  refine sm_startZ (cc := cL_not) (maxL := 4) (ret := some .int) (lv := [(0, .ref x0), (1, .int i), (2, .ref o0)]) (hh := [(0, 9, 12, 13)]) (by decide) rfl (Nat.le_of_ble_eq_true rfl) rfl ?_
  intro p e s m below meth c hx hb hrt hts hown hlocks hml htab hZ hN hK hP hD hS hA ls hl
  have hw := sm_hw hts
  refine lv_aload_n hx hb dL_not_0 rfl (lv_at hl 2 rfl) ?_
  refine lv_iconst (v := 0) hx hb dL_not_1 (by decide) ?_
  refine lv_aload_n hx hb dL_not_2 rfl (lv_at hl 0 rfl) ?_
  refine lv_iload_n hx hb dL_not_3 rfl (lv_at hl 1 rfl) ?_
  refine sm_xV (C := RX0) (As := [.int i]) (rest := [.int 0, .ref o0]) (wr := [(o0, .inl (cJ, 1, .inr (.inl U)))]) ⟨hx, hb, hml, hown, hts⟩ (x_not l hlt D cI x0 x1 x2 x3 V S M i hi) (cwV 1 hts (sm_gV (i1 := 201) (i2 := 202) (i3 := 203) (i4 := 1) (i5 := 204) rfl rfl rfl rfl rfl) rfl rfl rfl (by decide +kernel) ⟨Nat.le_of_ble_eq_true rfl, Nat.le_of_ble_eq_true rfl⟩) hK [0] rfl hZ hP hD hS hA 0 rfl rfl [0, 1, 2, 3] [4] rfl rfl (by decide) (by decide) (by decide) rfl hl.1 rfl (Nat.le_of_ble_eq_true rfl) dL_not_4 ⟨Nat.le_of_ble_eq_true rfl, Nat.le_of_ble_eq_true rfl⟩ (fun q ce H locs hce hv hcl hP hD hS => ?_)
  have hP : va_P D vwCl (sm_wXO cI cJ x0 x1 x2 x3 o0 V S M U) H := hP.sub [1, 2, 3, 4, 0] rfl
  have hD : va_D _ (sm_wXO cI cJ x0 x1 x2 x3 o0 V S M U) := hD.sub [1, 2, 3, 4, 0] (by decide) rfl
  refine sm_catch1 (name := sm_IO) hown htab (Nat.le_of_ble_eq_true rfl) (Nat.le_of_ble_eq_true rfl) (by decide) (hw 42 rfl) (sm_castX (n := 6) (hw 51 rfl)) hce hv hcl ?_
  refine lv_astore_n (lv' := [(3, .ref q), (0, .ref x0), (1, .int i), (2, .ref o0)]) hx hb dL_not_12 rfl hl (by decide) rfl (fun ls hl => ?_)
  refine lv_iconst (v := 1) hx hb dL_not_13 (by decide) ?_
  refine W.widen (k := 1) (n := 6) (Nat.le_of_ble_eq_true rfl) (Nat.le_of_ble_eq_true rfl) ?_
  exact sm_iret hx hb hrt hlocks hS hP hD dL_not_14
set_option maxHeartbeats 4000000 in
set_option maxRecDepth 100000 in
theorem h_least (l : Launch) (D : va_G) (cI cJ : ClassId) (x0 x1 x2 x3 o0 : Nat) (V S M : Nat → Int32) (U : Nat → Int64) (r : Nat) (hr : r < 16) : sm_CZ l yL_least wsL_least ({ frames := 9, cells := 1, slots := 6, locals := 240 } : Room) D vwCl [(cI, .int), (cJ, .long)] [.ref x0, .int (nI r), .ref o0] (sm_wXO cI cJ x0 x1 x2 x3 o0 V S M U) (some (.int 0)) (sm_wXO cI cJ x0 x1 x2 x3 o0 V S M (vp_updL U 0 (sm_le (V r) (S r)).toInt64)) := by
  refine sm_startZ (cc := cL_least) (maxL := 4) (ret := some .int) (lv := [(0, .ref x0), (1, .int (nI r)), (2, .ref o0)]) (hh := [(0, 9, 12, 13)]) (by decide) rfl (Nat.le_of_ble_eq_true rfl) rfl ?_
  intro p e s m below meth c hx hb hrt hts hown hlocks hml htab hZ hN hK hP hD hS hA ls hl
  have hw := sm_hw hts
  refine lv_aload_n hx hb dL_least_0 rfl (lv_at hl 2 rfl) ?_
  refine lv_iconst (v := 0) hx hb dL_least_1 (by decide) ?_
  refine lv_aload_n hx hb dL_least_2 rfl (lv_at hl 0 rfl) ?_
  refine lv_iload_n hx hb dL_least_3 rfl (lv_at hl 1 rfl) ?_
  refine sm_callV (C := RX0) (As := [.int (nI r)]) (rest := [.int 0, .ref o0]) (wr := [(o0, .inl (cJ, 1, .inr (.inl U)))]) (wn := [(o0, .inl (cJ, 1, .inr (.inl U)))] ++ (sm_wX cI x0 x1 x2 x3 V S M)) (st1 := [.int (sm_le (V r) (S r)), .int 0, .ref o0]) ⟨hx, hb, hml, hown, hts⟩ (c_least l D cI x0 x1 x2 x3 V S M r hr) (cwV 1 hts (sm_gV (i1 := 208) (i2 := 209) (i3 := 210) (i4 := 1) (i5 := 211) rfl rfl rfl rfl rfl) rfl rfl rfl (by decide +kernel) ⟨Nat.le_of_ble_eq_true rfl, Nat.le_of_ble_eq_true rfl⟩) hK [0] rfl hP hD hS hA 0 rfl rfl [0, 1, 2, 3] [4] rfl rfl (by decide) (by decide) (by decide) rfl hl.1 rfl (Nat.le_of_ble_eq_true rfl) dL_least_4 ⟨Nat.le_of_ble_eq_true rfl, Nat.le_of_ble_eq_true rfl⟩ rfl rfl (fun H locs hP hD hS => ?_)
  have hP : va_P D vwCl (sm_wXO cI cJ x0 x1 x2 x3 o0 V S M U) H := hP.sub [1, 2, 3, 4, 0] rfl
  have hD : va_D _ (sm_wXO cI cJ x0 x1 x2 x3 o0 V S M U) := hD.sub [1, 2, 3, 4, 0] (by decide) rfl
  refine lv_i2l (v := (sm_le (V r) (S r)).toInt64) hx hb dL_least_7 rfl ?_
  refine sm_last (f' := vp_updL U 0 (sm_le (V r) (S r)).toInt64) (ws' := (sm_wXO cI cJ x0 x1 x2 x3 o0 V S M (vp_updL U 0 (sm_le (V r) (S r)).toInt64))) hx hb hK hP hD hS 4 1 rfl rfl (vp_in_nI (n := 0) (by decide) (by decide)) dL_least_8 (rfl) rfl (fun H locs hP hD hS => ?_)
  refine lv_goto (tgt := 15) hx hb dL_least_9 rfl ?_
  refine lv_iconst (v := 0) hx hb dL_least_15 (by decide) ?_
  refine W.widen (k := 1) (n := 6) (Nat.le_of_ble_eq_true rfl) (Nat.le_of_ble_eq_true rfl) ?_
  exact sm_iret hx hb hrt hlocks hS hP hD dL_least_16
set_option maxHeartbeats 4000000 in
set_option maxRecDepth 100000 in
theorem h_least_x (l : Launch) (hlt : l.stackTraces = false) (D : va_G) (cI cJ : ClassId) (x0 x1 x2 x3 o0 : Nat) (V S M : Nat → Int32) (U : Nat → Int64) (i : Int32) (hi : i < 0 ∨ 16 ≤ i) : sm_CZ l yL_least wsL_least ({ frames := 9, cells := 1, slots := 6, locals := 240 } : Room) D vwCl [(cI, .int), (cJ, .long)] [.ref x0, .int i, .ref o0] (sm_wXO cI cJ x0 x1 x2 x3 o0 V S M U) (some (.int 1)) (sm_wXO cI cJ x0 x1 x2 x3 o0 V S M U) := by
  refine sm_startZ (cc := cL_least) (maxL := 4) (ret := some .int) (lv := [(0, .ref x0), (1, .int i), (2, .ref o0)]) (hh := [(0, 9, 12, 13)]) (by decide) rfl (Nat.le_of_ble_eq_true rfl) rfl ?_
  intro p e s m below meth c hx hb hrt hts hown hlocks hml htab hZ hN hK hP hD hS hA ls hl
  have hw := sm_hw hts
  refine lv_aload_n hx hb dL_least_0 rfl (lv_at hl 2 rfl) ?_
  refine lv_iconst (v := 0) hx hb dL_least_1 (by decide) ?_
  refine lv_aload_n hx hb dL_least_2 rfl (lv_at hl 0 rfl) ?_
  refine lv_iload_n hx hb dL_least_3 rfl (lv_at hl 1 rfl) ?_
  refine sm_xV (C := RX0) (As := [.int i]) (rest := [.int 0, .ref o0]) (wr := [(o0, .inl (cJ, 1, .inr (.inl U)))]) ⟨hx, hb, hml, hown, hts⟩ (x_least l hlt D cI x0 x1 x2 x3 V S M i hi) (cwV 1 hts (sm_gV (i1 := 208) (i2 := 209) (i3 := 210) (i4 := 1) (i5 := 211) rfl rfl rfl rfl rfl) rfl rfl rfl (by decide +kernel) ⟨Nat.le_of_ble_eq_true rfl, Nat.le_of_ble_eq_true rfl⟩) hK [0] rfl hZ hP hD hS hA 0 rfl rfl [0, 1, 2, 3] [4] rfl rfl (by decide) (by decide) (by decide) rfl hl.1 rfl (Nat.le_of_ble_eq_true rfl) dL_least_4 ⟨Nat.le_of_ble_eq_true rfl, Nat.le_of_ble_eq_true rfl⟩ (fun q ce H locs hce hv hcl hP hD hS => ?_)
  have hP : va_P D vwCl (sm_wXO cI cJ x0 x1 x2 x3 o0 V S M U) H := hP.sub [1, 2, 3, 4, 0] rfl
  have hD : va_D _ (sm_wXO cI cJ x0 x1 x2 x3 o0 V S M U) := hD.sub [1, 2, 3, 4, 0] (by decide) rfl
  refine sm_catch1 (name := sm_IO) hown htab (Nat.le_of_ble_eq_true rfl) (Nat.le_of_ble_eq_true rfl) (by decide) (hw 42 rfl) (sm_castX (n := 6) (hw 51 rfl)) hce hv hcl ?_
  refine lv_astore_n (lv' := [(3, .ref q), (0, .ref x0), (1, .int i), (2, .ref o0)]) hx hb dL_least_12 rfl hl (by decide) rfl (fun ls hl => ?_)
  refine lv_iconst (v := 1) hx hb dL_least_13 (by decide) ?_
  refine W.widen (k := 1) (n := 6) (Nat.le_of_ble_eq_true rfl) (Nat.le_of_ble_eq_true rfl) ?_
  exact sm_iret hx hb hrt hlocks hS hP hD dL_least_14
set_option maxHeartbeats 4000000 in
set_option maxRecDepth 100000 in
theorem h_greatest (l : Launch) (D : va_G) (cI cJ : ClassId) (x0 x1 x2 x3 o0 : Nat) (V S M : Nat → Int32) (U : Nat → Int64) (r : Nat) (hr : r < 16) : sm_CZ l yL_greatest wsL_greatest ({ frames := 9, cells := 1, slots := 6, locals := 240 } : Room) D vwCl [(cI, .int), (cJ, .long)] [.ref x0, .int (nI r), .ref o0] (sm_wXO cI cJ x0 x1 x2 x3 o0 V S M U) (some (.int 0)) (sm_wXO cI cJ x0 x1 x2 x3 o0 V S M (vp_updL U 0 (sm_he (V r) (S r)).toInt64)) := by
  refine sm_startZ (cc := cL_greatest) (maxL := 4) (ret := some .int) (lv := [(0, .ref x0), (1, .int (nI r)), (2, .ref o0)]) (hh := [(0, 9, 12, 13)]) (by decide) rfl (Nat.le_of_ble_eq_true rfl) rfl ?_
  intro p e s m below meth c hx hb hrt hts hown hlocks hml htab hZ hN hK hP hD hS hA ls hl
  have hw := sm_hw hts
  refine lv_aload_n hx hb dL_greatest_0 rfl (lv_at hl 2 rfl) ?_
  refine lv_iconst (v := 0) hx hb dL_greatest_1 (by decide) ?_
  refine lv_aload_n hx hb dL_greatest_2 rfl (lv_at hl 0 rfl) ?_
  refine lv_iload_n hx hb dL_greatest_3 rfl (lv_at hl 1 rfl) ?_
  refine sm_callV (C := RX0) (As := [.int (nI r)]) (rest := [.int 0, .ref o0]) (wr := [(o0, .inl (cJ, 1, .inr (.inl U)))]) (wn := [(o0, .inl (cJ, 1, .inr (.inl U)))] ++ (sm_wX cI x0 x1 x2 x3 V S M)) (st1 := [.int (sm_he (V r) (S r)), .int 0, .ref o0]) ⟨hx, hb, hml, hown, hts⟩ (c_greatest l D cI x0 x1 x2 x3 V S M r hr) (cwV 1 hts (sm_gV (i1 := 215) (i2 := 216) (i3 := 217) (i4 := 1) (i5 := 218) rfl rfl rfl rfl rfl) rfl rfl rfl (by decide +kernel) ⟨Nat.le_of_ble_eq_true rfl, Nat.le_of_ble_eq_true rfl⟩) hK [0] rfl hP hD hS hA 0 rfl rfl [0, 1, 2, 3] [4] rfl rfl (by decide) (by decide) (by decide) rfl hl.1 rfl (Nat.le_of_ble_eq_true rfl) dL_greatest_4 ⟨Nat.le_of_ble_eq_true rfl, Nat.le_of_ble_eq_true rfl⟩ rfl rfl (fun H locs hP hD hS => ?_)
  have hP : va_P D vwCl (sm_wXO cI cJ x0 x1 x2 x3 o0 V S M U) H := hP.sub [1, 2, 3, 4, 0] rfl
  have hD : va_D _ (sm_wXO cI cJ x0 x1 x2 x3 o0 V S M U) := hD.sub [1, 2, 3, 4, 0] (by decide) rfl
  refine lv_i2l (v := (sm_he (V r) (S r)).toInt64) hx hb dL_greatest_7 rfl ?_
  refine sm_last (f' := vp_updL U 0 (sm_he (V r) (S r)).toInt64) (ws' := (sm_wXO cI cJ x0 x1 x2 x3 o0 V S M (vp_updL U 0 (sm_he (V r) (S r)).toInt64))) hx hb hK hP hD hS 4 1 rfl rfl (vp_in_nI (n := 0) (by decide) (by decide)) dL_greatest_8 (rfl) rfl (fun H locs hP hD hS => ?_)
  refine lv_goto (tgt := 15) hx hb dL_greatest_9 rfl ?_
  refine lv_iconst (v := 0) hx hb dL_greatest_15 (by decide) ?_
  refine W.widen (k := 1) (n := 6) (Nat.le_of_ble_eq_true rfl) (Nat.le_of_ble_eq_true rfl) ?_
  exact sm_iret hx hb hrt hlocks hS hP hD dL_greatest_16
set_option maxHeartbeats 4000000 in
set_option maxRecDepth 100000 in
theorem h_greatest_x (l : Launch) (hlt : l.stackTraces = false) (D : va_G) (cI cJ : ClassId) (x0 x1 x2 x3 o0 : Nat) (V S M : Nat → Int32) (U : Nat → Int64) (i : Int32) (hi : i < 0 ∨ 16 ≤ i) : sm_CZ l yL_greatest wsL_greatest ({ frames := 9, cells := 1, slots := 6, locals := 240 } : Room) D vwCl [(cI, .int), (cJ, .long)] [.ref x0, .int i, .ref o0] (sm_wXO cI cJ x0 x1 x2 x3 o0 V S M U) (some (.int 1)) (sm_wXO cI cJ x0 x1 x2 x3 o0 V S M U) := by
  refine sm_startZ (cc := cL_greatest) (maxL := 4) (ret := some .int) (lv := [(0, .ref x0), (1, .int i), (2, .ref o0)]) (hh := [(0, 9, 12, 13)]) (by decide) rfl (Nat.le_of_ble_eq_true rfl) rfl ?_
  intro p e s m below meth c hx hb hrt hts hown hlocks hml htab hZ hN hK hP hD hS hA ls hl
  have hw := sm_hw hts
  refine lv_aload_n hx hb dL_greatest_0 rfl (lv_at hl 2 rfl) ?_
  refine lv_iconst (v := 0) hx hb dL_greatest_1 (by decide) ?_
  refine lv_aload_n hx hb dL_greatest_2 rfl (lv_at hl 0 rfl) ?_
  refine lv_iload_n hx hb dL_greatest_3 rfl (lv_at hl 1 rfl) ?_
  refine sm_xV (C := RX0) (As := [.int i]) (rest := [.int 0, .ref o0]) (wr := [(o0, .inl (cJ, 1, .inr (.inl U)))]) ⟨hx, hb, hml, hown, hts⟩ (x_greatest l hlt D cI x0 x1 x2 x3 V S M i hi) (cwV 1 hts (sm_gV (i1 := 215) (i2 := 216) (i3 := 217) (i4 := 1) (i5 := 218) rfl rfl rfl rfl rfl) rfl rfl rfl (by decide +kernel) ⟨Nat.le_of_ble_eq_true rfl, Nat.le_of_ble_eq_true rfl⟩) hK [0] rfl hZ hP hD hS hA 0 rfl rfl [0, 1, 2, 3] [4] rfl rfl (by decide) (by decide) (by decide) rfl hl.1 rfl (Nat.le_of_ble_eq_true rfl) dL_greatest_4 ⟨Nat.le_of_ble_eq_true rfl, Nat.le_of_ble_eq_true rfl⟩ (fun q ce H locs hce hv hcl hP hD hS => ?_)
  have hP : va_P D vwCl (sm_wXO cI cJ x0 x1 x2 x3 o0 V S M U) H := hP.sub [1, 2, 3, 4, 0] rfl
  have hD : va_D _ (sm_wXO cI cJ x0 x1 x2 x3 o0 V S M U) := hD.sub [1, 2, 3, 4, 0] (by decide) rfl
  refine sm_catch1 (name := sm_IO) hown htab (Nat.le_of_ble_eq_true rfl) (Nat.le_of_ble_eq_true rfl) (by decide) (hw 42 rfl) (sm_castX (n := 6) (hw 51 rfl)) hce hv hcl ?_
  refine lv_astore_n (lv' := [(3, .ref q), (0, .ref x0), (1, .int i), (2, .ref o0)]) hx hb dL_greatest_12 rfl hl (by decide) rfl (fun ls hl => ?_)
  refine lv_iconst (v := 1) hx hb dL_greatest_13 (by decide) ?_
  refine W.widen (k := 1) (n := 6) (Nat.le_of_ble_eq_true rfl) (Nat.le_of_ble_eq_true rfl) ?_
  exact sm_iret hx hb hrt hlocks hS hP hD dL_greatest_14
set_option maxHeartbeats 4000000 in
set_option maxRecDepth 100000 in
theorem h_octet (l : Launch) (D : va_G) (cI cJ : ClassId) (x0 x1 x2 x3 o0 : Nat) (V S M : Nat → Int32) (U : Nat → Int64) (r : Nat) (hr : r < 256) : sm_CZ l yL_octet wsL_octet ({ frames := 9, cells := 1, slots := 6, locals := 240 } : Room) D vwCl [(cI, .int), (cJ, .long)] [.ref x0, .int (nI r), .ref o0] (sm_wXO cI cJ x0 x1 x2 x3 o0 V S M U) (some (.int 0)) (sm_wXO cI cJ x0 x1 x2 x3 o0 V S M (vp_updL U 0 (M r).toInt64)) := by
  refine sm_startZ (cc := cL_octet) (maxL := 4) (ret := some .int) (lv := [(0, .ref x0), (1, .int (nI r)), (2, .ref o0)]) (hh := [(0, 9, 12, 13)]) (by decide) rfl (Nat.le_of_ble_eq_true rfl) rfl ?_
  intro p e s m below meth c hx hb hrt hts hown hlocks hml htab hZ hN hK hP hD hS hA ls hl
  have hw := sm_hw hts
  refine lv_aload_n hx hb dL_octet_0 rfl (lv_at hl 2 rfl) ?_
  refine lv_iconst (v := 0) hx hb dL_octet_1 (by decide) ?_
  refine lv_aload_n hx hb dL_octet_2 rfl (lv_at hl 0 rfl) ?_
  refine lv_iload_n hx hb dL_octet_3 rfl (lv_at hl 1 rfl) ?_
  refine sm_callV (C := RX0) (As := [.int (nI r)]) (rest := [.int 0, .ref o0]) (wr := [(o0, .inl (cJ, 1, .inr (.inl U)))]) (wn := [(o0, .inl (cJ, 1, .inr (.inl U)))] ++ (sm_wX cI x0 x1 x2 x3 V S M)) (st1 := [.int (M r), .int 0, .ref o0]) ⟨hx, hb, hml, hown, hts⟩ (c_octet l D cI x0 x1 x2 x3 V S M r hr) (cwV 1 hts (sm_gV (i1 := 222) (i2 := 223) (i3 := 224) (i4 := 1) (i5 := 225) rfl rfl rfl rfl rfl) rfl rfl rfl (by decide +kernel) ⟨Nat.le_of_ble_eq_true rfl, Nat.le_of_ble_eq_true rfl⟩) hK [0] rfl hP hD hS hA 0 rfl rfl [0, 1, 2, 3] [4] rfl rfl (by decide) (by decide) (by decide) rfl hl.1 rfl (Nat.le_of_ble_eq_true rfl) dL_octet_4 ⟨Nat.le_of_ble_eq_true rfl, Nat.le_of_ble_eq_true rfl⟩ rfl rfl (fun H locs hP hD hS => ?_)
  have hP : va_P D vwCl (sm_wXO cI cJ x0 x1 x2 x3 o0 V S M U) H := hP.sub [1, 2, 3, 4, 0] rfl
  have hD : va_D _ (sm_wXO cI cJ x0 x1 x2 x3 o0 V S M U) := hD.sub [1, 2, 3, 4, 0] (by decide) rfl
  refine lv_i2l (v := (M r).toInt64) hx hb dL_octet_7 rfl ?_
  refine sm_last (f' := vp_updL U 0 (M r).toInt64) (ws' := (sm_wXO cI cJ x0 x1 x2 x3 o0 V S M (vp_updL U 0 (M r).toInt64))) hx hb hK hP hD hS 4 1 rfl rfl (vp_in_nI (n := 0) (by decide) (by decide)) dL_octet_8 (rfl) rfl (fun H locs hP hD hS => ?_)
  refine lv_goto (tgt := 15) hx hb dL_octet_9 rfl ?_
  refine lv_iconst (v := 0) hx hb dL_octet_15 (by decide) ?_
  refine W.widen (k := 1) (n := 6) (Nat.le_of_ble_eq_true rfl) (Nat.le_of_ble_eq_true rfl) ?_
  exact sm_iret hx hb hrt hlocks hS hP hD dL_octet_16
set_option maxHeartbeats 4000000 in
set_option maxRecDepth 100000 in
theorem h_octet_x (l : Launch) (hlt : l.stackTraces = false) (D : va_G) (cI cJ : ClassId) (x0 x1 x2 x3 o0 : Nat) (V S M : Nat → Int32) (U : Nat → Int64) (i : Int32) (hi : i < 0 ∨ 256 ≤ i) : sm_CZ l yL_octet wsL_octet ({ frames := 9, cells := 1, slots := 6, locals := 240 } : Room) D vwCl [(cI, .int), (cJ, .long)] [.ref x0, .int i, .ref o0] (sm_wXO cI cJ x0 x1 x2 x3 o0 V S M U) (some (.int 1)) (sm_wXO cI cJ x0 x1 x2 x3 o0 V S M U) := by
  refine sm_startZ (cc := cL_octet) (maxL := 4) (ret := some .int) (lv := [(0, .ref x0), (1, .int i), (2, .ref o0)]) (hh := [(0, 9, 12, 13)]) (by decide) rfl (Nat.le_of_ble_eq_true rfl) rfl ?_
  intro p e s m below meth c hx hb hrt hts hown hlocks hml htab hZ hN hK hP hD hS hA ls hl
  have hw := sm_hw hts
  refine lv_aload_n hx hb dL_octet_0 rfl (lv_at hl 2 rfl) ?_
  refine lv_iconst (v := 0) hx hb dL_octet_1 (by decide) ?_
  refine lv_aload_n hx hb dL_octet_2 rfl (lv_at hl 0 rfl) ?_
  refine lv_iload_n hx hb dL_octet_3 rfl (lv_at hl 1 rfl) ?_
  refine sm_xV (C := RX0) (As := [.int i]) (rest := [.int 0, .ref o0]) (wr := [(o0, .inl (cJ, 1, .inr (.inl U)))]) ⟨hx, hb, hml, hown, hts⟩ (x_octet l hlt D cI x0 x1 x2 x3 V S M i hi) (cwV 1 hts (sm_gV (i1 := 222) (i2 := 223) (i3 := 224) (i4 := 1) (i5 := 225) rfl rfl rfl rfl rfl) rfl rfl rfl (by decide +kernel) ⟨Nat.le_of_ble_eq_true rfl, Nat.le_of_ble_eq_true rfl⟩) hK [0] rfl hZ hP hD hS hA 0 rfl rfl [0, 1, 2, 3] [4] rfl rfl (by decide) (by decide) (by decide) rfl hl.1 rfl (Nat.le_of_ble_eq_true rfl) dL_octet_4 ⟨Nat.le_of_ble_eq_true rfl, Nat.le_of_ble_eq_true rfl⟩ (fun q ce H locs hce hv hcl hP hD hS => ?_)
  have hP : va_P D vwCl (sm_wXO cI cJ x0 x1 x2 x3 o0 V S M U) H := hP.sub [1, 2, 3, 4, 0] rfl
  have hD : va_D _ (sm_wXO cI cJ x0 x1 x2 x3 o0 V S M U) := hD.sub [1, 2, 3, 4, 0] (by decide) rfl
  refine sm_catch1 (name := sm_IO) hown htab (Nat.le_of_ble_eq_true rfl) (Nat.le_of_ble_eq_true rfl) (by decide) (hw 42 rfl) (sm_castX (n := 6) (hw 51 rfl)) hce hv hcl ?_
  refine lv_astore_n (lv' := [(3, .ref q), (0, .ref x0), (1, .int i), (2, .ref o0)]) hx hb dL_octet_12 rfl hl (by decide) rfl (fun ls hl => ?_)
  refine lv_iconst (v := 1) hx hb dL_octet_13 (by decide) ?_
  refine W.widen (k := 1) (n := 6) (Nat.le_of_ble_eq_true rfl) (Nat.le_of_ble_eq_true rfl) ?_
  exact sm_iret hx hb hrt hlocks hS hP hD dL_octet_14
