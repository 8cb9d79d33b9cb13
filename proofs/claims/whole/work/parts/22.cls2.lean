set_option maxHeartbeats 4000000 in
set_option maxRecDepth 100000 in
theorem c_checkRegister (l : Launch) (D : va_G) (r : Nat) (hr : r < 16) : sm_C l yX0_checkRegister wsX0_checkRegister ({ frames := 0, cells := 0, slots := 0, locals := 0 } : Room) D vwCl [] [.int (nI r)] [] none [] := by
  refine sm_start (cc := cX0_checkRegister) (maxL := 1) (ret := none) (lv := [(0, .int (nI r))]) (by decide) rfl (Nat.le_of_ble_eq_true rfl) rfl ?_
  intro p e s m below meth c hx hb hrt hts hown hlocks hml hin hK hP hD hS hA ls hl
  have hw := sm_hw hts
  refine lv_iload_n hx hb dX0_checkRegister_0 rfl (lv_at hl 0 rfl) ?_
  refine lv_if_lt (tgt := 10) hx hb dX0_checkRegister_1 rfl (fun z => absurd z (nI_pos (by omega))) (fun _ => ?_)
  refine lv_iload_n hx hb dX0_checkRegister_4 rfl (lv_at hl 0 rfl) ?_
  refine lv_bipush (v := 16) hx hb dX0_checkRegister_5 (by decide) ?_
  refine lv_icmp_lt (tgt := 18) hx hb dX0_checkRegister_7 rfl (fun _ => ?_) (fun z => absurd (nI_lt (b := 16) hr (by decide)) z)
  exact sm_vret hx hb hrt hlocks hS hP hD dX0_checkRegister_18
set_option maxHeartbeats 4000000 in
set_option maxRecDepth 100000 in
theorem c_shifted_5 (l : Launch) (D : va_G) (x n : Int32) : sm_C l yX0_shifted wsX0_shifted ({ frames := 0, cells := 0, slots := 0, locals := 0 } : Room) D vwCl [] [.int 5, .int x, .int n] [] (some (.int (x <<< (n &&& 31)))) [] := by
  refine sm_start (cc := cX0_shifted) (maxL := 3) (ret := some .int) (lv := [(0, .int 5), (1, .int x), (2, .int n)]) (by decide) rfl (Nat.le_of_ble_eq_true rfl) rfl ?_
  intro p e s m below meth c hx hb hrt hts hown hlocks hml hin hK hP hD hS hA ls hl
  have hw := sm_hw hts
  refine lv_iload_n hx hb dX0_shifted_0 rfl (lv_at hl 0 rfl) ?_
  refine lv_lookup (off := 27) (tgt := 28) hx hb dX0_shifted_1 (by decide) (by decide) (by decide) ?_
  refine lv_iload_n hx hb dX0_shifted_28 rfl (lv_at hl 1 rfl) ?_
  refine lv_iload_n hx hb dX0_shifted_29 rfl (lv_at hl 2 rfl) ?_
  refine lv_ishl hx hb dX0_shifted_30 ?_
  exact sm_iret hx hb hrt hlocks hS hP hD dX0_shifted_31
set_option maxHeartbeats 4000000 in
set_option maxRecDepth 100000 in
theorem c_shifted_6 (l : Launch) (D : va_G) (x n : Int32) : sm_C l yX0_shifted wsX0_shifted ({ frames := 0, cells := 0, slots := 0, locals := 0 } : Room) D vwCl [] [.int 6, .int x, .int n] [] (some (.int (sm_ushr x n))) [] := by
  refine sm_start (cc := cX0_shifted) (maxL := 3) (ret := some .int) (lv := [(0, .int 6), (1, .int x), (2, .int n)]) (by decide) rfl (Nat.le_of_ble_eq_true rfl) rfl ?_
  intro p e s m below meth c hx hb hrt hts hown hlocks hml hin hK hP hD hS hA ls hl
  have hw := sm_hw hts
  refine lv_iload_n hx hb dX0_shifted_0 rfl (lv_at hl 0 rfl) ?_
  refine lv_lookup (off := 31) (tgt := 32) hx hb dX0_shifted_1 (by decide) (by decide) (by decide) ?_
  refine lv_iload_n hx hb dX0_shifted_32 rfl (lv_at hl 1 rfl) ?_
  refine lv_iload_n hx hb dX0_shifted_33 rfl (lv_at hl 2 rfl) ?_
  refine lv_iushr (v := sm_ushr x n) hx hb dX0_shifted_34 rfl ?_
  exact sm_iret hx hb hrt hlocks hS hP hD dX0_shifted_35
set_option maxHeartbeats 4000000 in
set_option maxRecDepth 100000 in
theorem c_shifted_7 (l : Launch) (D : va_G) (x n : Int32) : sm_C l yX0_shifted wsX0_shifted ({ frames := 0, cells := 0, slots := 0, locals := 0 } : Room) D vwCl [] [.int 7, .int x, .int n] [] (some (.int (x >>> (n &&& 31)))) [] := by
  refine sm_start (cc := cX0_shifted) (maxL := 3) (ret := some .int) (lv := [(0, .int 7), (1, .int x), (2, .int n)]) (by decide) rfl (Nat.le_of_ble_eq_true rfl) rfl ?_
  intro p e s m below meth c hx hb hrt hts hown hlocks hml hin hK hP hD hS hA ls hl
  have hw := sm_hw hts
  refine lv_iload_n hx hb dX0_shifted_0 rfl (lv_at hl 0 rfl) ?_
  refine lv_lookup (off := 35) (tgt := 36) hx hb dX0_shifted_1 (by decide) (by decide) (by decide) ?_
  refine lv_iload_n hx hb dX0_shifted_36 rfl (lv_at hl 1 rfl) ?_
  refine lv_iload_n hx hb dX0_shifted_37 rfl (lv_at hl 2 rfl) ?_
  refine lv_ishr hx hb dX0_shifted_38 ?_
  exact sm_iret hx hb hrt hlocks hS hP hD dX0_shifted_39
set_option maxHeartbeats 4000000 in
set_option maxRecDepth 100000 in
theorem c_value (l : Launch) (D : va_G) (cI : ClassId) (x0 x1 x2 x3 : Nat) (V S M : Nat → Int32) (r : Nat) (hr : r < 16) : sm_C l yX0_value wsX0_value ({ frames := 1, cells := 0, slots := 0, locals := 20 } : Room) D vwCl [(cI, .int)] [.ref x0, .int (nI r)] (sm_wX cI x0 x1 x2 x3 V S M) (some (.int (V r))) (sm_wX cI x0 x1 x2 x3 V S M) := by
  refine sm_start (cc := cX0_value) (maxL := 2) (ret := some .int) (lv := [(0, .ref x0), (1, .int (nI r))]) (by decide) rfl (Nat.le_of_ble_eq_true rfl) rfl ?_
  intro p e s m below meth c hx hb hrt hts hown hlocks hml hin hK hP hD hS hA ls hl
  have hw := sm_hw hts
  refine lv_iload_n hx hb dX0_value_0 rfl (lv_at hl 1 rfl) ?_
  refine sm_callS (As := [.int (nI r)]) (rest := []) (wr := (sm_wX cI x0 x1 x2 x3 V S M)) (wn := (sm_wX cI x0 x1 x2 x3 V S M)) (st1 := []) ⟨hx, hb, hml, hown, hts⟩ (c_checkRegister l D r (by omega)) (va_cwS 1 hts (sm_gS (i1 := 47) (i2 := 48) (i4 := 1) (i5 := 49) rfl rfl rfl rfl) rfl rfl rfl (by decide +kernel) ⟨Nat.le_of_ble_eq_true rfl, Nat.le_of_ble_eq_true rfl⟩) hK [] rfl hP hD hS hA [] [0, 1, 2, 3] rfl rfl (by decide) (by decide) (by decide) rfl hl.1 rfl (Nat.le_of_ble_eq_true rfl) dX0_value_1 ⟨Nat.le_of_ble_eq_true rfl, Nat.le_of_ble_eq_true rfl⟩ rfl rfl (fun H locs hP hD hS => ?_)
  refine lv_aload_n hx hb dX0_value_4 rfl (lv_at hl 0 rfl) ?_
  refine va_get (D := D) (ci := 0) (v := .ref x1) (C := RX0) (T := TX0) (N := 3) hx hb hts inX0 hown hK hP 0 rfl rfl 0 (by decide) (hw 18 rfl) (fun _ h9 => h9) rfl dX0_value_5 ?_
  refine lv_iload_n hx hb dX0_value_8 rfl (lv_at hl 1 rfl) ?_
  refine va_iald hx hb hK hP 1 0 rfl rfl (vp_in_nI (n := r) (by omega) (by decide)) dX0_value_9 ?_
  refine sm_eqi (y := V r) (sm_cl V (n := r) (by omega)) ?_
  exact sm_iret hx hb hrt hlocks hS hP hD dX0_value_10
set_option maxHeartbeats 4000000 in
set_option maxRecDepth 100000 in
theorem c_not (l : Launch) (D : va_G) (cI : ClassId) (x0 x1 x2 x3 : Nat) (V S M : Nat → Int32) (r : Nat) (hr : r < 16) : sm_C l yX0_not wsX0_not ({ frames := 1, cells := 0, slots := 0, locals := 20 } : Room) D vwCl [(cI, .int)] [.ref x0, .int (nI r)] (sm_wX cI x0 x1 x2 x3 V S M) (some (.int (S r))) (sm_wX cI x0 x1 x2 x3 V S M) := by
  refine sm_start (cc := cX0_not) (maxL := 2) (ret := some .int) (lv := [(0, .ref x0), (1, .int (nI r))]) (by decide) rfl (Nat.le_of_ble_eq_true rfl) rfl ?_
  intro p e s m below meth c hx hb hrt hts hown hlocks hml hin hK hP hD hS hA ls hl
  have hw := sm_hw hts
  refine lv_iload_n hx hb dX0_not_0 rfl (lv_at hl 1 rfl) ?_
  refine sm_callS (As := [.int (nI r)]) (rest := []) (wr := (sm_wX cI x0 x1 x2 x3 V S M)) (wn := (sm_wX cI x0 x1 x2 x3 V S M)) (st1 := []) ⟨hx, hb, hml, hown, hts⟩ (c_checkRegister l D r (by omega)) (va_cwS 1 hts (sm_gS (i1 := 47) (i2 := 48) (i4 := 1) (i5 := 49) rfl rfl rfl rfl) rfl rfl rfl (by decide +kernel) ⟨Nat.le_of_ble_eq_true rfl, Nat.le_of_ble_eq_true rfl⟩) hK [] rfl hP hD hS hA [] [0, 1, 2, 3] rfl rfl (by decide) (by decide) (by decide) rfl hl.1 rfl (Nat.le_of_ble_eq_true rfl) dX0_not_1 ⟨Nat.le_of_ble_eq_true rfl, Nat.le_of_ble_eq_true rfl⟩ rfl rfl (fun H locs hP hD hS => ?_)
  refine lv_aload_n hx hb dX0_not_4 rfl (lv_at hl 0 rfl) ?_
  refine va_get (D := D) (ci := 0) (v := .ref x2) (C := RX0) (T := TX0) (N := 3) hx hb hts inX0 hown hK hP 0 rfl rfl 1 (by decide) (hw 19 rfl) (fun _ h9 => h9) rfl dX0_not_5 ?_
  refine lv_iload_n hx hb dX0_not_8 rfl (lv_at hl 1 rfl) ?_
  refine va_iald hx hb hK hP 2 0 rfl rfl (vp_in_nI (n := r) (by omega) (by decide)) dX0_not_9 ?_
  refine sm_eqi (y := S r) (sm_cl S (n := r) (by omega)) ?_
  exact sm_iret hx hb hrt hlocks hS hP hD dX0_not_10
set_option maxHeartbeats 4000000 in
set_option maxRecDepth 100000 in
theorem c_least (l : Launch) (D : va_G) (cI : ClassId) (x0 x1 x2 x3 : Nat) (V S M : Nat → Int32) (r : Nat) (hr : r < 16) : sm_C l yX0_least wsX0_least ({ frames := 1, cells := 0, slots := 0, locals := 21 } : Room) D vwCl [(cI, .int)] [.ref x0, .int (nI r)] (sm_wX cI x0 x1 x2 x3 V S M) (some (.int (sm_le (V r) (S r)))) (sm_wX cI x0 x1 x2 x3 V S M) := by
  refine sm_start (cc := cX0_least) (maxL := 2) (ret := some .int) (lv := [(0, .ref x0), (1, .int (nI r))]) (by decide) rfl (Nat.le_of_ble_eq_true rfl) rfl ?_
  intro p e s m below meth c hx hb hrt hts hown hlocks hml hin hK hP hD hS hA ls hl
  have hw := sm_hw hts
  refine lv_iload_n hx hb dX0_least_0 rfl (lv_at hl 1 rfl) ?_
  refine sm_callS (As := [.int (nI r)]) (rest := []) (wr := (sm_wX cI x0 x1 x2 x3 V S M)) (wn := (sm_wX cI x0 x1 x2 x3 V S M)) (st1 := []) ⟨hx, hb, hml, hown, hts⟩ (c_checkRegister l D r (by omega)) (va_cwS 1 hts (sm_gS (i1 := 47) (i2 := 48) (i4 := 1) (i5 := 49) rfl rfl rfl rfl) rfl rfl rfl (by decide +kernel) ⟨Nat.le_of_ble_eq_true rfl, Nat.le_of_ble_eq_true rfl⟩) hK [] rfl hP hD hS hA [] [0, 1, 2, 3] rfl rfl (by decide) (by decide) (by decide) rfl hl.1 rfl (Nat.le_of_ble_eq_true rfl) dX0_least_1 ⟨Nat.le_of_ble_eq_true rfl, Nat.le_of_ble_eq_true rfl⟩ rfl rfl (fun H locs hP hD hS => ?_)
  refine lv_aload_n hx hb dX0_least_4 rfl (lv_at hl 0 rfl) ?_
  refine va_get (D := D) (ci := 0) (v := .ref x1) (C := RX0) (T := TX0) (N := 3) hx hb hts inX0 hown hK hP 0 rfl rfl 0 (by decide) (hw 18 rfl) (fun _ h9 => h9) rfl dX0_least_5 ?_
  refine lv_iload_n hx hb dX0_least_8 rfl (lv_at hl 1 rfl) ?_
  refine va_iald hx hb hK hP 1 0 rfl rfl (vp_in_nI (n := r) (by omega) (by decide)) dX0_least_9 ?_
  refine sm_eqi (y := V r) (sm_cl V (n := r) (by omega)) ?_
  refine lv_aload_n hx hb dX0_least_10 rfl (lv_at hl 0 rfl) ?_
  refine va_get (D := D) (ci := 0) (v := .ref x2) (C := RX0) (T := TX0) (N := 3) hx hb hts inX0 hown hK hP 0 rfl rfl 1 (by decide) (hw 19 rfl) (fun _ h9 => h9) rfl dX0_least_11 ?_
  refine lv_iload_n hx hb dX0_least_14 rfl (lv_at hl 1 rfl) ?_
  refine va_iald hx hb hK hP 2 0 rfl rfl (vp_in_nI (n := r) (by omega) (by decide)) dX0_least_15 ?_
  refine sm_eqi (y := S r) (sm_cl S (n := r) (by omega)) ?_
  refine sm_callS (As := [.int (V r), .int (S r)]) (rest := []) (wr := (sm_wX cI x0 x1 x2 x3 V S M)) (wn := (sm_wX cI x0 x1 x2 x3 V S M)) (st1 := [.int (sm_le (V r) (S r))]) ⟨hx, hb, hml, hown, hts⟩ (c_lowEnd l D (V r) (S r)) (va_cwS 2 hts (sm_gS (i1 := 158) (i2 := 159) (i4 := 1) (i5 := 160) rfl rfl rfl rfl) rfl rfl rfl (by decide +kernel) ⟨Nat.le_of_ble_eq_true rfl, Nat.le_of_ble_eq_true rfl⟩) hK [] rfl hP hD hS hA [] [0, 1, 2, 3] rfl rfl (by decide) (by decide) (by decide) rfl hl.1 rfl (Nat.le_of_ble_eq_true rfl) dX0_least_16 ⟨Nat.le_of_ble_eq_true rfl, Nat.le_of_ble_eq_true rfl⟩ rfl rfl (fun H locs hP hD hS => ?_)
  exact sm_iret hx hb hrt hlocks hS hP hD dX0_least_19
set_option maxHeartbeats 4000000 in
set_option maxRecDepth 100000 in
theorem c_greatest (l : Launch) (D : va_G) (cI : ClassId) (x0 x1 x2 x3 : Nat) (V S M : Nat → Int32) (r : Nat) (hr : r < 16) : sm_C l yX0_greatest wsX0_greatest ({ frames := 1, cells := 0, slots := 0, locals := 21 } : Room) D vwCl [(cI, .int)] [.ref x0, .int (nI r)] (sm_wX cI x0 x1 x2 x3 V S M) (some (.int (sm_he (V r) (S r)))) (sm_wX cI x0 x1 x2 x3 V S M) := by
  refine sm_start (cc := cX0_greatest) (maxL := 2) (ret := some .int) (lv := [(0, .ref x0), (1, .int (nI r))]) (by decide) rfl (Nat.le_of_ble_eq_true rfl) rfl ?_
  intro p e s m below meth c hx hb hrt hts hown hlocks hml hin hK hP hD hS hA ls hl
  have hw := sm_hw hts
  refine lv_iload_n hx hb dX0_greatest_0 rfl (lv_at hl 1 rfl) ?_
  refine sm_callS (As := [.int (nI r)]) (rest := []) (wr := (sm_wX cI x0 x1 x2 x3 V S M)) (wn := (sm_wX cI x0 x1 x2 x3 V S M)) (st1 := []) ⟨hx, hb, hml, hown, hts⟩ (c_checkRegister l D r (by omega)) (va_cwS 1 hts (sm_gS (i1 := 47) (i2 := 48) (i4 := 1) (i5 := 49) rfl rfl rfl rfl) rfl rfl rfl (by decide +kernel) ⟨Nat.le_of_ble_eq_true rfl, Nat.le_of_ble_eq_true rfl⟩) hK [] rfl hP hD hS hA [] [0, 1, 2, 3] rfl rfl (by decide) (by decide) (by decide) rfl hl.1 rfl (Nat.le_of_ble_eq_true rfl) dX0_greatest_1 ⟨Nat.le_of_ble_eq_true rfl, Nat.le_of_ble_eq_true rfl⟩ rfl rfl (fun H locs hP hD hS => ?_)
  refine lv_aload_n hx hb dX0_greatest_4 rfl (lv_at hl 0 rfl) ?_
  refine va_get (D := D) (ci := 0) (v := .ref x1) (C := RX0) (T := TX0) (N := 3) hx hb hts inX0 hown hK hP 0 rfl rfl 0 (by decide) (hw 18 rfl) (fun _ h9 => h9) rfl dX0_greatest_5 ?_
  refine lv_iload_n hx hb dX0_greatest_8 rfl (lv_at hl 1 rfl) ?_
  refine va_iald hx hb hK hP 1 0 rfl rfl (vp_in_nI (n := r) (by omega) (by decide)) dX0_greatest_9 ?_
  refine sm_eqi (y := V r) (sm_cl V (n := r) (by omega)) ?_
  refine lv_aload_n hx hb dX0_greatest_10 rfl (lv_at hl 0 rfl) ?_
  refine va_get (D := D) (ci := 0) (v := .ref x2) (C := RX0) (T := TX0) (N := 3) hx hb hts inX0 hown hK hP 0 rfl rfl 1 (by decide) (hw 19 rfl) (fun _ h9 => h9) rfl dX0_greatest_11 ?_
  refine lv_iload_n hx hb dX0_greatest_14 rfl (lv_at hl 1 rfl) ?_
  refine va_iald hx hb hK hP 2 0 rfl rfl (vp_in_nI (n := r) (by omega) (by decide)) dX0_greatest_15 ?_
  refine sm_eqi (y := S r) (sm_cl S (n := r) (by omega)) ?_
  refine sm_callS (As := [.int (V r), .int (S r)]) (rest := []) (wr := (sm_wX cI x0 x1 x2 x3 V S M)) (wn := (sm_wX cI x0 x1 x2 x3 V S M)) (st1 := [.int (sm_he (V r) (S r))]) ⟨hx, hb, hml, hown, hts⟩ (c_highEnd l D (V r) (S r)) (va_cwS 2 hts (sm_gS (i1 := 161) (i2 := 162) (i4 := 1) (i5 := 163) rfl rfl rfl rfl) rfl rfl rfl (by decide +kernel) ⟨Nat.le_of_ble_eq_true rfl, Nat.le_of_ble_eq_true rfl⟩) hK [] rfl hP hD hS hA [] [0, 1, 2, 3] rfl rfl (by decide) (by decide) (by decide) rfl hl.1 rfl (Nat.le_of_ble_eq_true rfl) dX0_greatest_16 ⟨Nat.le_of_ble_eq_true rfl, Nat.le_of_ble_eq_true rfl⟩ rfl rfl (fun H locs hP hD hS => ?_)
  exact sm_iret hx hb hrt hlocks hS hP hD dX0_greatest_19
set_option maxHeartbeats 4000000 in
set_option maxRecDepth 100000 in
theorem c_octet (l : Launch) (D : va_G) (cI : ClassId) (x0 x1 x2 x3 : Nat) (V S M : Nat → Int32) (r : Nat) (hr : r < 256) : sm_C l yX0_octet wsX0_octet ({ frames := 0, cells := 0, slots := 0, locals := 0 } : Room) D vwCl [(cI, .int)] [.ref x0, .int (nI r)] (sm_wX cI x0 x1 x2 x3 V S M) (some (.int (M r))) (sm_wX cI x0 x1 x2 x3 V S M) := by
  refine sm_start (cc := cX0_octet) (maxL := 2) (ret := some .int) (lv := [(0, .ref x0), (1, .int (nI r))]) (by decide) rfl (Nat.le_of_ble_eq_true rfl) rfl ?_
  intro p e s m below meth c hx hb hrt hts hown hlocks hml hin hK hP hD hS hA ls hl
  have hw := sm_hw hts
  refine lv_iload_n hx hb dX0_octet_0 rfl (lv_at hl 1 rfl) ?_
  refine lv_if_lt (tgt := 11) hx hb dX0_octet_1 rfl (fun z => absurd z (nI_pos (by omega))) (fun _ => ?_)
  refine lv_iload_n hx hb dX0_octet_4 rfl (lv_at hl 1 rfl) ?_
  refine lv_sipush (v := 256) hx hb dX0_octet_5 (by decide) ?_
  refine lv_icmp_lt (tgt := 19) hx hb dX0_octet_8 rfl (fun _ => ?_) (fun z => absurd (nI_lt (b := 256) hr (by decide)) z)
  refine lv_aload_n hx hb dX0_octet_19 rfl (lv_at hl 0 rfl) ?_
  refine va_get (D := D) (ci := 0) (v := .ref x3) (C := RX0) (T := TX0) (N := 3) hx hb hts inX0 hown hK hP 0 rfl rfl 2 (by decide) (hw 20 rfl) (fun _ h9 => h9) rfl dX0_octet_20 ?_
  refine lv_iload_n hx hb dX0_octet_23 rfl (lv_at hl 1 rfl) ?_
  refine va_iald hx hb hK hP 3 0 rfl rfl (vp_in_nI (n := r) (by omega) (by decide)) dX0_octet_24 ?_
  refine sm_eqi (y := M r) (sm_cl M (n := r) (by omega)) ?_
  exact sm_iret hx hb hrt hlocks hS hP hD dX0_octet_25
set_option maxHeartbeats 4000000 in
set_option maxRecDepth 100000 in
theorem c_set (l : Launch) (D : va_G) (cI : ClassId) (x0 x1 x2 x3 : Nat) (V S M : Nat → Int32) (r : Nat) (hr : r < 16) (v n : Int32) : sm_C l yX0_set wsX0_set ({ frames := 1, cells := 0, slots := 0, locals := 20 } : Room) D vwCl [(cI, .int)] [.ref x0, .int (nI r), .int v, .int n] (sm_wX cI x0 x1 x2 x3 V S M) none (sm_wX cI x0 x1 x2 x3 (upd V r v) (upd S r n) M) := by
  refine sm_start (cc := cX0_set) (maxL := 4) (ret := none) (lv := [(0, .ref x0), (1, .int (nI r)), (2, .int v), (3, .int n)]) (by decide) rfl (Nat.le_of_ble_eq_true rfl) rfl ?_
  intro p e s m below meth c hx hb hrt hts hown hlocks hml hin hK hP hD hS hA ls hl
  have hw := sm_hw hts
  refine lv_iload_n hx hb dX0_set_0 rfl (lv_at hl 1 rfl) ?_
  refine sm_callS (As := [.int (nI r)]) (rest := []) (wr := (sm_wX cI x0 x1 x2 x3 V S M)) (wn := (sm_wX cI x0 x1 x2 x3 V S M)) (st1 := []) ⟨hx, hb, hml, hown, hts⟩ (c_checkRegister l D r (by omega)) (va_cwS 1 hts (sm_gS (i1 := 47) (i2 := 48) (i4 := 1) (i5 := 49) rfl rfl rfl rfl) rfl rfl rfl (by decide +kernel) ⟨Nat.le_of_ble_eq_true rfl, Nat.le_of_ble_eq_true rfl⟩) hK [] rfl hP hD hS hA [] [0, 1, 2, 3] rfl rfl (by decide) (by decide) (by decide) rfl hl.1 rfl (Nat.le_of_ble_eq_true rfl) dX0_set_1 ⟨Nat.le_of_ble_eq_true rfl, Nat.le_of_ble_eq_true rfl⟩ rfl rfl (fun H locs hP hD hS => ?_)
  refine lv_aload_n hx hb dX0_set_4 rfl (lv_at hl 0 rfl) ?_
  refine va_get (D := D) (ci := 0) (v := .ref x1) (C := RX0) (T := TX0) (N := 3) hx hb hts inX0 hown hK hP 0 rfl rfl 0 (by decide) (hw 18 rfl) (fun _ h9 => h9) rfl dX0_set_5 ?_
  refine lv_iload_n hx hb dX0_set_8 rfl (lv_at hl 1 rfl) ?_
  refine lv_iload_n hx hb dX0_set_9 rfl (lv_at hl 2 rfl) ?_
  refine sm_iast (f' := upd V r v) (ws' := (sm_wX cI x0 x1 x2 x3 (upd V r v) S M)) hx hb hK hP hD hS 1 0 rfl rfl (vp_in_nI (n := r) (by omega) (by decide)) dX0_set_10 (by rw [nI_clamp (by omega)]) rfl (fun H locs hP hD hS => ?_)
  refine lv_aload_n hx hb dX0_set_11 rfl (lv_at hl 0 rfl) ?_
  refine va_get (D := D) (ci := 0) (v := .ref x2) (C := RX0) (T := TX0) (N := 3) hx hb hts inX0 hown hK hP 0 rfl rfl 1 (by decide) (hw 19 rfl) (fun _ h9 => h9) rfl dX0_set_12 ?_
  refine lv_iload_n hx hb dX0_set_15 rfl (lv_at hl 1 rfl) ?_
  refine lv_iload_n hx hb dX0_set_16 rfl (lv_at hl 3 rfl) ?_
  refine sm_iast (f' := upd S r n) (ws' := (sm_wX cI x0 x1 x2 x3 (upd V r v) (upd S r n) M)) hx hb hK hP hD hS 2 0 rfl rfl (vp_in_nI (n := r) (by omega) (by decide)) dX0_set_17 (by rw [nI_clamp (by omega)]) rfl (fun H locs hP hD hS => ?_)
  exact sm_vret hx hb hrt hlocks hS hP hD dX0_set_18
set_option maxHeartbeats 4000000 in
set_option maxRecDepth 100000 in
theorem c_chosen (l : Launch) (D : va_G) (cI : ClassId) (x0 x1 x2 x3 : Nat) (V S M : Nat → Int32) (r : Nat) (hr : r < 16) : sm_C l yX0_chosen wsX0_chosen ({ frames := 0, cells := 0, slots := 0, locals := 0 } : Room) D vwCl [(cI, .int)] [.ref x0, .int (nI r)] (sm_wX cI x0 x1 x2 x3 V S M) (some (.int (sm_bI (bt (V r) 0)))) (sm_wX cI x0 x1 x2 x3 V S M) := by
  refine sm_start (cc := cX0_chosen) (maxL := 2) (ret := some .boolean) (lv := [(0, .ref x0), (1, .int (nI r))]) (by decide) rfl (Nat.le_of_ble_eq_true rfl) rfl ?_
  intro p e s m below meth c hx hb hrt hts hown hlocks hml hin hK hP hD hS hA ls hl
  have hw := sm_hw hts
  refine lv_aload_n hx hb dX0_chosen_0 rfl (lv_at hl 0 rfl) ?_
  refine va_get (D := D) (ci := 0) (v := .ref x1) (C := RX0) (T := TX0) (N := 3) hx hb hts inX0 hown hK hP 0 rfl rfl 0 (by decide) (hw 18 rfl) (fun _ h9 => h9) rfl dX0_chosen_1 ?_
  refine lv_iload_n hx hb dX0_chosen_4 rfl (lv_at hl 1 rfl) ?_
  refine va_iald hx hb hK hP 1 0 rfl rfl (vp_in_nI (n := r) (by omega) (by decide)) dX0_chosen_5 ?_
  refine sm_eqi (y := V r) (sm_cl V (n := r) (by omega)) ?_
  refine lv_iconst (v := 1) hx hb dX0_chosen_6 (by decide) ?_
  refine lv_iand hx hb dX0_chosen_7 ?_
  refine sm_eqi (y := sm_bI (bt (V r) 0)) (sm_and1 (V r)) ?_
  refine sm_ifb_eq (tgt := 15) hx hb dX0_chosen_8 rfl (fun h8 => ?_) (fun h8 => ?_)
  · refine lv_iconst (v := 0) hx hb dX0_chosen_15 (by decide) ?_
    refine sm_eqi (y := sm_bI (bt (V r) 0)) (by simp [sm_bI, h8]) ?_
    exact sm_zret hx hb hrt hlocks hS hP hD dX0_chosen_16
  · refine lv_iconst (v := 1) hx hb dX0_chosen_11 (by decide) ?_
    refine lv_goto (tgt := 16) hx hb dX0_chosen_12 rfl ?_
    refine sm_eqi (y := sm_bI (bt (V r) 0)) (by simp [sm_bI, h8]) ?_
    exact sm_zret hx hb hrt hlocks hS hP hD dX0_chosen_16
set_option maxHeartbeats 4000000 in
set_option maxRecDepth 100000 in
theorem c_choiceShadow (l : Launch) (D : va_G) (cI : ClassId) (x0 x1 x2 x3 : Nat) (V S M : Nat → Int32) (d a b : Nat) (hd : d < 16) (ha : a < 16) (hb' : b < 16) : sm_C l yX0_choiceShadow wsX0_choiceShadow ({ frames := 1, cells := 0, slots := 0, locals := 21 } : Room) D vwCl [(cI, .int)] [.ref x0, .int (nI d), .int (nI a), .int (nI b)] (sm_wX cI x0 x1 x2 x3 V S M) (some (.int (if bt (S b) 0 then S a ||| S d ||| (V a ^^^ V d) else if bt (V b) 0 then S a else S d))) (sm_wX cI x0 x1 x2 x3 V S M) := by
  refine sm_start (cc := cX0_choiceShadow) (maxL := 4) (ret := some .int) (lv := [(0, .ref x0), (1, .int (nI d)), (2, .int (nI a)), (3, .int (nI b))]) (by decide) rfl (Nat.le_of_ble_eq_true rfl) rfl ?_
  intro p e s m below meth c hx hb hrt hts hown hlocks hml hin hK hP hD hS hA ls hl
  have hw := sm_hw hts
  refine lv_aload_n hx hb dX0_choiceShadow_0 rfl (lv_at hl 0 rfl) ?_
  refine va_get (D := D) (ci := 0) (v := .ref x2) (C := RX0) (T := TX0) (N := 3) hx hb hts inX0 hown hK hP 0 rfl rfl 1 (by decide) (hw 19 rfl) (fun _ h9 => h9) rfl dX0_choiceShadow_1 ?_
  refine lv_iload_n hx hb dX0_choiceShadow_4 rfl (lv_at hl 3 rfl) ?_
  refine va_iald hx hb hK hP 2 0 rfl rfl (vp_in_nI (n := b) (by omega) (by decide)) dX0_choiceShadow_5 ?_
  refine sm_eqi (y := S b) (sm_cl S (n := b) (by omega)) ?_
  refine lv_iconst (v := 1) hx hb dX0_choiceShadow_6 (by decide) ?_
  refine lv_iand hx hb dX0_choiceShadow_7 ?_
  refine sm_eqi (y := sm_bI (bt (S b) 0)) (sm_and1 (S b)) ?_
  refine sm_ifb_eq (tgt := 39) hx hb dX0_choiceShadow_8 rfl (fun h8 => ?_) (fun h8 => ?_)
  · refine lv_aload_n hx hb dX0_choiceShadow_39 rfl (lv_at hl 0 rfl) ?_
    refine lv_iload_n hx hb dX0_choiceShadow_40 rfl (lv_at hl 3 rfl) ?_
    refine sm_callV (C := RX0) (As := [.int (nI b)]) (rest := []) (wr := []) (wn := (sm_wX cI x0 x1 x2 x3 V S M)) (st1 := [.int (sm_bI (bt (V b) 0))]) ⟨hx, hb, hml, hown, hts⟩ (c_chosen l D cI x0 x1 x2 x3 V S M b (by omega)) (cwV 1 hts (sm_gV (i1 := 136) (i2 := 137) (i3 := 345) (i4 := 1) (i5 := 138) rfl rfl rfl rfl rfl) rfl rfl rfl (by decide +kernel) ⟨Nat.le_of_ble_eq_true rfl, Nat.le_of_ble_eq_true rfl⟩) hK [0] rfl hP hD hS hA 0 rfl rfl [0, 1, 2, 3] [] rfl rfl (by decide) (by decide) (by decide) rfl hl.1 rfl (Nat.le_of_ble_eq_true rfl) dX0_choiceShadow_41 ⟨Nat.le_of_ble_eq_true rfl, Nat.le_of_ble_eq_true rfl⟩ rfl rfl (fun H locs hP hD hS => ?_)
    refine sm_ifb_eq (tgt := 56) hx hb dX0_choiceShadow_44 rfl (fun h44 => ?_) (fun h44 => ?_)
    · refine lv_aload_n hx hb dX0_choiceShadow_56 rfl (lv_at hl 0 rfl) ?_
      refine va_get (D := D) (ci := 0) (v := .ref x2) (C := RX0) (T := TX0) (N := 3) hx hb hts inX0 hown hK hP 0 rfl rfl 1 (by decide) (hw 19 rfl) (fun _ h9 => h9) rfl dX0_choiceShadow_57 ?_
      refine lv_iload_n hx hb dX0_choiceShadow_60 rfl (lv_at hl 1 rfl) ?_
      refine va_iald hx hb hK hP 2 0 rfl rfl (vp_in_nI (n := d) (by omega) (by decide)) dX0_choiceShadow_61 ?_
      refine sm_eqi (y := S d) (sm_cl S (n := d) (by omega)) ?_
      refine sm_eqi (y := if bt (S b) 0 then S a ||| S d ||| (V a ^^^ V d) else if bt (V b) 0 then S a else S d) (by simp [sm_bI, h8, h44]) ?_
      exact sm_iret hx hb hrt hlocks hS hP hD dX0_choiceShadow_62
    · refine lv_aload_n hx hb dX0_choiceShadow_47 rfl (lv_at hl 0 rfl) ?_
      refine va_get (D := D) (ci := 0) (v := .ref x2) (C := RX0) (T := TX0) (N := 3) hx hb hts inX0 hown hK hP 0 rfl rfl 1 (by decide) (hw 19 rfl) (fun _ h9 => h9) rfl dX0_choiceShadow_48 ?_
      refine lv_iload_n hx hb dX0_choiceShadow_51 rfl (lv_at hl 2 rfl) ?_
      refine va_iald hx hb hK hP 2 0 rfl rfl (vp_in_nI (n := a) (by omega) (by decide)) dX0_choiceShadow_52 ?_
      refine sm_eqi (y := S a) (sm_cl S (n := a) (by omega)) ?_
      refine lv_goto (tgt := 62) hx hb dX0_choiceShadow_53 rfl ?_
      refine sm_eqi (y := if bt (S b) 0 then S a ||| S d ||| (V a ^^^ V d) else if bt (V b) 0 then S a else S d) (by simp [sm_bI, h8, h44]) ?_
      exact sm_iret hx hb hrt hlocks hS hP hD dX0_choiceShadow_62
  · refine lv_aload_n hx hb dX0_choiceShadow_11 rfl (lv_at hl 0 rfl) ?_
    refine va_get (D := D) (ci := 0) (v := .ref x2) (C := RX0) (T := TX0) (N := 3) hx hb hts inX0 hown hK hP 0 rfl rfl 1 (by decide) (hw 19 rfl) (fun _ h9 => h9) rfl dX0_choiceShadow_12 ?_
    refine lv_iload_n hx hb dX0_choiceShadow_15 rfl (lv_at hl 2 rfl) ?_
    refine va_iald hx hb hK hP 2 0 rfl rfl (vp_in_nI (n := a) (by omega) (by decide)) dX0_choiceShadow_16 ?_
    refine sm_eqi (y := S a) (sm_cl S (n := a) (by omega)) ?_
    refine lv_aload_n hx hb dX0_choiceShadow_17 rfl (lv_at hl 0 rfl) ?_
    refine va_get (D := D) (ci := 0) (v := .ref x2) (C := RX0) (T := TX0) (N := 3) hx hb hts inX0 hown hK hP 0 rfl rfl 1 (by decide) (hw 19 rfl) (fun _ h9 => h9) rfl dX0_choiceShadow_18 ?_
    refine lv_iload_n hx hb dX0_choiceShadow_21 rfl (lv_at hl 1 rfl) ?_
    refine va_iald hx hb hK hP 2 0 rfl rfl (vp_in_nI (n := d) (by omega) (by decide)) dX0_choiceShadow_22 ?_
    refine sm_eqi (y := S d) (sm_cl S (n := d) (by omega)) ?_
    refine lv_ior hx hb dX0_choiceShadow_23 ?_
    refine lv_aload_n hx hb dX0_choiceShadow_24 rfl (lv_at hl 0 rfl) ?_
    refine va_get (D := D) (ci := 0) (v := .ref x1) (C := RX0) (T := TX0) (N := 3) hx hb hts inX0 hown hK hP 0 rfl rfl 0 (by decide) (hw 18 rfl) (fun _ h9 => h9) rfl dX0_choiceShadow_25 ?_
    refine lv_iload_n hx hb dX0_choiceShadow_28 rfl (lv_at hl 2 rfl) ?_
    refine va_iald hx hb hK hP 1 0 rfl rfl (vp_in_nI (n := a) (by omega) (by decide)) dX0_choiceShadow_29 ?_
    refine sm_eqi (y := V a) (sm_cl V (n := a) (by omega)) ?_
    refine lv_aload_n hx hb dX0_choiceShadow_30 rfl (lv_at hl 0 rfl) ?_
    refine va_get (D := D) (ci := 0) (v := .ref x1) (C := RX0) (T := TX0) (N := 3) hx hb hts inX0 hown hK hP 0 rfl rfl 0 (by decide) (hw 18 rfl) (fun _ h9 => h9) rfl dX0_choiceShadow_31 ?_
    refine lv_iload_n hx hb dX0_choiceShadow_34 rfl (lv_at hl 1 rfl) ?_
    refine va_iald hx hb hK hP 1 0 rfl rfl (vp_in_nI (n := d) (by omega) (by decide)) dX0_choiceShadow_35 ?_
    refine sm_eqi (y := V d) (sm_cl V (n := d) (by omega)) ?_
    refine lv_ixor hx hb dX0_choiceShadow_36 ?_
    refine lv_ior hx hb dX0_choiceShadow_37 ?_
    refine sm_eqi (y := if bt (S b) 0 then S a ||| S d ||| (V a ^^^ V d) else if bt (V b) 0 then S a else S d) (by simp [sm_bI, h8]) ?_
    exact sm_iret hx hb hrt hlocks hS hP hD dX0_choiceShadow_38
