set_option maxHeartbeats 4000000 in
set_option maxRecDepth 100000 in
theorem x_checkRegister (l : Launch) (hlt : l.stackTraces = false) (D : va_G)  (i : Int32) (hi : i < 0 ∨ 16 ≤ i) : sm_X l yX0_checkRegister wsX0_checkRegister ({ frames := 6, cells := 1, slots := 6, locals := 90 } : Room) D vwCl [] [.int i] [] sm_IO := by
  refine sm_startX (cc := cX0_checkRegister) (maxL := 1) (ret := none) (lv := [(0, .int i)]) (by decide) rfl (Nat.le_of_ble_eq_true rfl) rfl ?_
  intro p e s m below meth c hx hb hrt hts hown hlocks hml hne hZ hK hP hD hS hA ls hl
  have hw := sm_hw hts
  refine lv_iload_n hx hb dX0_checkRegister_0 rfl (lv_at hl 0 rfl) ?_
  refine lv_if_lt (tgt := 10) hx hb dX0_checkRegister_1 rfl (fun h1 => ?_) (fun h1 => ?_)
  · exact sm_throw0 (own := RX0) (cls := sm_IO) (names := sm_up) (ik := 50) (ic := 52) hx hb hlt hown (by decide +kernel) (by decide +kernel) (hw 50 rfl) (hw 6 rfl) (sm_own (n := 6) (k := 51) sm_memIO hts rfl hZ) hP (hl.1.trans hml.symm) dX0_checkRegister_10 dX0_checkRegister_13 dX0_checkRegister_14 dX0_checkRegister_17 (by rw [hne]; exact fun _ h => nomatch h) (Nat.le_of_ble_eq_true rfl) (Nat.le_of_ble_eq_true rfl) (Nat.le_of_ble_eq_true rfl) (Nat.le_of_ble_eq_true rfl) hlocks (Nat.le_of_ble_eq_true rfl) (Nat.le_of_ble_eq_true rfl)
  · refine lv_iload_n hx hb dX0_checkRegister_4 rfl (lv_at hl 0 rfl) ?_
    refine lv_bipush (v := 16) hx hb dX0_checkRegister_5 (by decide) ?_
    refine lv_icmp_lt (tgt := 18) hx hb dX0_checkRegister_7 rfl (fun z => absurd z (sm_orf hi h1)) (fun _ => ?_)
    exact sm_throw0 (own := RX0) (cls := sm_IO) (names := sm_up) (ik := 50) (ic := 52) hx hb hlt hown (by decide +kernel) (by decide +kernel) (hw 50 rfl) (hw 6 rfl) (sm_own (n := 6) (k := 51) sm_memIO hts rfl hZ) hP (hl.1.trans hml.symm) dX0_checkRegister_10 dX0_checkRegister_13 dX0_checkRegister_14 dX0_checkRegister_17 (by rw [hne]; exact fun _ h => nomatch h) (Nat.le_of_ble_eq_true rfl) (Nat.le_of_ble_eq_true rfl) (Nat.le_of_ble_eq_true rfl) (Nat.le_of_ble_eq_true rfl) hlocks (Nat.le_of_ble_eq_true rfl) (Nat.le_of_ble_eq_true rfl)
set_option maxHeartbeats 4000000 in
set_option maxRecDepth 100000 in
theorem x_value (l : Launch) (hlt : l.stackTraces = false) (D : va_G) (cI : ClassId) (x0 x1 x2 x3 : Nat) (V S M : Nat → Int32) (i : Int32) (hi : i < 0 ∨ 16 ≤ i) : sm_X l yX0_value wsX0_value ({ frames := 7, cells := 1, slots := 6, locals := 110 } : Room) D vwCl [(cI, .int)] [.ref x0, .int i] (sm_wX cI x0 x1 x2 x3 V S M) sm_IO := by
  refine sm_startX (cc := cX0_value) (maxL := 2) (ret := some .int) (lv := [(0, .ref x0), (1, .int i)]) (by decide) rfl (Nat.le_of_ble_eq_true rfl) rfl ?_
  intro p e s m below meth c hx hb hrt hts hown hlocks hml hne hZ hK hP hD hS hA ls hl
  have hw := sm_hw hts
  refine lv_iload_n hx hb dX0_value_0 rfl (lv_at hl 1 rfl) ?_
  refine sm_xS (As := [.int i]) (rest := []) (wr := (sm_wX cI x0 x1 x2 x3 V S M)) ⟨hx, hb, hml, hown, hts⟩ (x_checkRegister l hlt D i hi) (va_cwS 1 hts (sm_gS (i1 := 47) (i2 := 48) (i4 := 1) (i5 := 49) rfl rfl rfl rfl) rfl rfl rfl (by decide +kernel) ⟨Nat.le_of_ble_eq_true rfl, Nat.le_of_ble_eq_true rfl⟩) hK [] rfl hZ hP hD hS hA [] [0, 1, 2, 3] rfl rfl (by decide) (by decide) (by decide) rfl hl.1 rfl (Nat.le_of_ble_eq_true rfl) dX0_value_1 ⟨Nat.le_of_ble_eq_true rfl, Nat.le_of_ble_eq_true rfl⟩ (fun q ce H locs hce hv hcl hP hD hS => ?_)
  exact sm_vout (by rw [hne]; exact fun _ h => nomatch h) hlocks hce hv hcl (show va_P D vwCl (sm_wX cI x0 x1 x2 x3 V S M) H from hP) hS (Nat.le_of_ble_eq_true rfl) (Nat.le_of_ble_eq_true rfl)
set_option maxHeartbeats 4000000 in
set_option maxRecDepth 100000 in
theorem x_not (l : Launch) (hlt : l.stackTraces = false) (D : va_G) (cI : ClassId) (x0 x1 x2 x3 : Nat) (V S M : Nat → Int32) (i : Int32) (hi : i < 0 ∨ 16 ≤ i) : sm_X l yX0_not wsX0_not ({ frames := 7, cells := 1, slots := 6, locals := 110 } : Room) D vwCl [(cI, .int)] [.ref x0, .int i] (sm_wX cI x0 x1 x2 x3 V S M) sm_IO := by
  refine sm_startX (cc := cX0_not) (maxL := 2) (ret := some .int) (lv := [(0, .ref x0), (1, .int i)]) (by decide) rfl (Nat.le_of_ble_eq_true rfl) rfl ?_
  intro p e s m below meth c hx hb hrt hts hown hlocks hml hne hZ hK hP hD hS hA ls hl
  have hw := sm_hw hts
  refine lv_iload_n hx hb dX0_not_0 rfl (lv_at hl 1 rfl) ?_
  refine sm_xS (As := [.int i]) (rest := []) (wr := (sm_wX cI x0 x1 x2 x3 V S M)) ⟨hx, hb, hml, hown, hts⟩ (x_checkRegister l hlt D i hi) (va_cwS 1 hts (sm_gS (i1 := 47) (i2 := 48) (i4 := 1) (i5 := 49) rfl rfl rfl rfl) rfl rfl rfl (by decide +kernel) ⟨Nat.le_of_ble_eq_true rfl, Nat.le_of_ble_eq_true rfl⟩) hK [] rfl hZ hP hD hS hA [] [0, 1, 2, 3] rfl rfl (by decide) (by decide) (by decide) rfl hl.1 rfl (Nat.le_of_ble_eq_true rfl) dX0_not_1 ⟨Nat.le_of_ble_eq_true rfl, Nat.le_of_ble_eq_true rfl⟩ (fun q ce H locs hce hv hcl hP hD hS => ?_)
  exact sm_vout (by rw [hne]; exact fun _ h => nomatch h) hlocks hce hv hcl (show va_P D vwCl (sm_wX cI x0 x1 x2 x3 V S M) H from hP) hS (Nat.le_of_ble_eq_true rfl) (Nat.le_of_ble_eq_true rfl)
set_option maxHeartbeats 4000000 in
set_option maxRecDepth 100000 in
theorem x_least (l : Launch) (hlt : l.stackTraces = false) (D : va_G) (cI : ClassId) (x0 x1 x2 x3 : Nat) (V S M : Nat → Int32) (i : Int32) (hi : i < 0 ∨ 16 ≤ i) : sm_X l yX0_least wsX0_least ({ frames := 7, cells := 1, slots := 6, locals := 110 } : Room) D vwCl [(cI, .int)] [.ref x0, .int i] (sm_wX cI x0 x1 x2 x3 V S M) sm_IO := by
  refine sm_startX (cc := cX0_least) (maxL := 2) (ret := some .int) (lv := [(0, .ref x0), (1, .int i)]) (by decide) rfl (Nat.le_of_ble_eq_true rfl) rfl ?_
  intro p e s m below meth c hx hb hrt hts hown hlocks hml hne hZ hK hP hD hS hA ls hl
  have hw := sm_hw hts
  refine lv_iload_n hx hb dX0_least_0 rfl (lv_at hl 1 rfl) ?_
  refine sm_xS (As := [.int i]) (rest := []) (wr := (sm_wX cI x0 x1 x2 x3 V S M)) ⟨hx, hb, hml, hown, hts⟩ (x_checkRegister l hlt D i hi) (va_cwS 1 hts (sm_gS (i1 := 47) (i2 := 48) (i4 := 1) (i5 := 49) rfl rfl rfl rfl) rfl rfl rfl (by decide +kernel) ⟨Nat.le_of_ble_eq_true rfl, Nat.le_of_ble_eq_true rfl⟩) hK [] rfl hZ hP hD hS hA [] [0, 1, 2, 3] rfl rfl (by decide) (by decide) (by decide) rfl hl.1 rfl (Nat.le_of_ble_eq_true rfl) dX0_least_1 ⟨Nat.le_of_ble_eq_true rfl, Nat.le_of_ble_eq_true rfl⟩ (fun q ce H locs hce hv hcl hP hD hS => ?_)
  exact sm_vout (by rw [hne]; exact fun _ h => nomatch h) hlocks hce hv hcl (show va_P D vwCl (sm_wX cI x0 x1 x2 x3 V S M) H from hP) hS (Nat.le_of_ble_eq_true rfl) (Nat.le_of_ble_eq_true rfl)
set_option maxHeartbeats 4000000 in
set_option maxRecDepth 100000 in
theorem x_greatest (l : Launch) (hlt : l.stackTraces = false) (D : va_G) (cI : ClassId) (x0 x1 x2 x3 : Nat) (V S M : Nat → Int32) (i : Int32) (hi : i < 0 ∨ 16 ≤ i) : sm_X l yX0_greatest wsX0_greatest ({ frames := 7, cells := 1, slots := 6, locals := 110 } : Room) D vwCl [(cI, .int)] [.ref x0, .int i] (sm_wX cI x0 x1 x2 x3 V S M) sm_IO := by
  refine sm_startX (cc := cX0_greatest) (maxL := 2) (ret := some .int) (lv := [(0, .ref x0), (1, .int i)]) (by decide) rfl (Nat.le_of_ble_eq_true rfl) rfl ?_
  intro p e s m below meth c hx hb hrt hts hown hlocks hml hne hZ hK hP hD hS hA ls hl
  have hw := sm_hw hts
  refine lv_iload_n hx hb dX0_greatest_0 rfl (lv_at hl 1 rfl) ?_
  refine sm_xS (As := [.int i]) (rest := []) (wr := (sm_wX cI x0 x1 x2 x3 V S M)) ⟨hx, hb, hml, hown, hts⟩ (x_checkRegister l hlt D i hi) (va_cwS 1 hts (sm_gS (i1 := 47) (i2 := 48) (i4 := 1) (i5 := 49) rfl rfl rfl rfl) rfl rfl rfl (by decide +kernel) ⟨Nat.le_of_ble_eq_true rfl, Nat.le_of_ble_eq_true rfl⟩) hK [] rfl hZ hP hD hS hA [] [0, 1, 2, 3] rfl rfl (by decide) (by decide) (by decide) rfl hl.1 rfl (Nat.le_of_ble_eq_true rfl) dX0_greatest_1 ⟨Nat.le_of_ble_eq_true rfl, Nat.le_of_ble_eq_true rfl⟩ (fun q ce H locs hce hv hcl hP hD hS => ?_)
  exact sm_vout (by rw [hne]; exact fun _ h => nomatch h) hlocks hce hv hcl (show va_P D vwCl (sm_wX cI x0 x1 x2 x3 V S M) H from hP) hS (Nat.le_of_ble_eq_true rfl) (Nat.le_of_ble_eq_true rfl)
set_option maxHeartbeats 4000000 in
set_option maxRecDepth 100000 in
theorem x_set (l : Launch) (hlt : l.stackTraces = false) (D : va_G) (cI : ClassId) (x0 x1 x2 x3 : Nat) (V S M : Nat → Int32) (i : Int32) (hi : i < 0 ∨ 16 ≤ i) (v n : Int32) : sm_X l yX0_set wsX0_set ({ frames := 7, cells := 1, slots := 6, locals := 110 } : Room) D vwCl [(cI, .int)] [.ref x0, .int i, .int v, .int n] (sm_wX cI x0 x1 x2 x3 V S M) sm_IO := by
  refine sm_startX (cc := cX0_set) (maxL := 4) (ret := none) (lv := [(0, .ref x0), (1, .int i), (2, .int v), (3, .int n)]) (by decide) rfl (Nat.le_of_ble_eq_true rfl) rfl ?_
  intro p e s m below meth c hx hb hrt hts hown hlocks hml hne hZ hK hP hD hS hA ls hl
  have hw := sm_hw hts
  refine lv_iload_n hx hb dX0_set_0 rfl (lv_at hl 1 rfl) ?_
  refine sm_xS (As := [.int i]) (rest := []) (wr := (sm_wX cI x0 x1 x2 x3 V S M)) ⟨hx, hb, hml, hown, hts⟩ (x_checkRegister l hlt D i hi) (va_cwS 1 hts (sm_gS (i1 := 47) (i2 := 48) (i4 := 1) (i5 := 49) rfl rfl rfl rfl) rfl rfl rfl (by decide +kernel) ⟨Nat.le_of_ble_eq_true rfl, Nat.le_of_ble_eq_true rfl⟩) hK [] rfl hZ hP hD hS hA [] [0, 1, 2, 3] rfl rfl (by decide) (by decide) (by decide) rfl hl.1 rfl (Nat.le_of_ble_eq_true rfl) dX0_set_1 ⟨Nat.le_of_ble_eq_true rfl, Nat.le_of_ble_eq_true rfl⟩ (fun q ce H locs hce hv hcl hP hD hS => ?_)
  exact sm_vout (by rw [hne]; exact fun _ h => nomatch h) hlocks hce hv hcl (show va_P D vwCl (sm_wX cI x0 x1 x2 x3 V S M) H from hP) hS (Nat.le_of_ble_eq_true rfl) (Nat.le_of_ble_eq_true rfl)
set_option maxHeartbeats 4000000 in
set_option maxRecDepth 100000 in
theorem x_octet (l : Launch) (hlt : l.stackTraces = false) (D : va_G) (cI : ClassId) (x0 x1 x2 x3 : Nat) (V S M : Nat → Int32) (i : Int32) (hi : i < 0 ∨ 256 ≤ i) : sm_X l yX0_octet wsX0_octet ({ frames := 6, cells := 1, slots := 6, locals := 90 } : Room) D vwCl [(cI, .int)] [.ref x0, .int i] (sm_wX cI x0 x1 x2 x3 V S M) sm_IO := by
  refine sm_startX (cc := cX0_octet) (maxL := 2) (ret := some .int) (lv := [(0, .ref x0), (1, .int i)]) (by decide) rfl (Nat.le_of_ble_eq_true rfl) rfl ?_
  intro p e s m below meth c hx hb hrt hts hown hlocks hml hne hZ hK hP hD hS hA ls hl
  have hw := sm_hw hts
  refine lv_iload_n hx hb dX0_octet_0 rfl (lv_at hl 1 rfl) ?_
  refine lv_if_lt (tgt := 11) hx hb dX0_octet_1 rfl (fun h1 => ?_) (fun h1 => ?_)
  · exact sm_throw0 (own := RX0) (cls := sm_IO) (names := sm_up) (ik := 50) (ic := 52) hx hb hlt hown (by decide +kernel) (by decide +kernel) (hw 50 rfl) (hw 6 rfl) (sm_own (n := 6) (k := 51) sm_memIO hts rfl hZ) hP (hl.1.trans hml.symm) dX0_octet_11 dX0_octet_14 dX0_octet_15 dX0_octet_18 (by rw [hne]; exact fun _ h => nomatch h) (Nat.le_of_ble_eq_true rfl) (Nat.le_of_ble_eq_true rfl) (Nat.le_of_ble_eq_true rfl) (Nat.le_of_ble_eq_true rfl) hlocks (Nat.le_of_ble_eq_true rfl) (Nat.le_of_ble_eq_true rfl)
  · refine lv_iload_n hx hb dX0_octet_4 rfl (lv_at hl 1 rfl) ?_
    refine lv_sipush (v := 256) hx hb dX0_octet_5 (by decide) ?_
    refine lv_icmp_lt (tgt := 19) hx hb dX0_octet_8 rfl (fun z => absurd z (sm_orf hi h1)) (fun _ => ?_)
    exact sm_throw0 (own := RX0) (cls := sm_IO) (names := sm_up) (ik := 50) (ic := 52) hx hb hlt hown (by decide +kernel) (by decide +kernel) (hw 50 rfl) (hw 6 rfl) (sm_own (n := 6) (k := 51) sm_memIO hts rfl hZ) hP (hl.1.trans hml.symm) dX0_octet_11 dX0_octet_14 dX0_octet_15 dX0_octet_18 (by rw [hne]; exact fun _ h => nomatch h) (Nat.le_of_ble_eq_true rfl) (Nat.le_of_ble_eq_true rfl) (Nat.le_of_ble_eq_true rfl) (Nat.le_of_ble_eq_true rfl) hlocks (Nat.le_of_ble_eq_true rfl) (Nat.le_of_ble_eq_true rfl)
set_option maxHeartbeats 4000000 in
set_option maxRecDepth 100000 in
theorem x_op0 (l : Launch) (hlt : l.stackTraces = false) (D : va_G) (cI : ClassId) (x0 x1 x2 x3 : Nat) (V S M : Nat → Int32) (o d a b : Int32) (ho : o < 0 ∨ 12 < o) : sm_X l yX0_op wsX0_op ({ frames := 6, cells := 1, slots := 6, locals := 90 } : Room) D vwCl [(cI, .int)] [.ref x0, .int o, .int d, .int a, .int b] (sm_wX cI x0 x1 x2 x3 V S M) sm_IA := by
  refine sm_startX (cc := cX0_op) (maxL := 7) (ret := none) (lv := [(0, .ref x0), (1, .int o), (2, .int d), (3, .int a), (4, .int b)]) (by decide) rfl (Nat.le_of_ble_eq_true rfl) rfl ?_
  intro p e s m below meth c hx hb hrt hts hown hlocks hml hne hZ hK hP hD hS hA ls hl
  have hw := sm_hw hts
  refine lv_iload_n hx hb dX0_op_0 rfl (lv_at hl 1 rfl) ?_
  refine lv_if_lt (tgt := 10) hx hb dX0_op_1 rfl (fun h1 => ?_) (fun h1 => ?_)
  · exact sm_throw0 (own := RX0) (cls := sm_IA) (names := sm_up) (ik := 25) (ic := 27) hx hb hlt hown (by decide +kernel) (by decide +kernel) (hw 109 rfl) (hw 7 rfl) (sm_own (n := 6) (k := 110) sm_memIA hts rfl hZ) hP (hl.1.trans hml.symm) dX0_op_10 dX0_op_13 dX0_op_14 dX0_op_17 (by rw [hne]; exact fun _ h => nomatch h) (Nat.le_of_ble_eq_true rfl) (Nat.le_of_ble_eq_true rfl) (Nat.le_of_ble_eq_true rfl) (Nat.le_of_ble_eq_true rfl) hlocks (Nat.le_of_ble_eq_true rfl) (Nat.le_of_ble_eq_true rfl)
  · refine lv_iload_n hx hb dX0_op_4 rfl (lv_at hl 1 rfl) ?_
    refine lv_bipush (v := 12) hx hb dX0_op_5 (by decide) ?_
    refine lv_icmp_le (tgt := 18) hx hb dX0_op_7 rfl (fun z => absurd z (sm_orl ho h1)) (fun _ => ?_)
    exact sm_throw0 (own := RX0) (cls := sm_IA) (names := sm_up) (ik := 25) (ic := 27) hx hb hlt hown (by decide +kernel) (by decide +kernel) (hw 109 rfl) (hw 7 rfl) (sm_own (n := 6) (k := 110) sm_memIA hts rfl hZ) hP (hl.1.trans hml.symm) dX0_op_10 dX0_op_13 dX0_op_14 dX0_op_17 (by rw [hne]; exact fun _ h => nomatch h) (Nat.le_of_ble_eq_true rfl) (Nat.le_of_ble_eq_true rfl) (Nat.le_of_ble_eq_true rfl) (Nat.le_of_ble_eq_true rfl) hlocks (Nat.le_of_ble_eq_true rfl) (Nat.le_of_ble_eq_true rfl)
set_option maxHeartbeats 4000000 in
set_option maxRecDepth 100000 in
theorem x_op1 (l : Launch) (hlt : l.stackTraces = false) (D : va_G) (cI : ClassId) (x0 x1 x2 x3 : Nat) (V S M : Nat → Int32) (o : Nat) (ho : o < 13) (a b : Int32) (i : Int32) (hi : i < 0 ∨ 16 ≤ i) : sm_X l yX0_op wsX0_op ({ frames := 7, cells := 1, slots := 6, locals := 130 } : Room) D vwCl [(cI, .int)] [.ref x0, .int (nI o), .int i, .int a, .int b] (sm_wX cI x0 x1 x2 x3 V S M) sm_IO := by
  refine sm_startX (cc := cX0_op) (maxL := 7) (ret := none) (lv := [(0, .ref x0), (1, .int (nI o)), (2, .int i), (3, .int a), (4, .int b)]) (by decide) rfl (Nat.le_of_ble_eq_true rfl) rfl ?_
  intro p e s m below meth c hx hb hrt hts hown hlocks hml hne hZ hK hP hD hS hA ls hl
  have hw := sm_hw hts
  refine lv_iload_n hx hb dX0_op_0 rfl (lv_at hl 1 rfl) ?_
  refine lv_if_lt (tgt := 10) hx hb dX0_op_1 rfl (fun z => absurd z (nI_pos (by omega))) (fun _ => ?_)
  refine lv_iload_n hx hb dX0_op_4 rfl (lv_at hl 1 rfl) ?_
  refine lv_bipush (v := 12) hx hb dX0_op_5 (by decide) ?_
  refine lv_icmp_le (tgt := 18) hx hb dX0_op_7 rfl (fun _ => ?_) (fun z => absurd (nI_le (b := 12) (by omega) (by decide)) z)
  refine lv_iload_n hx hb dX0_op_18 rfl (lv_at hl 2 rfl) ?_
  refine sm_xS (As := [.int i]) (rest := []) (wr := (sm_wX cI x0 x1 x2 x3 V S M)) ⟨hx, hb, hml, hown, hts⟩ (x_checkRegister l hlt D i hi) (va_cwS 1 hts (sm_gS (i1 := 47) (i2 := 48) (i4 := 1) (i5 := 49) rfl rfl rfl rfl) rfl rfl rfl (by decide +kernel) ⟨Nat.le_of_ble_eq_true rfl, Nat.le_of_ble_eq_true rfl⟩) hK [] rfl hZ hP hD hS hA [] [0, 1, 2, 3] rfl rfl (by decide) (by decide) (by decide) rfl hl.1 rfl (Nat.le_of_ble_eq_true rfl) dX0_op_19 ⟨Nat.le_of_ble_eq_true rfl, Nat.le_of_ble_eq_true rfl⟩ (fun q ce H locs hce hv hcl hP hD hS => ?_)
  exact sm_vout (by rw [hne]; exact fun _ h => nomatch h) hlocks hce hv hcl (show va_P D vwCl (sm_wX cI x0 x1 x2 x3 V S M) H from hP) hS (Nat.le_of_ble_eq_true rfl) (Nat.le_of_ble_eq_true rfl)
set_option maxHeartbeats 4000000 in
set_option maxRecDepth 100000 in
theorem x_op2 (l : Launch) (hlt : l.stackTraces = false) (D : va_G) (cI : ClassId) (x0 x1 x2 x3 : Nat) (V S M : Nat → Int32) (o d : Nat) (ho : o < 13) (hd : d < 16) (b : Int32) (i : Int32) (hi : i < 0 ∨ 16 ≤ i) : sm_X l yX0_op wsX0_op ({ frames := 7, cells := 1, slots := 6, locals := 130 } : Room) D vwCl [(cI, .int)] [.ref x0, .int (nI o), .int (nI d), .int i, .int b] (sm_wX cI x0 x1 x2 x3 V S M) sm_IO := by
  refine sm_startX (cc := cX0_op) (maxL := 7) (ret := none) (lv := [(0, .ref x0), (1, .int (nI o)), (2, .int (nI d)), (3, .int i), (4, .int b)]) (by decide) rfl (Nat.le_of_ble_eq_true rfl) rfl ?_
  intro p e s m below meth c hx hb hrt hts hown hlocks hml hne hZ hK hP hD hS hA ls hl
  have hw := sm_hw hts
  refine lv_iload_n hx hb dX0_op_0 rfl (lv_at hl 1 rfl) ?_
  refine lv_if_lt (tgt := 10) hx hb dX0_op_1 rfl (fun z => absurd z (nI_pos (by omega))) (fun _ => ?_)
  refine lv_iload_n hx hb dX0_op_4 rfl (lv_at hl 1 rfl) ?_
  refine lv_bipush (v := 12) hx hb dX0_op_5 (by decide) ?_
  refine lv_icmp_le (tgt := 18) hx hb dX0_op_7 rfl (fun _ => ?_) (fun z => absurd (nI_le (b := 12) (by omega) (by decide)) z)
  refine lv_iload_n hx hb dX0_op_18 rfl (lv_at hl 2 rfl) ?_
  refine sm_callS (As := [.int (nI d)]) (rest := []) (wr := (sm_wX cI x0 x1 x2 x3 V S M)) (wn := (sm_wX cI x0 x1 x2 x3 V S M)) (st1 := []) ⟨hx, hb, hml, hown, hts⟩ (c_checkRegister l D d (by omega)) (va_cwS 1 hts (sm_gS (i1 := 47) (i2 := 48) (i4 := 1) (i5 := 49) rfl rfl rfl rfl) rfl rfl rfl (by decide +kernel) ⟨Nat.le_of_ble_eq_true rfl, Nat.le_of_ble_eq_true rfl⟩) hK [] rfl hP hD hS hA [] [0, 1, 2, 3] rfl rfl (by decide) (by decide) (by decide) rfl hl.1 rfl (Nat.le_of_ble_eq_true rfl) dX0_op_19 ⟨Nat.le_of_ble_eq_true rfl, Nat.le_of_ble_eq_true rfl⟩ rfl rfl (fun H locs hP hD hS => ?_)
  refine lv_iload_n hx hb dX0_op_22 rfl (lv_at hl 3 rfl) ?_
  refine sm_xS (As := [.int i]) (rest := []) (wr := (sm_wX cI x0 x1 x2 x3 V S M)) ⟨hx, hb, hml, hown, hts⟩ (x_checkRegister l hlt D i hi) (va_cwS 1 hts (sm_gS (i1 := 47) (i2 := 48) (i4 := 1) (i5 := 49) rfl rfl rfl rfl) rfl rfl rfl (by decide +kernel) ⟨Nat.le_of_ble_eq_true rfl, Nat.le_of_ble_eq_true rfl⟩) hK [] rfl hZ hP hD hS hA [] [0, 1, 2, 3] rfl rfl (by decide) (by decide) (by decide) rfl hl.1 rfl (Nat.le_of_ble_eq_true rfl) dX0_op_23 ⟨Nat.le_of_ble_eq_true rfl, Nat.le_of_ble_eq_true rfl⟩ (fun q ce H locs hce hv hcl hP hD hS => ?_)
  exact sm_vout (by rw [hne]; exact fun _ h => nomatch h) hlocks hce hv hcl (show va_P D vwCl (sm_wX cI x0 x1 x2 x3 V S M) H from hP) hS (Nat.le_of_ble_eq_true rfl) (Nat.le_of_ble_eq_true rfl)
set_option maxHeartbeats 4000000 in
set_option maxRecDepth 100000 in
theorem x_op3 (l : Launch) (hlt : l.stackTraces = false) (D : va_G) (cI : ClassId) (x0 x1 x2 x3 : Nat) (V S M : Nat → Int32) (o d a : Nat) (ho : o < 13) (hd : d < 16) (ha : a < 16) (i : Int32) (hi : i < 0 ∨ 16 ≤ i) : sm_X l yX0_op wsX0_op ({ frames := 7, cells := 1, slots := 6, locals := 130 } : Room) D vwCl [(cI, .int)] [.ref x0, .int (nI o), .int (nI d), .int (nI a), .int i] (sm_wX cI x0 x1 x2 x3 V S M) sm_IO := by
  refine sm_startX (cc := cX0_op) (maxL := 7) (ret := none) (lv := [(0, .ref x0), (1, .int (nI o)), (2, .int (nI d)), (3, .int (nI a)), (4, .int i)]) (by decide) rfl (Nat.le_of_ble_eq_true rfl) rfl ?_
  intro p e s m below meth c hx hb hrt hts hown hlocks hml hne hZ hK hP hD hS hA ls hl
  have hw := sm_hw hts
  refine lv_iload_n hx hb dX0_op_0 rfl (lv_at hl 1 rfl) ?_
  refine lv_if_lt (tgt := 10) hx hb dX0_op_1 rfl (fun z => absurd z (nI_pos (by omega))) (fun _ => ?_)
  refine lv_iload_n hx hb dX0_op_4 rfl (lv_at hl 1 rfl) ?_
  refine lv_bipush (v := 12) hx hb dX0_op_5 (by decide) ?_
  refine lv_icmp_le (tgt := 18) hx hb dX0_op_7 rfl (fun _ => ?_) (fun z => absurd (nI_le (b := 12) (by omega) (by decide)) z)
  refine lv_iload_n hx hb dX0_op_18 rfl (lv_at hl 2 rfl) ?_
  refine sm_callS (As := [.int (nI d)]) (rest := []) (wr := (sm_wX cI x0 x1 x2 x3 V S M)) (wn := (sm_wX cI x0 x1 x2 x3 V S M)) (st1 := []) ⟨hx, hb, hml, hown, hts⟩ (c_checkRegister l D d (by omega)) (va_cwS 1 hts (sm_gS (i1 := 47) (i2 := 48) (i4 := 1) (i5 := 49) rfl rfl rfl rfl) rfl rfl rfl (by decide +kernel) ⟨Nat.le_of_ble_eq_true rfl, Nat.le_of_ble_eq_true rfl⟩) hK [] rfl hP hD hS hA [] [0, 1, 2, 3] rfl rfl (by decide) (by decide) (by decide) rfl hl.1 rfl (Nat.le_of_ble_eq_true rfl) dX0_op_19 ⟨Nat.le_of_ble_eq_true rfl, Nat.le_of_ble_eq_true rfl⟩ rfl rfl (fun H locs hP hD hS => ?_)
  refine lv_iload_n hx hb dX0_op_22 rfl (lv_at hl 3 rfl) ?_
  refine sm_callS (As := [.int (nI a)]) (rest := []) (wr := (sm_wX cI x0 x1 x2 x3 V S M)) (wn := (sm_wX cI x0 x1 x2 x3 V S M)) (st1 := []) ⟨hx, hb, hml, hown, hts⟩ (c_checkRegister l D a (by omega)) (va_cwS 1 hts (sm_gS (i1 := 47) (i2 := 48) (i4 := 1) (i5 := 49) rfl rfl rfl rfl) rfl rfl rfl (by decide +kernel) ⟨Nat.le_of_ble_eq_true rfl, Nat.le_of_ble_eq_true rfl⟩) hK [] rfl hP hD hS hA [] [0, 1, 2, 3] rfl rfl (by decide) (by decide) (by decide) rfl hl.1 rfl (Nat.le_of_ble_eq_true rfl) dX0_op_23 ⟨Nat.le_of_ble_eq_true rfl, Nat.le_of_ble_eq_true rfl⟩ rfl rfl (fun H locs hP hD hS => ?_)
  refine lv_iload hx hb dX0_op_26 (lv_at hl 4 rfl) ?_
  refine sm_xS (As := [.int i]) (rest := []) (wr := (sm_wX cI x0 x1 x2 x3 V S M)) ⟨hx, hb, hml, hown, hts⟩ (x_checkRegister l hlt D i hi) (va_cwS 1 hts (sm_gS (i1 := 47) (i2 := 48) (i4 := 1) (i5 := 49) rfl rfl rfl rfl) rfl rfl rfl (by decide +kernel) ⟨Nat.le_of_ble_eq_true rfl, Nat.le_of_ble_eq_true rfl⟩) hK [] rfl hZ hP hD hS hA [] [0, 1, 2, 3] rfl rfl (by decide) (by decide) (by decide) rfl hl.1 rfl (Nat.le_of_ble_eq_true rfl) dX0_op_28 ⟨Nat.le_of_ble_eq_true rfl, Nat.le_of_ble_eq_true rfl⟩ (fun q ce H locs hce hv hcl hP hD hS => ?_)
  exact sm_vout (by rw [hne]; exact fun _ h => nomatch h) hlocks hce hv hcl (show va_P D vwCl (sm_wX cI x0 x1 x2 x3 V S M) H from hP) hS (Nat.le_of_ble_eq_true rfl) (Nat.le_of_ble_eq_true rfl)
set_option maxHeartbeats 4000000 in
set_option maxRecDepth 100000 in
theorem x_ct0 (l : Launch) (hlt : l.stackTraces = false) (D : va_G)  (r t n : Int32) (h1' : ¬ n = 1) (h2' : ¬ n = 2) (h4' : ¬ n = 4) : sm_X l yX0_checkTransfer wsX0_checkTransfer ({ frames := 7, cells := 1, slots := 6, locals := 130 } : Room) D vwCl [] [.int r, .int t, .int n] [] sm_IA := by
  refine sm_startX (cc := cX0_checkTransfer) (maxL := 3) (ret := none) (lv := [(0, .int r), (1, .int t), (2, .int n)]) (by decide) rfl (Nat.le_of_ble_eq_true rfl) rfl ?_
  intro p e s m below meth c hx hb hrt hts hown hlocks hml hne hZ hK hP hD hS hA ls hl
  have hw := sm_hw hts
  refine lv_iload_n hx hb dX0_checkTransfer_0 rfl (lv_at hl 2 rfl) ?_
  refine lv_iconst (v := 1) hx hb dX0_checkTransfer_1 (by decide) ?_
  refine lv_icmp_eq (tgt := 23) hx hb dX0_checkTransfer_2 rfl (fun z => absurd z (h1')) (fun _ => ?_)
  refine lv_iload_n hx hb dX0_checkTransfer_5 rfl (lv_at hl 2 rfl) ?_
  refine lv_iconst (v := 2) hx hb dX0_checkTransfer_6 (by decide) ?_
  refine lv_icmp_eq (tgt := 23) hx hb dX0_checkTransfer_7 rfl (fun z => absurd z (h2')) (fun _ => ?_)
  refine lv_iload_n hx hb dX0_checkTransfer_10 rfl (lv_at hl 2 rfl) ?_
  refine lv_iconst (v := 4) hx hb dX0_checkTransfer_11 (by decide) ?_
  refine lv_icmp_eq (tgt := 23) hx hb dX0_checkTransfer_12 rfl (fun z => absurd z (h4')) (fun _ => ?_)
  exact sm_throw0 (own := RX0) (cls := sm_IA) (names := sm_up) (ik := 25) (ic := 27) hx hb hlt hown (by decide +kernel) (by decide +kernel) (hw 109 rfl) (hw 7 rfl) (sm_own (n := 6) (k := 110) sm_memIA hts rfl hZ) hP (hl.1.trans hml.symm) dX0_checkTransfer_15 dX0_checkTransfer_18 dX0_checkTransfer_19 dX0_checkTransfer_22 (by rw [hne]; exact fun _ h => nomatch h) (Nat.le_of_ble_eq_true rfl) (Nat.le_of_ble_eq_true rfl) (Nat.le_of_ble_eq_true rfl) (Nat.le_of_ble_eq_true rfl) hlocks (Nat.le_of_ble_eq_true rfl) (Nat.le_of_ble_eq_true rfl)
set_option maxHeartbeats 4000000 in
set_option maxRecDepth 100000 in
theorem x_ct1_1 (l : Launch) (hlt : l.stackTraces = false) (D : va_G)  (r i : Int32) (hi : i < 0 ∨ 255 < i) : sm_X l yX0_checkTransfer wsX0_checkTransfer ({ frames := 7, cells := 1, slots := 6, locals := 130 } : Room) D vwCl [] [.int r, .int i, .int 1] [] sm_IO := by
  refine sm_startX (cc := cX0_checkTransfer) (maxL := 3) (ret := none) (lv := [(0, .int r), (1, .int i), (2, .int 1)]) (by decide) rfl (Nat.le_of_ble_eq_true rfl) rfl ?_
  intro p e s m below meth c hx hb hrt hts hown hlocks hml hne hZ hK hP hD hS hA ls hl
  have hw := sm_hw hts
  refine lv_iload_n hx hb dX0_checkTransfer_0 rfl (lv_at hl 2 rfl) ?_
  refine lv_iconst (v := 1) hx hb dX0_checkTransfer_1 (by decide) ?_
  refine lv_icmp_eq (tgt := 23) hx hb dX0_checkTransfer_2 rfl (fun _ => ?_) (fun z => absurd (by decide) z)
  refine lv_iload_n hx hb dX0_checkTransfer_23 rfl (lv_at hl 1 rfl) ?_
  refine lv_if_lt (tgt := 36) hx hb dX0_checkTransfer_24 rfl (fun h24 => ?_) (fun h24 => ?_)
  · exact sm_throw0 (own := RX0) (cls := sm_IO) (names := sm_up) (ik := 50) (ic := 52) hx hb hlt hown (by decide +kernel) (by decide +kernel) (hw 50 rfl) (hw 6 rfl) (sm_own (n := 6) (k := 51) sm_memIO hts rfl hZ) hP (hl.1.trans hml.symm) dX0_checkTransfer_36 dX0_checkTransfer_39 dX0_checkTransfer_40 dX0_checkTransfer_43 (by rw [hne]; exact fun _ h => nomatch h) (Nat.le_of_ble_eq_true rfl) (Nat.le_of_ble_eq_true rfl) (Nat.le_of_ble_eq_true rfl) (Nat.le_of_ble_eq_true rfl) hlocks (Nat.le_of_ble_eq_true rfl) (Nat.le_of_ble_eq_true rfl)
  · refine lv_iload_n hx hb dX0_checkTransfer_27 rfl (lv_at hl 1 rfl) ?_
    refine lv_sipush (v := 256) hx hb dX0_checkTransfer_28 (by decide) ?_
    refine lv_iload_n hx hb dX0_checkTransfer_31 rfl (lv_at hl 2 rfl) ?_
    refine lv_isub hx hb dX0_checkTransfer_32 ?_
    refine sm_eqi (y := 255) (by decide) ?_
    refine lv_icmp_le (tgt := 44) hx hb dX0_checkTransfer_33 rfl (fun z => absurd z (sm_orl hi h24)) (fun _ => ?_)
    exact sm_throw0 (own := RX0) (cls := sm_IO) (names := sm_up) (ik := 50) (ic := 52) hx hb hlt hown (by decide +kernel) (by decide +kernel) (hw 50 rfl) (hw 6 rfl) (sm_own (n := 6) (k := 51) sm_memIO hts rfl hZ) hP (hl.1.trans hml.symm) dX0_checkTransfer_36 dX0_checkTransfer_39 dX0_checkTransfer_40 dX0_checkTransfer_43 (by rw [hne]; exact fun _ h => nomatch h) (Nat.le_of_ble_eq_true rfl) (Nat.le_of_ble_eq_true rfl) (Nat.le_of_ble_eq_true rfl) (Nat.le_of_ble_eq_true rfl) hlocks (Nat.le_of_ble_eq_true rfl) (Nat.le_of_ble_eq_true rfl)
set_option maxHeartbeats 4000000 in
set_option maxRecDepth 100000 in
theorem x_ct2_1 (l : Launch) (hlt : l.stackTraces = false) (D : va_G)  (t : Nat) (ht : t + 1 ≤ 256) (i : Int32) (hi : i < 0 ∨ 16 ≤ i) : sm_X l yX0_checkTransfer wsX0_checkTransfer ({ frames := 7, cells := 1, slots := 6, locals := 130 } : Room) D vwCl [] [.int i, .int (nI t), .int 1] [] sm_IO := by
  refine sm_startX (cc := cX0_checkTransfer) (maxL := 3) (ret := none) (lv := [(0, .int i), (1, .int (nI t)), (2, .int 1)]) (by decide) rfl (Nat.le_of_ble_eq_true rfl) rfl ?_
  intro p e s m below meth c hx hb hrt hts hown hlocks hml hne hZ hK hP hD hS hA ls hl
  have hw := sm_hw hts
  refine lv_iload_n hx hb dX0_checkTransfer_0 rfl (lv_at hl 2 rfl) ?_
  refine lv_iconst (v := 1) hx hb dX0_checkTransfer_1 (by decide) ?_
  refine lv_icmp_eq (tgt := 23) hx hb dX0_checkTransfer_2 rfl (fun _ => ?_) (fun z => absurd (by decide) z)
  refine lv_iload_n hx hb dX0_checkTransfer_23 rfl (lv_at hl 1 rfl) ?_
  refine lv_if_lt (tgt := 36) hx hb dX0_checkTransfer_24 rfl (fun z => absurd z (nI_pos (by omega))) (fun _ => ?_)
  refine lv_iload_n hx hb dX0_checkTransfer_27 rfl (lv_at hl 1 rfl) ?_
  refine lv_sipush (v := 256) hx hb dX0_checkTransfer_28 (by decide) ?_
  refine lv_iload_n hx hb dX0_checkTransfer_31 rfl (lv_at hl 2 rfl) ?_
  refine lv_isub hx hb dX0_checkTransfer_32 ?_
  refine sm_eqi (y := 255) (by decide) ?_
  refine lv_icmp_le (tgt := 44) hx hb dX0_checkTransfer_33 rfl (fun _ => ?_) (fun z => absurd (nI_le (b := 255) (by omega) (by decide)) z)
  refine lv_iload_n hx hb dX0_checkTransfer_44 rfl (lv_at hl 0 rfl) ?_
  refine sm_xS (As := [.int i]) (rest := []) (wr := []) ⟨hx, hb, hml, hown, hts⟩ (x_checkRegister l hlt D i hi) (va_cwS 1 hts (sm_gS (i1 := 47) (i2 := 48) (i4 := 1) (i5 := 49) rfl rfl rfl rfl) rfl rfl rfl (by decide +kernel) ⟨Nat.le_of_ble_eq_true rfl, Nat.le_of_ble_eq_true rfl⟩) hK [] rfl hZ hP hD hS hA [] [] rfl rfl (by decide) (by decide) (by decide) rfl hl.1 rfl (Nat.le_of_ble_eq_true rfl) dX0_checkTransfer_45 ⟨Nat.le_of_ble_eq_true rfl, Nat.le_of_ble_eq_true rfl⟩ (fun q ce H locs hce hv hcl hP hD hS => ?_)
  exact sm_vout (by rw [hne]; exact fun _ h => nomatch h) hlocks hce hv hcl (show va_P D vwCl [] H from hP) hS (Nat.le_of_ble_eq_true rfl) (Nat.le_of_ble_eq_true rfl)
set_option maxHeartbeats 4000000 in
set_option maxRecDepth 100000 in
theorem x_ct1_2 (l : Launch) (hlt : l.stackTraces = false) (D : va_G)  (r i : Int32) (hi : i < 0 ∨ 254 < i) : sm_X l yX0_checkTransfer wsX0_checkTransfer ({ frames := 7, cells := 1, slots := 6, locals := 130 } : Room) D vwCl [] [.int r, .int i, .int 2] [] sm_IO := by
  refine sm_startX (cc := cX0_checkTransfer) (maxL := 3) (ret := none) (lv := [(0, .int r), (1, .int i), (2, .int 2)]) (by decide) rfl (Nat.le_of_ble_eq_true rfl) rfl ?_
  intro p e s m below meth c hx hb hrt hts hown hlocks hml hne hZ hK hP hD hS hA ls hl
  have hw := sm_hw hts
  refine lv_iload_n hx hb dX0_checkTransfer_0 rfl (lv_at hl 2 rfl) ?_
  refine lv_iconst (v := 1) hx hb dX0_checkTransfer_1 (by decide) ?_
  refine lv_icmp_eq (tgt := 23) hx hb dX0_checkTransfer_2 rfl (fun z => absurd z (by decide)) (fun _ => ?_)
  refine lv_iload_n hx hb dX0_checkTransfer_5 rfl (lv_at hl 2 rfl) ?_
  refine lv_iconst (v := 2) hx hb dX0_checkTransfer_6 (by decide) ?_
  refine lv_icmp_eq (tgt := 23) hx hb dX0_checkTransfer_7 rfl (fun _ => ?_) (fun z => absurd (by decide) z)
  refine lv_iload_n hx hb dX0_checkTransfer_23 rfl (lv_at hl 1 rfl) ?_
  refine lv_if_lt (tgt := 36) hx hb dX0_checkTransfer_24 rfl (fun h24 => ?_) (fun h24 => ?_)
  · exact sm_throw0 (own := RX0) (cls := sm_IO) (names := sm_up) (ik := 50) (ic := 52) hx hb hlt hown (by decide +kernel) (by decide +kernel) (hw 50 rfl) (hw 6 rfl) (sm_own (n := 6) (k := 51) sm_memIO hts rfl hZ) hP (hl.1.trans hml.symm) dX0_checkTransfer_36 dX0_checkTransfer_39 dX0_checkTransfer_40 dX0_checkTransfer_43 (by rw [hne]; exact fun _ h => nomatch h) (Nat.le_of_ble_eq_true rfl) (Nat.le_of_ble_eq_true rfl) (Nat.le_of_ble_eq_true rfl) (Nat.le_of_ble_eq_true rfl) hlocks (Nat.le_of_ble_eq_true rfl) (Nat.le_of_ble_eq_true rfl)
  · refine lv_iload_n hx hb dX0_checkTransfer_27 rfl (lv_at hl 1 rfl) ?_
    refine lv_sipush (v := 256) hx hb dX0_checkTransfer_28 (by decide) ?_
    refine lv_iload_n hx hb dX0_checkTransfer_31 rfl (lv_at hl 2 rfl) ?_
    refine lv_isub hx hb dX0_checkTransfer_32 ?_
    refine sm_eqi (y := 254) (by decide) ?_
    refine lv_icmp_le (tgt := 44) hx hb dX0_checkTransfer_33 rfl (fun z => absurd z (sm_orl hi h24)) (fun _ => ?_)
    exact sm_throw0 (own := RX0) (cls := sm_IO) (names := sm_up) (ik := 50) (ic := 52) hx hb hlt hown (by decide +kernel) (by decide +kernel) (hw 50 rfl) (hw 6 rfl) (sm_own (n := 6) (k := 51) sm_memIO hts rfl hZ) hP (hl.1.trans hml.symm) dX0_checkTransfer_36 dX0_checkTransfer_39 dX0_checkTransfer_40 dX0_checkTransfer_43 (by rw [hne]; exact fun _ h => nomatch h) (Nat.le_of_ble_eq_true rfl) (Nat.le_of_ble_eq_true rfl) (Nat.le_of_ble_eq_true rfl) (Nat.le_of_ble_eq_true rfl) hlocks (Nat.le_of_ble_eq_true rfl) (Nat.le_of_ble_eq_true rfl)
set_option maxHeartbeats 4000000 in
set_option maxRecDepth 100000 in
theorem x_ct2_2 (l : Launch) (hlt : l.stackTraces = false) (D : va_G)  (t : Nat) (ht : t + 2 ≤ 256) (i : Int32) (hi : i < 0 ∨ 16 ≤ i) : sm_X l yX0_checkTransfer wsX0_checkTransfer ({ frames := 7, cells := 1, slots := 6, locals := 130 } : Room) D vwCl [] [.int i, .int (nI t), .int 2] [] sm_IO := by
  refine sm_startX (cc := cX0_checkTransfer) (maxL := 3) (ret := none) (lv := [(0, .int i), (1, .int (nI t)), (2, .int 2)]) (by decide) rfl (Nat.le_of_ble_eq_true rfl) rfl ?_
  intro p e s m below meth c hx hb hrt hts hown hlocks hml hne hZ hK hP hD hS hA ls hl
  have hw := sm_hw hts
  refine lv_iload_n hx hb dX0_checkTransfer_0 rfl (lv_at hl 2 rfl) ?_
  refine lv_iconst (v := 1) hx hb dX0_checkTransfer_1 (by decide) ?_
  refine lv_icmp_eq (tgt := 23) hx hb dX0_checkTransfer_2 rfl (fun z => absurd z (by decide)) (fun _ => ?_)
  refine lv_iload_n hx hb dX0_checkTransfer_5 rfl (lv_at hl 2 rfl) ?_
  refine lv_iconst (v := 2) hx hb dX0_checkTransfer_6 (by decide) ?_
  refine lv_icmp_eq (tgt := 23) hx hb dX0_checkTransfer_7 rfl (fun _ => ?_) (fun z => absurd (by decide) z)
  refine lv_iload_n hx hb dX0_checkTransfer_23 rfl (lv_at hl 1 rfl) ?_
  refine lv_if_lt (tgt := 36) hx hb dX0_checkTransfer_24 rfl (fun z => absurd z (nI_pos (by omega))) (fun _ => ?_)
  refine lv_iload_n hx hb dX0_checkTransfer_27 rfl (lv_at hl 1 rfl) ?_
  refine lv_sipush (v := 256) hx hb dX0_checkTransfer_28 (by decide) ?_
  refine lv_iload_n hx hb dX0_checkTransfer_31 rfl (lv_at hl 2 rfl) ?_
  refine lv_isub hx hb dX0_checkTransfer_32 ?_
  refine sm_eqi (y := 254) (by decide) ?_
  refine lv_icmp_le (tgt := 44) hx hb dX0_checkTransfer_33 rfl (fun _ => ?_) (fun z => absurd (nI_le (b := 254) (by omega) (by decide)) z)
  refine lv_iload_n hx hb dX0_checkTransfer_44 rfl (lv_at hl 0 rfl) ?_
  refine sm_xS (As := [.int i]) (rest := []) (wr := []) ⟨hx, hb, hml, hown, hts⟩ (x_checkRegister l hlt D i hi) (va_cwS 1 hts (sm_gS (i1 := 47) (i2 := 48) (i4 := 1) (i5 := 49) rfl rfl rfl rfl) rfl rfl rfl (by decide +kernel) ⟨Nat.le_of_ble_eq_true rfl, Nat.le_of_ble_eq_true rfl⟩) hK [] rfl hZ hP hD hS hA [] [] rfl rfl (by decide) (by decide) (by decide) rfl hl.1 rfl (Nat.le_of_ble_eq_true rfl) dX0_checkTransfer_45 ⟨Nat.le_of_ble_eq_true rfl, Nat.le_of_ble_eq_true rfl⟩ (fun q ce H locs hce hv hcl hP hD hS => ?_)
  exact sm_vout (by rw [hne]; exact fun _ h => nomatch h) hlocks hce hv hcl (show va_P D vwCl [] H from hP) hS (Nat.le_of_ble_eq_true rfl) (Nat.le_of_ble_eq_true rfl)
set_option maxHeartbeats 4000000 in
set_option maxRecDepth 100000 in
theorem x_ct1_4 (l : Launch) (hlt : l.stackTraces = false) (D : va_G)  (r i : Int32) (hi : i < 0 ∨ 252 < i) : sm_X l yX0_checkTransfer wsX0_checkTransfer ({ frames := 7, cells := 1, slots := 6, locals := 130 } : Room) D vwCl [] [.int r, .int i, .int 4] [] sm_IO := by
  refine sm_startX (cc := cX0_checkTransfer) (maxL := 3) (ret := none) (lv := [(0, .int r), (1, .int i), (2, .int 4)]) (by decide) rfl (Nat.le_of_ble_eq_true rfl) rfl ?_
  intro p e s m below meth c hx hb hrt hts hown hlocks hml hne hZ hK hP hD hS hA ls hl
  have hw := sm_hw hts
  refine lv_iload_n hx hb dX0_checkTransfer_0 rfl (lv_at hl 2 rfl) ?_
  refine lv_iconst (v := 1) hx hb dX0_checkTransfer_1 (by decide) ?_
  refine lv_icmp_eq (tgt := 23) hx hb dX0_checkTransfer_2 rfl (fun z => absurd z (by decide)) (fun _ => ?_)
  refine lv_iload_n hx hb dX0_checkTransfer_5 rfl (lv_at hl 2 rfl) ?_
  refine lv_iconst (v := 2) hx hb dX0_checkTransfer_6 (by decide) ?_
  refine lv_icmp_eq (tgt := 23) hx hb dX0_checkTransfer_7 rfl (fun z => absurd z (by decide)) (fun _ => ?_)
  refine lv_iload_n hx hb dX0_checkTransfer_10 rfl (lv_at hl 2 rfl) ?_
  refine lv_iconst (v := 4) hx hb dX0_checkTransfer_11 (by decide) ?_
  refine lv_icmp_eq (tgt := 23) hx hb dX0_checkTransfer_12 rfl (fun _ => ?_) (fun z => absurd (by decide) z)
  refine lv_iload_n hx hb dX0_checkTransfer_23 rfl (lv_at hl 1 rfl) ?_
  refine lv_if_lt (tgt := 36) hx hb dX0_checkTransfer_24 rfl (fun h24 => ?_) (fun h24 => ?_)
  · exact sm_throw0 (own := RX0) (cls := sm_IO) (names := sm_up) (ik := 50) (ic := 52) hx hb hlt hown (by decide +kernel) (by decide +kernel) (hw 50 rfl) (hw 6 rfl) (sm_own (n := 6) (k := 51) sm_memIO hts rfl hZ) hP (hl.1.trans hml.symm) dX0_checkTransfer_36 dX0_checkTransfer_39 dX0_checkTransfer_40 dX0_checkTransfer_43 (by rw [hne]; exact fun _ h => nomatch h) (Nat.le_of_ble_eq_true rfl) (Nat.le_of_ble_eq_true rfl) (Nat.le_of_ble_eq_true rfl) (Nat.le_of_ble_eq_true rfl) hlocks (Nat.le_of_ble_eq_true rfl) (Nat.le_of_ble_eq_true rfl)
  · refine lv_iload_n hx hb dX0_checkTransfer_27 rfl (lv_at hl 1 rfl) ?_
    refine lv_sipush (v := 256) hx hb dX0_checkTransfer_28 (by decide) ?_
    refine lv_iload_n hx hb dX0_checkTransfer_31 rfl (lv_at hl 2 rfl) ?_
    refine lv_isub hx hb dX0_checkTransfer_32 ?_
    refine sm_eqi (y := 252) (by decide) ?_
    refine lv_icmp_le (tgt := 44) hx hb dX0_checkTransfer_33 rfl (fun z => absurd z (sm_orl hi h24)) (fun _ => ?_)
    exact sm_throw0 (own := RX0) (cls := sm_IO) (names := sm_up) (ik := 50) (ic := 52) hx hb hlt hown (by decide +kernel) (by decide +kernel) (hw 50 rfl) (hw 6 rfl) (sm_own (n := 6) (k := 51) sm_memIO hts rfl hZ) hP (hl.1.trans hml.symm) dX0_checkTransfer_36 dX0_checkTransfer_39 dX0_checkTransfer_40 dX0_checkTransfer_43 (by rw [hne]; exact fun _ h => nomatch h) (Nat.le_of_ble_eq_true rfl) (Nat.le_of_ble_eq_true rfl) (Nat.le_of_ble_eq_true rfl) (Nat.le_of_ble_eq_true rfl) hlocks (Nat.le_of_ble_eq_true rfl) (Nat.le_of_ble_eq_true rfl)
set_option maxHeartbeats 4000000 in
set_option maxRecDepth 100000 in
theorem x_ct2_4 (l : Launch) (hlt : l.stackTraces = false) (D : va_G)  (t : Nat) (ht : t + 4 ≤ 256) (i : Int32) (hi : i < 0 ∨ 16 ≤ i) : sm_X l yX0_checkTransfer wsX0_checkTransfer ({ frames := 7, cells := 1, slots := 6, locals := 130 } : Room) D vwCl [] [.int i, .int (nI t), .int 4] [] sm_IO := by
  refine sm_startX (cc := cX0_checkTransfer) (maxL := 3) (ret := none) (lv := [(0, .int i), (1, .int (nI t)), (2, .int 4)]) (by decide) rfl (Nat.le_of_ble_eq_true rfl) rfl ?_
  intro p e s m below meth c hx hb hrt hts hown hlocks hml hne hZ hK hP hD hS hA ls hl
  have hw := sm_hw hts
  refine lv_iload_n hx hb dX0_checkTransfer_0 rfl (lv_at hl 2 rfl) ?_
  refine lv_iconst (v := 1) hx hb dX0_checkTransfer_1 (by decide) ?_
  refine lv_icmp_eq (tgt := 23) hx hb dX0_checkTransfer_2 rfl (fun z => absurd z (by decide)) (fun _ => ?_)
  refine lv_iload_n hx hb dX0_checkTransfer_5 rfl (lv_at hl 2 rfl) ?_
  refine lv_iconst (v := 2) hx hb dX0_checkTransfer_6 (by decide) ?_
  refine lv_icmp_eq (tgt := 23) hx hb dX0_checkTransfer_7 rfl (fun z => absurd z (by decide)) (fun _ => ?_)
  refine lv_iload_n hx hb dX0_checkTransfer_10 rfl (lv_at hl 2 rfl) ?_
  refine lv_iconst (v := 4) hx hb dX0_checkTransfer_11 (by decide) ?_
  refine lv_icmp_eq (tgt := 23) hx hb dX0_checkTransfer_12 rfl (fun _ => ?_) (fun z => absurd (by decide) z)
  refine lv_iload_n hx hb dX0_checkTransfer_23 rfl (lv_at hl 1 rfl) ?_
  refine lv_if_lt (tgt := 36) hx hb dX0_checkTransfer_24 rfl (fun z => absurd z (nI_pos (by omega))) (fun _ => ?_)
  refine lv_iload_n hx hb dX0_checkTransfer_27 rfl (lv_at hl 1 rfl) ?_
  refine lv_sipush (v := 256) hx hb dX0_checkTransfer_28 (by decide) ?_
  refine lv_iload_n hx hb dX0_checkTransfer_31 rfl (lv_at hl 2 rfl) ?_
  refine lv_isub hx hb dX0_checkTransfer_32 ?_
  refine sm_eqi (y := 252) (by decide) ?_
  refine lv_icmp_le (tgt := 44) hx hb dX0_checkTransfer_33 rfl (fun _ => ?_) (fun z => absurd (nI_le (b := 252) (by omega) (by decide)) z)
  refine lv_iload_n hx hb dX0_checkTransfer_44 rfl (lv_at hl 0 rfl) ?_
  refine sm_xS (As := [.int i]) (rest := []) (wr := []) ⟨hx, hb, hml, hown, hts⟩ (x_checkRegister l hlt D i hi) (va_cwS 1 hts (sm_gS (i1 := 47) (i2 := 48) (i4 := 1) (i5 := 49) rfl rfl rfl rfl) rfl rfl rfl (by decide +kernel) ⟨Nat.le_of_ble_eq_true rfl, Nat.le_of_ble_eq_true rfl⟩) hK [] rfl hZ hP hD hS hA [] [] rfl rfl (by decide) (by decide) (by decide) rfl hl.1 rfl (Nat.le_of_ble_eq_true rfl) dX0_checkTransfer_45 ⟨Nat.le_of_ble_eq_true rfl, Nat.le_of_ble_eq_true rfl⟩ (fun q ce H locs hce hv hcl hP hD hS => ?_)
  exact sm_vout (by rw [hne]; exact fun _ h => nomatch h) hlocks hce hv hcl (show va_P D vwCl [] H from hP) hS (Nat.le_of_ble_eq_true rfl) (Nat.le_of_ble_eq_true rfl)
set_option maxHeartbeats 4000000 in
set_option maxRecDepth 100000 in
theorem x_store0 (l : Launch) (hlt : l.stackTraces = false) (D : va_G) (cI : ClassId) (x0 x1 x2 x3 : Nat) (V S M : Nat → Int32) (r t n : Int32) (h1' : ¬ n = 1) (h2' : ¬ n = 2) (h4' : ¬ n = 4) : sm_X l yX0_store wsX0_store ({ frames := 8, cells := 1, slots := 6, locals := 170 } : Room) D vwCl [(cI, .int)] [.ref x0, .int r, .int t, .int n] (sm_wX cI x0 x1 x2 x3 V S M) sm_IA := by
  refine sm_startX (cc := cX0_store) (maxL := 8) (ret := none) (lv := [(0, .ref x0), (1, .int r), (2, .int t), (3, .int n)]) (by decide) rfl (Nat.le_of_ble_eq_true rfl) rfl ?_
  intro p e s m below meth c hx hb hrt hts hown hlocks hml hne hZ hK hP hD hS hA ls hl
  have hw := sm_hw hts
  refine lv_iload_n hx hb dX0_store_0 rfl (lv_at hl 1 rfl) ?_
  refine lv_iload_n hx hb dX0_store_1 rfl (lv_at hl 2 rfl) ?_
  refine lv_iload_n hx hb dX0_store_2 rfl (lv_at hl 3 rfl) ?_
  refine sm_xS (As := [.int r, .int t, .int n]) (rest := []) (wr := (sm_wX cI x0 x1 x2 x3 V S M)) ⟨hx, hb, hml, hown, hts⟩ (x_ct0 l hlt D r t n h1' h2' h4') (va_cwS 3 hts (sm_gS (i1 := 178) (i2 := 179) (i4 := 1) (i5 := 180) rfl rfl rfl rfl) rfl rfl rfl (by decide +kernel) ⟨Nat.le_of_ble_eq_true rfl, Nat.le_of_ble_eq_true rfl⟩) hK [] rfl hZ hP hD hS hA [] [0, 1, 2, 3] rfl rfl (by decide) (by decide) (by decide) rfl hl.1 rfl (Nat.le_of_ble_eq_true rfl) dX0_store_3 ⟨Nat.le_of_ble_eq_true rfl, Nat.le_of_ble_eq_true rfl⟩ (fun q ce H locs hce hv hcl hP hD hS => ?_)
  exact sm_vout (by rw [hne]; exact fun _ h => nomatch h) hlocks hce hv hcl (show va_P D vwCl (sm_wX cI x0 x1 x2 x3 V S M) H from hP) hS (Nat.le_of_ble_eq_true rfl) (Nat.le_of_ble_eq_true rfl)
set_option maxHeartbeats 4000000 in
set_option maxRecDepth 100000 in
theorem x_store1_1 (l : Launch) (hlt : l.stackTraces = false) (D : va_G) (cI : ClassId) (x0 x1 x2 x3 : Nat) (V S M : Nat → Int32) (r i : Int32) (hi : i < 0 ∨ 255 < i) : sm_X l yX0_store wsX0_store ({ frames := 8, cells := 1, slots := 6, locals := 170 } : Room) D vwCl [(cI, .int)] [.ref x0, .int r, .int i, .int 1] (sm_wX cI x0 x1 x2 x3 V S M) sm_IO := by
  refine sm_startX (cc := cX0_store) (maxL := 8) (ret := none) (lv := [(0, .ref x0), (1, .int r), (2, .int i), (3, .int 1)]) (by decide) rfl (Nat.le_of_ble_eq_true rfl) rfl ?_
  intro p e s m below meth c hx hb hrt hts hown hlocks hml hne hZ hK hP hD hS hA ls hl
  have hw := sm_hw hts
  refine lv_iload_n hx hb dX0_store_0 rfl (lv_at hl 1 rfl) ?_
  refine lv_iload_n hx hb dX0_store_1 rfl (lv_at hl 2 rfl) ?_
  refine lv_iload_n hx hb dX0_store_2 rfl (lv_at hl 3 rfl) ?_
  refine sm_xS (As := [.int r, .int i, .int 1]) (rest := []) (wr := (sm_wX cI x0 x1 x2 x3 V S M)) ⟨hx, hb, hml, hown, hts⟩ (x_ct1_1 l hlt D r i hi) (va_cwS 3 hts (sm_gS (i1 := 178) (i2 := 179) (i4 := 1) (i5 := 180) rfl rfl rfl rfl) rfl rfl rfl (by decide +kernel) ⟨Nat.le_of_ble_eq_true rfl, Nat.le_of_ble_eq_true rfl⟩) hK [] rfl hZ hP hD hS hA [] [0, 1, 2, 3] rfl rfl (by decide) (by decide) (by decide) rfl hl.1 rfl (Nat.le_of_ble_eq_true rfl) dX0_store_3 ⟨Nat.le_of_ble_eq_true rfl, Nat.le_of_ble_eq_true rfl⟩ (fun q ce H locs hce hv hcl hP hD hS => ?_)
  exact sm_vout (by rw [hne]; exact fun _ h => nomatch h) hlocks hce hv hcl (show va_P D vwCl (sm_wX cI x0 x1 x2 x3 V S M) H from hP) hS (Nat.le_of_ble_eq_true rfl) (Nat.le_of_ble_eq_true rfl)
set_option maxHeartbeats 4000000 in
set_option maxRecDepth 100000 in
theorem x_store2_1 (l : Launch) (hlt : l.stackTraces = false) (D : va_G) (cI : ClassId) (x0 x1 x2 x3 : Nat) (V S M : Nat → Int32) (t : Nat) (ht : t + 1 ≤ 256) (i : Int32) (hi : i < 0 ∨ 16 ≤ i) : sm_X l yX0_store wsX0_store ({ frames := 8, cells := 1, slots := 6, locals := 170 } : Room) D vwCl [(cI, .int)] [.ref x0, .int i, .int (nI t), .int 1] (sm_wX cI x0 x1 x2 x3 V S M) sm_IO := by
  refine sm_startX (cc := cX0_store) (maxL := 8) (ret := none) (lv := [(0, .ref x0), (1, .int i), (2, .int (nI t)), (3, .int 1)]) (by decide) rfl (Nat.le_of_ble_eq_true rfl) rfl ?_
  intro p e s m below meth c hx hb hrt hts hown hlocks hml hne hZ hK hP hD hS hA ls hl
  have hw := sm_hw hts
  refine lv_iload_n hx hb dX0_store_0 rfl (lv_at hl 1 rfl) ?_
  refine lv_iload_n hx hb dX0_store_1 rfl (lv_at hl 2 rfl) ?_
  refine lv_iload_n hx hb dX0_store_2 rfl (lv_at hl 3 rfl) ?_
  refine sm_xS (As := [.int i, .int (nI t), .int 1]) (rest := []) (wr := (sm_wX cI x0 x1 x2 x3 V S M)) ⟨hx, hb, hml, hown, hts⟩ (x_ct2_1 l hlt D t ht i hi) (va_cwS 3 hts (sm_gS (i1 := 178) (i2 := 179) (i4 := 1) (i5 := 180) rfl rfl rfl rfl) rfl rfl rfl (by decide +kernel) ⟨Nat.le_of_ble_eq_true rfl, Nat.le_of_ble_eq_true rfl⟩) hK [] rfl hZ hP hD hS hA [] [0, 1, 2, 3] rfl rfl (by decide) (by decide) (by decide) rfl hl.1 rfl (Nat.le_of_ble_eq_true rfl) dX0_store_3 ⟨Nat.le_of_ble_eq_true rfl, Nat.le_of_ble_eq_true rfl⟩ (fun q ce H locs hce hv hcl hP hD hS => ?_)
  exact sm_vout (by rw [hne]; exact fun _ h => nomatch h) hlocks hce hv hcl (show va_P D vwCl (sm_wX cI x0 x1 x2 x3 V S M) H from hP) hS (Nat.le_of_ble_eq_true rfl) (Nat.le_of_ble_eq_true rfl)
set_option maxHeartbeats 4000000 in
set_option maxRecDepth 100000 in
theorem x_store1_2 (l : Launch) (hlt : l.stackTraces = false) (D : va_G) (cI : ClassId) (x0 x1 x2 x3 : Nat) (V S M : Nat → Int32) (r i : Int32) (hi : i < 0 ∨ 254 < i) : sm_X l yX0_store wsX0_store ({ frames := 8, cells := 1, slots := 6, locals := 170 } : Room) D vwCl [(cI, .int)] [.ref x0, .int r, .int i, .int 2] (sm_wX cI x0 x1 x2 x3 V S M) sm_IO := by
  refine sm_startX (cc := cX0_store) (maxL := 8) (ret := none) (lv := [(0, .ref x0), (1, .int r), (2, .int i), (3, .int 2)]) (by decide) rfl (Nat.le_of_ble_eq_true rfl) rfl ?_
  intro p e s m below meth c hx hb hrt hts hown hlocks hml hne hZ hK hP hD hS hA ls hl
  have hw := sm_hw hts
  refine lv_iload_n hx hb dX0_store_0 rfl (lv_at hl 1 rfl) ?_
  refine lv_iload_n hx hb dX0_store_1 rfl (lv_at hl 2 rfl) ?_
  refine lv_iload_n hx hb dX0_store_2 rfl (lv_at hl 3 rfl) ?_
  refine sm_xS (As := [.int r, .int i, .int 2]) (rest := []) (wr := (sm_wX cI x0 x1 x2 x3 V S M)) ⟨hx, hb, hml, hown, hts⟩ (x_ct1_2 l hlt D r i hi) (va_cwS 3 hts (sm_gS (i1 := 178) (i2 := 179) (i4 := 1) (i5 := 180) rfl rfl rfl rfl) rfl rfl rfl (by decide +kernel) ⟨Nat.le_of_ble_eq_true rfl, Nat.le_of_ble_eq_true rfl⟩) hK [] rfl hZ hP hD hS hA [] [0, 1, 2, 3] rfl rfl (by decide) (by decide) (by decide) rfl hl.1 rfl (Nat.le_of_ble_eq_true rfl) dX0_store_3 ⟨Nat.le_of_ble_eq_true rfl, Nat.le_of_ble_eq_true rfl⟩ (fun q ce H locs hce hv hcl hP hD hS => ?_)
  exact sm_vout (by rw [hne]; exact fun _ h => nomatch h) hlocks hce hv hcl (show va_P D vwCl (sm_wX cI x0 x1 x2 x3 V S M) H from hP) hS (Nat.le_of_ble_eq_true rfl) (Nat.le_of_ble_eq_true rfl)
set_option maxHeartbeats 4000000 in
set_option maxRecDepth 100000 in
theorem x_store2_2 (l : Launch) (hlt : l.stackTraces = false) (D : va_G) (cI : ClassId) (x0 x1 x2 x3 : Nat) (V S M : Nat → Int32) (t : Nat) (ht : t + 2 ≤ 256) (i : Int32) (hi : i < 0 ∨ 16 ≤ i) : sm_X l yX0_store wsX0_store ({ frames := 8, cells := 1, slots := 6, locals := 170 } : Room) D vwCl [(cI, .int)] [.ref x0, .int i, .int (nI t), .int 2] (sm_wX cI x0 x1 x2 x3 V S M) sm_IO := by
  refine sm_startX (cc := cX0_store) (maxL := 8) (ret := none) (lv := [(0, .ref x0), (1, .int i), (2, .int (nI t)), (3, .int 2)]) (by decide) rfl (Nat.le_of_ble_eq_true rfl) rfl ?_
  intro p e s m below meth c hx hb hrt hts hown hlocks hml hne hZ hK hP hD hS hA ls hl
  have hw := sm_hw hts
  refine lv_iload_n hx hb dX0_store_0 rfl (lv_at hl 1 rfl) ?_
  refine lv_iload_n hx hb dX0_store_1 rfl (lv_at hl 2 rfl) ?_
  refine lv_iload_n hx hb dX0_store_2 rfl (lv_at hl 3 rfl) ?_
  refine sm_xS (As := [.int i, .int (nI t), .int 2]) (rest := []) (wr := (sm_wX cI x0 x1 x2 x3 V S M)) ⟨hx, hb, hml, hown, hts⟩ (x_ct2_2 l hlt D t ht i hi) (va_cwS 3 hts (sm_gS (i1 := 178) (i2 := 179) (i4 := 1) (i5 := 180) rfl rfl rfl rfl) rfl rfl rfl (by decide +kernel) ⟨Nat.le_of_ble_eq_true rfl, Nat.le_of_ble_eq_true rfl⟩) hK [] rfl hZ hP hD hS hA [] [0, 1, 2, 3] rfl rfl (by decide) (by decide) (by decide) rfl hl.1 rfl (Nat.le_of_ble_eq_true rfl) dX0_store_3 ⟨Nat.le_of_ble_eq_true rfl, Nat.le_of_ble_eq_true rfl⟩ (fun q ce H locs hce hv hcl hP hD hS => ?_)
  exact sm_vout (by rw [hne]; exact fun _ h => nomatch h) hlocks hce hv hcl (show va_P D vwCl (sm_wX cI x0 x1 x2 x3 V S M) H from hP) hS (Nat.le_of_ble_eq_true rfl) (Nat.le_of_ble_eq_true rfl)
set_option maxHeartbeats 4000000 in
set_option maxRecDepth 100000 in
theorem x_store1_4 (l : Launch) (hlt : l.stackTraces = false) (D : va_G) (cI : ClassId) (x0 x1 x2 x3 : Nat) (V S M : Nat → Int32) (r i : Int32) (hi : i < 0 ∨ 252 < i) : sm_X l yX0_store wsX0_store ({ frames := 8, cells := 1, slots := 6, locals := 170 } : Room) D vwCl [(cI, .int)] [.ref x0, .int r, .int i, .int 4] (sm_wX cI x0 x1 x2 x3 V S M) sm_IO := by
  refine sm_startX (cc := cX0_store) (maxL := 8) (ret := none) (lv := [(0, .ref x0), (1, .int r), (2, .int i), (3, .int 4)]) (by decide) rfl (Nat.le_of_ble_eq_true rfl) rfl ?_
  intro p e s m below meth c hx hb hrt hts hown hlocks hml hne hZ hK hP hD hS hA ls hl
  have hw := sm_hw hts
  refine lv_iload_n hx hb dX0_store_0 rfl (lv_at hl 1 rfl) ?_
  refine lv_iload_n hx hb dX0_store_1 rfl (lv_at hl 2 rfl) ?_
  refine lv_iload_n hx hb dX0_store_2 rfl (lv_at hl 3 rfl) ?_
  refine sm_xS (As := [.int r, .int i, .int 4]) (rest := []) (wr := (sm_wX cI x0 x1 x2 x3 V S M)) ⟨hx, hb, hml, hown, hts⟩ (x_ct1_4 l hlt D r i hi) (va_cwS 3 hts (sm_gS (i1 := 178) (i2 := 179) (i4 := 1) (i5 := 180) rfl rfl rfl rfl) rfl rfl rfl (by decide +kernel) ⟨Nat.le_of_ble_eq_true rfl, Nat.le_of_ble_eq_true rfl⟩) hK [] rfl hZ hP hD hS hA [] [0, 1, 2, 3] rfl rfl (by decide) (by decide) (by decide) rfl hl.1 rfl (Nat.le_of_ble_eq_true rfl) dX0_store_3 ⟨Nat.le_of_ble_eq_true rfl, Nat.le_of_ble_eq_true rfl⟩ (fun q ce H locs hce hv hcl hP hD hS => ?_)
  exact sm_vout (by rw [hne]; exact fun _ h => nomatch h) hlocks hce hv hcl (show va_P D vwCl (sm_wX cI x0 x1 x2 x3 V S M) H from hP) hS (Nat.le_of_ble_eq_true rfl) (Nat.le_of_ble_eq_true rfl)
set_option maxHeartbeats 4000000 in
set_option maxRecDepth 100000 in
theorem x_store2_4 (l : Launch) (hlt : l.stackTraces = false) (D : va_G) (cI : ClassId) (x0 x1 x2 x3 : Nat) (V S M : Nat → Int32) (t : Nat) (ht : t + 4 ≤ 256) (i : Int32) (hi : i < 0 ∨ 16 ≤ i) : sm_X l yX0_store wsX0_store ({ frames := 8, cells := 1, slots := 6, locals := 170 } : Room) D vwCl [(cI, .int)] [.ref x0, .int i, .int (nI t), .int 4] (sm_wX cI x0 x1 x2 x3 V S M) sm_IO := by
  refine sm_startX (cc := cX0_store) (maxL := 8) (ret := none) (lv := [(0, .ref x0), (1, .int i), (2, .int (nI t)), (3, .int 4)]) (by decide) rfl (Nat.le_of_ble_eq_true rfl) rfl ?_
  intro p e s m below meth c hx hb hrt hts hown hlocks hml hne hZ hK hP hD hS hA ls hl
  have hw := sm_hw hts
  refine lv_iload_n hx hb dX0_store_0 rfl (lv_at hl 1 rfl) ?_
  refine lv_iload_n hx hb dX0_store_1 rfl (lv_at hl 2 rfl) ?_
  refine lv_iload_n hx hb dX0_store_2 rfl (lv_at hl 3 rfl) ?_
  refine sm_xS (As := [.int i, .int (nI t), .int 4]) (rest := []) (wr := (sm_wX cI x0 x1 x2 x3 V S M)) ⟨hx, hb, hml, hown, hts⟩ (x_ct2_4 l hlt D t ht i hi) (va_cwS 3 hts (sm_gS (i1 := 178) (i2 := 179) (i4 := 1) (i5 := 180) rfl rfl rfl rfl) rfl rfl rfl (by decide +kernel) ⟨Nat.le_of_ble_eq_true rfl, Nat.le_of_ble_eq_true rfl⟩) hK [] rfl hZ hP hD hS hA [] [0, 1, 2, 3] rfl rfl (by decide) (by decide) (by decide) rfl hl.1 rfl (Nat.le_of_ble_eq_true rfl) dX0_store_3 ⟨Nat.le_of_ble_eq_true rfl, Nat.le_of_ble_eq_true rfl⟩ (fun q ce H locs hce hv hcl hP hD hS => ?_)
  exact sm_vout (by rw [hne]; exact fun _ h => nomatch h) hlocks hce hv hcl (show va_P D vwCl (sm_wX cI x0 x1 x2 x3 V S M) H from hP) hS (Nat.le_of_ble_eq_true rfl) (Nat.le_of_ble_eq_true rfl)
set_option maxHeartbeats 4000000 in
set_option maxRecDepth 100000 in
theorem x_load0 (l : Launch) (hlt : l.stackTraces = false) (D : va_G) (cI : ClassId) (x0 x1 x2 x3 : Nat) (V S M : Nat → Int32) (r t n : Int32) (h1' : ¬ n = 1) (h2' : ¬ n = 2) (h4' : ¬ n = 4) (sg : Bool) : sm_X l yX0_load wsX0_load ({ frames := 8, cells := 1, slots := 6, locals := 170 } : Room) D vwCl [(cI, .int)] [.ref x0, .int r, .int t, .int n, .int (sm_bI sg)] (sm_wX cI x0 x1 x2 x3 V S M) sm_IA := by
  refine sm_startX (cc := cX0_load) (maxL := 9) (ret := none) (lv := [(0, .ref x0), (1, .int r), (2, .int t), (3, .int n), (4, .int (sm_bI sg))]) (by decide) rfl (Nat.le_of_ble_eq_true rfl) rfl ?_
  intro p e s m below meth c hx hb hrt hts hown hlocks hml hne hZ hK hP hD hS hA ls hl
  have hw := sm_hw hts
  refine lv_iload_n hx hb dX0_load_0 rfl (lv_at hl 1 rfl) ?_
  refine lv_iload_n hx hb dX0_load_1 rfl (lv_at hl 2 rfl) ?_
  refine lv_iload_n hx hb dX0_load_2 rfl (lv_at hl 3 rfl) ?_
  refine sm_xS (As := [.int r, .int t, .int n]) (rest := []) (wr := (sm_wX cI x0 x1 x2 x3 V S M)) ⟨hx, hb, hml, hown, hts⟩ (x_ct0 l hlt D r t n h1' h2' h4') (va_cwS 3 hts (sm_gS (i1 := 178) (i2 := 179) (i4 := 1) (i5 := 180) rfl rfl rfl rfl) rfl rfl rfl (by decide +kernel) ⟨Nat.le_of_ble_eq_true rfl, Nat.le_of_ble_eq_true rfl⟩) hK [] rfl hZ hP hD hS hA [] [0, 1, 2, 3] rfl rfl (by decide) (by decide) (by decide) rfl hl.1 rfl (Nat.le_of_ble_eq_true rfl) dX0_load_3 ⟨Nat.le_of_ble_eq_true rfl, Nat.le_of_ble_eq_true rfl⟩ (fun q ce H locs hce hv hcl hP hD hS => ?_)
  exact sm_vout (by rw [hne]; exact fun _ h => nomatch h) hlocks hce hv hcl (show va_P D vwCl (sm_wX cI x0 x1 x2 x3 V S M) H from hP) hS (Nat.le_of_ble_eq_true rfl) (Nat.le_of_ble_eq_true rfl)
set_option maxHeartbeats 4000000 in
set_option maxRecDepth 100000 in
theorem x_load1_1 (l : Launch) (hlt : l.stackTraces = false) (D : va_G) (cI : ClassId) (x0 x1 x2 x3 : Nat) (V S M : Nat → Int32) (r i : Int32) (hi : i < 0 ∨ 255 < i) (sg : Bool) : sm_X l yX0_load wsX0_load ({ frames := 8, cells := 1, slots := 6, locals := 170 } : Room) D vwCl [(cI, .int)] [.ref x0, .int r, .int i, .int 1, .int (sm_bI sg)] (sm_wX cI x0 x1 x2 x3 V S M) sm_IO := by
  refine sm_startX (cc := cX0_load) (maxL := 9) (ret := none) (lv := [(0, .ref x0), (1, .int r), (2, .int i), (3, .int 1), (4, .int (sm_bI sg))]) (by decide) rfl (Nat.le_of_ble_eq_true rfl) rfl ?_
  intro p e s m below meth c hx hb hrt hts hown hlocks hml hne hZ hK hP hD hS hA ls hl
  have hw := sm_hw hts
  refine lv_iload_n hx hb dX0_load_0 rfl (lv_at hl 1 rfl) ?_
  refine lv_iload_n hx hb dX0_load_1 rfl (lv_at hl 2 rfl) ?_
  refine lv_iload_n hx hb dX0_load_2 rfl (lv_at hl 3 rfl) ?_
  refine sm_xS (As := [.int r, .int i, .int 1]) (rest := []) (wr := (sm_wX cI x0 x1 x2 x3 V S M)) ⟨hx, hb, hml, hown, hts⟩ (x_ct1_1 l hlt D r i hi) (va_cwS 3 hts (sm_gS (i1 := 178) (i2 := 179) (i4 := 1) (i5 := 180) rfl rfl rfl rfl) rfl rfl rfl (by decide +kernel) ⟨Nat.le_of_ble_eq_true rfl, Nat.le_of_ble_eq_true rfl⟩) hK [] rfl hZ hP hD hS hA [] [0, 1, 2, 3] rfl rfl (by decide) (by decide) (by decide) rfl hl.1 rfl (Nat.le_of_ble_eq_true rfl) dX0_load_3 ⟨Nat.le_of_ble_eq_true rfl, Nat.le_of_ble_eq_true rfl⟩ (fun q ce H locs hce hv hcl hP hD hS => ?_)
  exact sm_vout (by rw [hne]; exact fun _ h => nomatch h) hlocks hce hv hcl (show va_P D vwCl (sm_wX cI x0 x1 x2 x3 V S M) H from hP) hS (Nat.le_of_ble_eq_true rfl) (Nat.le_of_ble_eq_true rfl)
set_option maxHeartbeats 4000000 in
set_option maxRecDepth 100000 in
theorem x_load2_1 (l : Launch) (hlt : l.stackTraces = false) (D : va_G) (cI : ClassId) (x0 x1 x2 x3 : Nat) (V S M : Nat → Int32) (t : Nat) (ht : t + 1 ≤ 256) (i : Int32) (hi : i < 0 ∨ 16 ≤ i) (sg : Bool) : sm_X l yX0_load wsX0_load ({ frames := 8, cells := 1, slots := 6, locals := 170 } : Room) D vwCl [(cI, .int)] [.ref x0, .int i, .int (nI t), .int 1, .int (sm_bI sg)] (sm_wX cI x0 x1 x2 x3 V S M) sm_IO := by
  refine sm_startX (cc := cX0_load) (maxL := 9) (ret := none) (lv := [(0, .ref x0), (1, .int i), (2, .int (nI t)), (3, .int 1), (4, .int (sm_bI sg))]) (by decide) rfl (Nat.le_of_ble_eq_true rfl) rfl ?_
  intro p e s m below meth c hx hb hrt hts hown hlocks hml hne hZ hK hP hD hS hA ls hl
  have hw := sm_hw hts
  refine lv_iload_n hx hb dX0_load_0 rfl (lv_at hl 1 rfl) ?_
  refine lv_iload_n hx hb dX0_load_1 rfl (lv_at hl 2 rfl) ?_
  refine lv_iload_n hx hb dX0_load_2 rfl (lv_at hl 3 rfl) ?_
  refine sm_xS (As := [.int i, .int (nI t), .int 1]) (rest := []) (wr := (sm_wX cI x0 x1 x2 x3 V S M)) ⟨hx, hb, hml, hown, hts⟩ (x_ct2_1 l hlt D t ht i hi) (va_cwS 3 hts (sm_gS (i1 := 178) (i2 := 179) (i4 := 1) (i5 := 180) rfl rfl rfl rfl) rfl rfl rfl (by decide +kernel) ⟨Nat.le_of_ble_eq_true rfl, Nat.le_of_ble_eq_true rfl⟩) hK [] rfl hZ hP hD hS hA [] [0, 1, 2, 3] rfl rfl (by decide) (by decide) (by decide) rfl hl.1 rfl (Nat.le_of_ble_eq_true rfl) dX0_load_3 ⟨Nat.le_of_ble_eq_true rfl, Nat.le_of_ble_eq_true rfl⟩ (fun q ce H locs hce hv hcl hP hD hS => ?_)
  exact sm_vout (by rw [hne]; exact fun _ h => nomatch h) hlocks hce hv hcl (show va_P D vwCl (sm_wX cI x0 x1 x2 x3 V S M) H from hP) hS (Nat.le_of_ble_eq_true rfl) (Nat.le_of_ble_eq_true rfl)
set_option maxHeartbeats 4000000 in
set_option maxRecDepth 100000 in
theorem x_load1_2 (l : Launch) (hlt : l.stackTraces = false) (D : va_G) (cI : ClassId) (x0 x1 x2 x3 : Nat) (V S M : Nat → Int32) (r i : Int32) (hi : i < 0 ∨ 254 < i) (sg : Bool) : sm_X l yX0_load wsX0_load ({ frames := 8, cells := 1, slots := 6, locals := 170 } : Room) D vwCl [(cI, .int)] [.ref x0, .int r, .int i, .int 2, .int (sm_bI sg)] (sm_wX cI x0 x1 x2 x3 V S M) sm_IO := by
  refine sm_startX (cc := cX0_load) (maxL := 9) (ret := none) (lv := [(0, .ref x0), (1, .int r), (2, .int i), (3, .int 2), (4, .int (sm_bI sg))]) (by decide) rfl (Nat.le_of_ble_eq_true rfl) rfl ?_
  intro p e s m below meth c hx hb hrt hts hown hlocks hml hne hZ hK hP hD hS hA ls hl
  have hw := sm_hw hts
  refine lv_iload_n hx hb dX0_load_0 rfl (lv_at hl 1 rfl) ?_
  refine lv_iload_n hx hb dX0_load_1 rfl (lv_at hl 2 rfl) ?_
  refine lv_iload_n hx hb dX0_load_2 rfl (lv_at hl 3 rfl) ?_
  refine sm_xS (As := [.int r, .int i, .int 2]) (rest := []) (wr := (sm_wX cI x0 x1 x2 x3 V S M)) ⟨hx, hb, hml, hown, hts⟩ (x_ct1_2 l hlt D r i hi) (va_cwS 3 hts (sm_gS (i1 := 178) (i2 := 179) (i4 := 1) (i5 := 180) rfl rfl rfl rfl) rfl rfl rfl (by decide +kernel) ⟨Nat.le_of_ble_eq_true rfl, Nat.le_of_ble_eq_true rfl⟩) hK [] rfl hZ hP hD hS hA [] [0, 1, 2, 3] rfl rfl (by decide) (by decide) (by decide) rfl hl.1 rfl (Nat.le_of_ble_eq_true rfl) dX0_load_3 ⟨Nat.le_of_ble_eq_true rfl, Nat.le_of_ble_eq_true rfl⟩ (fun q ce H locs hce hv hcl hP hD hS => ?_)
  exact sm_vout (by rw [hne]; exact fun _ h => nomatch h) hlocks hce hv hcl (show va_P D vwCl (sm_wX cI x0 x1 x2 x3 V S M) H from hP) hS (Nat.le_of_ble_eq_true rfl) (Nat.le_of_ble_eq_true rfl)
set_option maxHeartbeats 4000000 in
set_option maxRecDepth 100000 in
theorem x_load2_2 (l : Launch) (hlt : l.stackTraces = false) (D : va_G) (cI : ClassId) (x0 x1 x2 x3 : Nat) (V S M : Nat → Int32) (t : Nat) (ht : t + 2 ≤ 256) (i : Int32) (hi : i < 0 ∨ 16 ≤ i) (sg : Bool) : sm_X l yX0_load wsX0_load ({ frames := 8, cells := 1, slots := 6, locals := 170 } : Room) D vwCl [(cI, .int)] [.ref x0, .int i, .int (nI t), .int 2, .int (sm_bI sg)] (sm_wX cI x0 x1 x2 x3 V S M) sm_IO := by
  refine sm_startX (cc := cX0_load) (maxL := 9) (ret := none) (lv := [(0, .ref x0), (1, .int i), (2, .int (nI t)), (3, .int 2), (4, .int (sm_bI sg))]) (by decide) rfl (Nat.le_of_ble_eq_true rfl) rfl ?_
  intro p e s m below meth c hx hb hrt hts hown hlocks hml hne hZ hK hP hD hS hA ls hl
  have hw := sm_hw hts
  refine lv_iload_n hx hb dX0_load_0 rfl (lv_at hl 1 rfl) ?_
  refine lv_iload_n hx hb dX0_load_1 rfl (lv_at hl 2 rfl) ?_
  refine lv_iload_n hx hb dX0_load_2 rfl (lv_at hl 3 rfl) ?_
  refine sm_xS (As := [.int i, .int (nI t), .int 2]) (rest := []) (wr := (sm_wX cI x0 x1 x2 x3 V S M)) ⟨hx, hb, hml, hown, hts⟩ (x_ct2_2 l hlt D t ht i hi) (va_cwS 3 hts (sm_gS (i1 := 178) (i2 := 179) (i4 := 1) (i5 := 180) rfl rfl rfl rfl) rfl rfl rfl (by decide +kernel) ⟨Nat.le_of_ble_eq_true rfl, Nat.le_of_ble_eq_true rfl⟩) hK [] rfl hZ hP hD hS hA [] [0, 1, 2, 3] rfl rfl (by decide) (by decide) (by decide) rfl hl.1 rfl (Nat.le_of_ble_eq_true rfl) dX0_load_3 ⟨Nat.le_of_ble_eq_true rfl, Nat.le_of_ble_eq_true rfl⟩ (fun q ce H locs hce hv hcl hP hD hS => ?_)
  exact sm_vout (by rw [hne]; exact fun _ h => nomatch h) hlocks hce hv hcl (show va_P D vwCl (sm_wX cI x0 x1 x2 x3 V S M) H from hP) hS (Nat.le_of_ble_eq_true rfl) (Nat.le_of_ble_eq_true rfl)
set_option maxHeartbeats 4000000 in
set_option maxRecDepth 100000 in
theorem x_load1_4 (l : Launch) (hlt : l.stackTraces = false) (D : va_G) (cI : ClassId) (x0 x1 x2 x3 : Nat) (V S M : Nat → Int32) (r i : Int32) (hi : i < 0 ∨ 252 < i) (sg : Bool) : sm_X l yX0_load wsX0_load ({ frames := 8, cells := 1, slots := 6, locals := 170 } : Room) D vwCl [(cI, .int)] [.ref x0, .int r, .int i, .int 4, .int (sm_bI sg)] (sm_wX cI x0 x1 x2 x3 V S M) sm_IO := by
  refine sm_startX (cc := cX0_load) (maxL := 9) (ret := none) (lv := [(0, .ref x0), (1, .int r), (2, .int i), (3, .int 4), (4, .int (sm_bI sg))]) (by decide) rfl (Nat.le_of_ble_eq_true rfl) rfl ?_
  intro p e s m below meth c hx hb hrt hts hown hlocks hml hne hZ hK hP hD hS hA ls hl
  have hw := sm_hw hts
  refine lv_iload_n hx hb dX0_load_0 rfl (lv_at hl 1 rfl) ?_
  refine lv_iload_n hx hb dX0_load_1 rfl (lv_at hl 2 rfl) ?_
  refine lv_iload_n hx hb dX0_load_2 rfl (lv_at hl 3 rfl) ?_
  refine sm_xS (As := [.int r, .int i, .int 4]) (rest := []) (wr := (sm_wX cI x0 x1 x2 x3 V S M)) ⟨hx, hb, hml, hown, hts⟩ (x_ct1_4 l hlt D r i hi) (va_cwS 3 hts (sm_gS (i1 := 178) (i2 := 179) (i4 := 1) (i5 := 180) rfl rfl rfl rfl) rfl rfl rfl (by decide +kernel) ⟨Nat.le_of_ble_eq_true rfl, Nat.le_of_ble_eq_true rfl⟩) hK [] rfl hZ hP hD hS hA [] [0, 1, 2, 3] rfl rfl (by decide) (by decide) (by decide) rfl hl.1 rfl (Nat.le_of_ble_eq_true rfl) dX0_load_3 ⟨Nat.le_of_ble_eq_true rfl, Nat.le_of_ble_eq_true rfl⟩ (fun q ce H locs hce hv hcl hP hD hS => ?_)
  exact sm_vout (by rw [hne]; exact fun _ h => nomatch h) hlocks hce hv hcl (show va_P D vwCl (sm_wX cI x0 x1 x2 x3 V S M) H from hP) hS (Nat.le_of_ble_eq_true rfl) (Nat.le_of_ble_eq_true rfl)
set_option maxHeartbeats 4000000 in
set_option maxRecDepth 100000 in
theorem x_load2_4 (l : Launch) (hlt : l.stackTraces = false) (D : va_G) (cI : ClassId) (x0 x1 x2 x3 : Nat) (V S M : Nat → Int32) (t : Nat) (ht : t + 4 ≤ 256) (i : Int32) (hi : i < 0 ∨ 16 ≤ i) (sg : Bool) : sm_X l yX0_load wsX0_load ({ frames := 8, cells := 1, slots := 6, locals := 170 } : Room) D vwCl [(cI, .int)] [.ref x0, .int i, .int (nI t), .int 4, .int (sm_bI sg)] (sm_wX cI x0 x1 x2 x3 V S M) sm_IO := by
  refine sm_startX (cc := cX0_load) (maxL := 9) (ret := none) (lv := [(0, .ref x0), (1, .int i), (2, .int (nI t)), (3, .int 4), (4, .int (sm_bI sg))]) (by decide) rfl (Nat.le_of_ble_eq_true rfl) rfl ?_
  intro p e s m below meth c hx hb hrt hts hown hlocks hml hne hZ hK hP hD hS hA ls hl
  have hw := sm_hw hts
  refine lv_iload_n hx hb dX0_load_0 rfl (lv_at hl 1 rfl) ?_
  refine lv_iload_n hx hb dX0_load_1 rfl (lv_at hl 2 rfl) ?_
  refine lv_iload_n hx hb dX0_load_2 rfl (lv_at hl 3 rfl) ?_
  refine sm_xS (As := [.int i, .int (nI t), .int 4]) (rest := []) (wr := (sm_wX cI x0 x1 x2 x3 V S M)) ⟨hx, hb, hml, hown, hts⟩ (x_ct2_4 l hlt D t ht i hi) (va_cwS 3 hts (sm_gS (i1 := 178) (i2 := 179) (i4 := 1) (i5 := 180) rfl rfl rfl rfl) rfl rfl rfl (by decide +kernel) ⟨Nat.le_of_ble_eq_true rfl, Nat.le_of_ble_eq_true rfl⟩) hK [] rfl hZ hP hD hS hA [] [0, 1, 2, 3] rfl rfl (by decide) (by decide) (by decide) rfl hl.1 rfl (Nat.le_of_ble_eq_true rfl) dX0_load_3 ⟨Nat.le_of_ble_eq_true rfl, Nat.le_of_ble_eq_true rfl⟩ (fun q ce H locs hce hv hcl hP hD hS => ?_)
  exact sm_vout (by rw [hne]; exact fun _ h => nomatch h) hlocks hce hv hcl (show va_P D vwCl (sm_wX cI x0 x1 x2 x3 V S M) H from hP) hS (Nat.le_of_ble_eq_true rfl) (Nat.le_of_ble_eq_true rfl)
