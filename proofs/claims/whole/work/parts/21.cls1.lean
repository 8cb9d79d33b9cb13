set_option maxHeartbeats 4000000 in
set_option maxRecDepth 100000 in
theorem c_lowEnd (l : Launch) (D : va_G) (v n : Int32) : sm_C l yX0_lowEnd wsX0_lowEnd ({ frames := 0, cells := 0, slots := 0, locals := 0 } : Room) D vwCl [] [.int v, .int n] [] (some (.int (sm_le v n))) [] := by
  refine sm_start (cc := cX0_lowEnd) (maxL := 2) (ret := some .int) (lv := [(0, .int v), (1, .int n)]) (by decide) rfl (Nat.le_of_ble_eq_true rfl) rfl ?_
  intro p e s m below meth c hx hb hrt hts hown hlocks hml hin hK hP hD hS hA ls hl
  have hw := sm_hw hts
  refine lv_iload_n hx hb dX0_lowEnd_0 rfl (lv_at hl 0 rfl) ?_
  refine lv_iload_n hx hb dX0_lowEnd_1 rfl (lv_at hl 1 rfl) ?_
  refine lv_iconst (v := (-1)) hx hb dX0_lowEnd_2 (by decide) ?_
  refine lv_ixor hx hb dX0_lowEnd_3 ?_
  refine lv_iand hx hb dX0_lowEnd_4 ?_
  refine lv_iload_n hx hb dX0_lowEnd_5 rfl (lv_at hl 1 rfl) ?_
  refine lv_ldc (v := (-2147483648)) hx hb hown (hw 135 rfl) dX0_lowEnd_6 ?_
  refine lv_iand hx hb dX0_lowEnd_8 ?_
  refine lv_ior hx hb dX0_lowEnd_9 ?_
  refine sm_eqi (y := sm_le v n) (rfl) ?_
  exact sm_iret hx hb hrt hlocks hS hP hD dX0_lowEnd_10
set_option maxHeartbeats 4000000 in
set_option maxRecDepth 100000 in
theorem c_highEnd (l : Launch) (D : va_G) (v n : Int32) : sm_C l yX0_highEnd wsX0_highEnd ({ frames := 0, cells := 0, slots := 0, locals := 0 } : Room) D vwCl [] [.int v, .int n] [] (some (.int (sm_he v n))) [] := by
  refine sm_start (cc := cX0_highEnd) (maxL := 2) (ret := some .int) (lv := [(0, .int v), (1, .int n)]) (by decide) rfl (Nat.le_of_ble_eq_true rfl) rfl ?_
  intro p e s m below meth c hx hb hrt hts hown hlocks hml hin hK hP hD hS hA ls hl
  have hw := sm_hw hts
  refine lv_iload_n hx hb dX0_highEnd_0 rfl (lv_at hl 0 rfl) ?_
  refine lv_iload_n hx hb dX0_highEnd_1 rfl (lv_at hl 1 rfl) ?_
  refine lv_iconst (v := (-1)) hx hb dX0_highEnd_2 (by decide) ?_
  refine lv_ixor hx hb dX0_highEnd_3 ?_
  refine lv_iand hx hb dX0_highEnd_4 ?_
  refine lv_iload_n hx hb dX0_highEnd_5 rfl (lv_at hl 1 rfl) ?_
  refine lv_ldc (v := 2147483647) hx hb hown (hw 164 rfl) dX0_highEnd_6 ?_
  refine lv_iand hx hb dX0_highEnd_8 ?_
  refine lv_ior hx hb dX0_highEnd_9 ?_
  refine sm_eqi (y := sm_he v n) (rfl) ?_
  exact sm_iret hx hb hrt hlocks hS hP hD dX0_highEnd_10
set_option maxHeartbeats 4000000 in
set_option maxRecDepth 100000 in
theorem c_signTurned (l : Launch) (D : va_G) (v : Int32) : sm_C l yX0_signTurned wsX0_signTurned ({ frames := 0, cells := 0, slots := 0, locals := 0 } : Room) D vwCl [] [.int v] [] (some (.int (v ^^^ (-2147483648)))) [] := by
  refine sm_start (cc := cX0_signTurned) (maxL := 1) (ret := some .int) (lv := [(0, .int v)]) (by decide) rfl (Nat.le_of_ble_eq_true rfl) rfl ?_
  intro p e s m below meth c hx hb hrt hts hown hlocks hml hin hK hP hD hS hA ls hl
  have hw := sm_hw hts
  refine lv_iload_n hx hb dX0_signTurned_0 rfl (lv_at hl 0 rfl) ?_
  refine lv_ldc (v := (-2147483648)) hx hb hown (hw 135 rfl) dX0_signTurned_1 ?_
  refine lv_ixor hx hb dX0_signTurned_3 ?_
  exact sm_iret hx hb hrt hlocks hS hP hD dX0_signTurned_4
set_option maxHeartbeats 4000000 in
set_option maxRecDepth 100000 in
theorem c_bit (l : Launch) (D : va_G) (q : Bool) : sm_C l yX0_bit wsX0_bit ({ frames := 0, cells := 0, slots := 0, locals := 0 } : Room) D vwCl [] [.int (sm_bI q)] [] (some (.int (sm_bI q))) [] := by
  refine sm_start (cc := cX0_bit) (maxL := 1) (ret := some .int) (lv := [(0, .int (sm_bI q))]) (by decide) rfl (Nat.le_of_ble_eq_true rfl) rfl ?_
  intro p e s m below meth c hx hb hrt hts hown hlocks hml hin hK hP hD hS hA ls hl
  have hw := sm_hw hts
  refine lv_iload_n hx hb dX0_bit_0 rfl (lv_at hl 0 rfl) ?_
  refine sm_ifb_eq (tgt := 8) hx hb dX0_bit_1 rfl (fun h1 => ?_) (fun h1 => ?_)
  · refine lv_iconst (v := 0) hx hb dX0_bit_8 (by decide) ?_
    refine sm_eqi (y := sm_bI q) (by simp [sm_bI, h1]) ?_
    exact sm_iret hx hb hrt hlocks hS hP hD dX0_bit_9
  · refine lv_iconst (v := 1) hx hb dX0_bit_4 (by decide) ?_
    refine lv_goto (tgt := 9) hx hb dX0_bit_5 rfl ?_
    refine sm_eqi (y := sm_bI q) (by simp [sm_bI, h1]) ?_
    exact sm_iret hx hb hrt hlocks hS hP hD dX0_bit_9
set_option maxHeartbeats 4000000 in
set_option maxRecDepth 100000 in
theorem c_samenessHangs (l : Launch) (D : va_G) (v w n : Int32) : sm_C l yX0_samenessHangs wsX0_samenessHangs ({ frames := 0, cells := 0, slots := 0, locals := 0 } : Room) D vwCl [] [.int v, .int w, .int n] [] (some (.int (sm_bI (!decide (n = 0) && decide ((v ^^^ w) &&& (n ^^^ (-1)) = 0))))) [] := by
  refine sm_start (cc := cX0_samenessHangs) (maxL := 3) (ret := some .boolean) (lv := [(0, .int v), (1, .int w), (2, .int n)]) (by decide) rfl (Nat.le_of_ble_eq_true rfl) rfl ?_
  intro p e s m below meth c hx hb hrt hts hown hlocks hml hin hK hP hD hS hA ls hl
  have hw := sm_hw hts
  refine lv_iload_n hx hb dX0_samenessHangs_0 rfl (lv_at hl 2 rfl) ?_
  refine lv_if_eq (tgt := 18) hx hb dX0_samenessHangs_1 rfl (fun h1 => ?_) (fun h1 => ?_)
  · refine lv_iconst (v := 0) hx hb dX0_samenessHangs_18 (by decide) ?_
    refine sm_eqi (y := sm_bI (!decide (n = 0) && decide ((v ^^^ w) &&& (n ^^^ (-1)) = 0))) (by rw [decide_eq_true h1]; rfl) ?_
    exact sm_zret hx hb hrt hlocks hS hP hD dX0_samenessHangs_19
  · refine lv_iload_n hx hb dX0_samenessHangs_4 rfl (lv_at hl 0 rfl) ?_
    refine lv_iload_n hx hb dX0_samenessHangs_5 rfl (lv_at hl 1 rfl) ?_
    refine lv_ixor hx hb dX0_samenessHangs_6 ?_
    refine lv_iload_n hx hb dX0_samenessHangs_7 rfl (lv_at hl 2 rfl) ?_
    refine lv_iconst (v := (-1)) hx hb dX0_samenessHangs_8 (by decide) ?_
    refine lv_ixor hx hb dX0_samenessHangs_9 ?_
    refine lv_iand hx hb dX0_samenessHangs_10 ?_
    refine lv_if_ne (tgt := 18) hx hb dX0_samenessHangs_11 rfl (fun h11 => ?_) (fun h11 => ?_)
    · refine lv_iconst (v := 0) hx hb dX0_samenessHangs_18 (by decide) ?_
      refine sm_eqi (y := sm_bI (!decide (n = 0) && decide ((v ^^^ w) &&& (n ^^^ (-1)) = 0))) (by rw [decide_eq_false h1, decide_eq_false h11]; rfl) ?_
      exact sm_zret hx hb hrt hlocks hS hP hD dX0_samenessHangs_19
    · refine lv_iconst (v := 1) hx hb dX0_samenessHangs_14 (by decide) ?_
      refine lv_goto (tgt := 19) hx hb dX0_samenessHangs_15 rfl ?_
      refine sm_eqi (y := sm_bI (!decide (n = 0) && decide ((v ^^^ w) &&& (n ^^^ (-1)) = 0))) (by rw [decide_eq_false h1, decide_eq_true h11]; rfl) ?_
      exact sm_zret hx hb hrt hlocks hS hP hD dX0_samenessHangs_19
set_option maxHeartbeats 4000000 in
set_option maxRecDepth 100000 in
theorem c_orderHangs (l : Launch) (D : va_G) (x nx y ny : Int32) : sm_C l yX0_orderHangs wsX0_orderHangs ({ frames := 1, cells := 0, slots := 0, locals := 21 } : Room) D vwCl [] [.int x, .int nx, .int y, .int ny] [] (some (.int (sm_bI (decide (sm_le x nx < sm_he y ny) && decide (sm_le y ny ≤ sm_he x nx))))) [] := by
  refine sm_start (cc := cX0_orderHangs) (maxL := 6) (ret := some .boolean) (lv := [(0, .int x), (1, .int nx), (2, .int y), (3, .int ny)]) (by decide) rfl (Nat.le_of_ble_eq_true rfl) rfl ?_
  intro p e s m below meth c hx hb hrt hts hown hlocks hml hin hK hP hD hS hA ls hl
  have hw := sm_hw hts
  refine lv_iload_n hx hb dX0_orderHangs_0 rfl (lv_at hl 0 rfl) ?_
  refine lv_iload_n hx hb dX0_orderHangs_1 rfl (lv_at hl 1 rfl) ?_
  refine sm_callS (As := [.int x, .int nx]) (rest := []) (wr := []) (wn := []) (st1 := [.int (sm_le x nx)]) ⟨hx, hb, hml, hown, hts⟩ (c_lowEnd l D x nx) (va_cwS 2 hts (sm_gS (i1 := 158) (i2 := 159) (i4 := 1) (i5 := 160) rfl rfl rfl rfl) rfl rfl rfl (by decide +kernel) ⟨Nat.le_of_ble_eq_true rfl, Nat.le_of_ble_eq_true rfl⟩) hK [] rfl hP hD hS hA [] [] rfl rfl (by decide) (by decide) (by decide) rfl hl.1 rfl (Nat.le_of_ble_eq_true rfl) dX0_orderHangs_2 ⟨Nat.le_of_ble_eq_true rfl, Nat.le_of_ble_eq_true rfl⟩ rfl rfl (fun H locs hP hD hS => ?_)
  refine lv_iload_n hx hb dX0_orderHangs_5 rfl (lv_at hl 2 rfl) ?_
  refine lv_iload_n hx hb dX0_orderHangs_6 rfl (lv_at hl 3 rfl) ?_
  refine sm_callS (As := [.int y, .int ny]) (rest := [.int (sm_le x nx)]) (wr := []) (wn := []) (st1 := [.int (sm_he y ny), .int (sm_le x nx)]) ⟨hx, hb, hml, hown, hts⟩ (c_highEnd l D y ny) (va_cwS 2 hts (sm_gS (i1 := 161) (i2 := 162) (i4 := 1) (i5 := 163) rfl rfl rfl rfl) rfl rfl rfl (by decide +kernel) ⟨Nat.le_of_ble_eq_true rfl, Nat.le_of_ble_eq_true rfl⟩) hK [] rfl hP hD hS hA [] [] rfl rfl (by decide) (by decide) (by decide) rfl hl.1 rfl (Nat.le_of_ble_eq_true rfl) dX0_orderHangs_7 ⟨Nat.le_of_ble_eq_true rfl, Nat.le_of_ble_eq_true rfl⟩ rfl rfl (fun H locs hP hD hS => ?_)
  refine lv_icmp_ge (tgt := 17) hx hb dX0_orderHangs_10 rfl (fun h10 => ?_) (fun h10 => ?_)
  · refine lv_iconst (v := 0) hx hb dX0_orderHangs_17 (by decide) ?_
    refine lv_istore (lv' := [(4, .int 0), (0, .int x), (1, .int nx), (2, .int y), (3, .int ny)]) hx hb dX0_orderHangs_18 hl (by decide) rfl (fun ls hl => ?_)
    refine lv_iload_n hx hb dX0_orderHangs_20 rfl (lv_at hl 1 rfl) ?_
    refine lv_iload_n hx hb dX0_orderHangs_21 rfl (lv_at hl 2 rfl) ?_
    refine sm_callS (As := [.int x, .int nx]) (rest := []) (wr := []) (wn := []) (st1 := [.int (sm_he x nx)]) ⟨hx, hb, hml, hown, hts⟩ (c_highEnd l D x nx) (va_cwS 2 hts (sm_gS (i1 := 161) (i2 := 162) (i4 := 1) (i5 := 163) rfl rfl rfl rfl) rfl rfl rfl (by decide +kernel) ⟨Nat.le_of_ble_eq_true rfl, Nat.le_of_ble_eq_true rfl⟩) hK [] rfl hP hD hS hA [] [] rfl rfl (by decide) (by decide) (by decide) rfl hl.1 rfl (Nat.le_of_ble_eq_true rfl) dX0_orderHangs_22 ⟨Nat.le_of_ble_eq_true rfl, Nat.le_of_ble_eq_true rfl⟩ rfl rfl (fun H locs hP hD hS => ?_)
    refine lv_iload_n hx hb dX0_orderHangs_25 rfl (lv_at hl 3 rfl) ?_
    refine lv_iload_n hx hb dX0_orderHangs_26 rfl (lv_at hl 4 rfl) ?_
    refine sm_callS (As := [.int y, .int ny]) (rest := [.int (sm_he x nx)]) (wr := []) (wn := []) (st1 := [.int (sm_le y ny), .int (sm_he x nx)]) ⟨hx, hb, hml, hown, hts⟩ (c_lowEnd l D y ny) (va_cwS 2 hts (sm_gS (i1 := 158) (i2 := 159) (i4 := 1) (i5 := 160) rfl rfl rfl rfl) rfl rfl rfl (by decide +kernel) ⟨Nat.le_of_ble_eq_true rfl, Nat.le_of_ble_eq_true rfl⟩) hK [] rfl hP hD hS hA [] [] rfl rfl (by decide) (by decide) (by decide) rfl hl.1 rfl (Nat.le_of_ble_eq_true rfl) dX0_orderHangs_27 ⟨Nat.le_of_ble_eq_true rfl, Nat.le_of_ble_eq_true rfl⟩ rfl rfl (fun H locs hP hD hS => ?_)
    refine lv_icmp_lt (tgt := 37) hx hb dX0_orderHangs_30 rfl (fun h30 => ?_) (fun h30 => ?_)
    · refine lv_iconst (v := 0) hx hb dX0_orderHangs_37 (by decide) ?_
      refine lv_istore (lv' := [(5, .int 0), (4, .int 0), (0, .int x), (1, .int nx), (2, .int y), (3, .int ny)]) hx hb dX0_orderHangs_38 hl (by decide) rfl (fun ls hl => ?_)
      refine lv_iload hx hb dX0_orderHangs_40 (lv_at hl 1 rfl) ?_
      refine lv_if_eq (tgt := 54) hx hb dX0_orderHangs_42 rfl (fun _ => ?_) (fun z => absurd (by decide) z)
      refine lv_iconst (v := 0) hx hb dX0_orderHangs_54 (by decide) ?_
      refine sm_eqi (y := sm_bI (decide (sm_le x nx < sm_he y ny) && decide (sm_le y ny ≤ sm_he x nx))) (by simp [sm_bI, Int32.not_le, Int32.not_lt, h10, h30]) ?_
      exact sm_zret hx hb hrt hlocks hS hP hD dX0_orderHangs_55
    · refine lv_iconst (v := 1) hx hb dX0_orderHangs_33 (by decide) ?_
      refine lv_goto (tgt := 38) hx hb dX0_orderHangs_34 rfl ?_
      refine lv_istore (lv' := [(5, .int 1), (4, .int 0), (0, .int x), (1, .int nx), (2, .int y), (3, .int ny)]) hx hb dX0_orderHangs_38 hl (by decide) rfl (fun ls hl => ?_)
      refine lv_iload hx hb dX0_orderHangs_40 (lv_at hl 1 rfl) ?_
      refine lv_if_eq (tgt := 54) hx hb dX0_orderHangs_42 rfl (fun _ => ?_) (fun z => absurd (by decide) z)
      refine lv_iconst (v := 0) hx hb dX0_orderHangs_54 (by decide) ?_
      refine sm_eqi (y := sm_bI (decide (sm_le x nx < sm_he y ny) && decide (sm_le y ny ≤ sm_he x nx))) (by simp [sm_bI, Int32.not_le, Int32.not_lt, h10, h30]) ?_
      exact sm_zret hx hb hrt hlocks hS hP hD dX0_orderHangs_55
  · refine lv_iconst (v := 1) hx hb dX0_orderHangs_13 (by decide) ?_
    refine lv_goto (tgt := 18) hx hb dX0_orderHangs_14 rfl ?_
    refine lv_istore (lv' := [(4, .int 1), (0, .int x), (1, .int nx), (2, .int y), (3, .int ny)]) hx hb dX0_orderHangs_18 hl (by decide) rfl (fun ls hl => ?_)
    refine lv_iload_n hx hb dX0_orderHangs_20 rfl (lv_at hl 1 rfl) ?_
    refine lv_iload_n hx hb dX0_orderHangs_21 rfl (lv_at hl 2 rfl) ?_
    refine sm_callS (As := [.int x, .int nx]) (rest := []) (wr := []) (wn := []) (st1 := [.int (sm_he x nx)]) ⟨hx, hb, hml, hown, hts⟩ (c_highEnd l D x nx) (va_cwS 2 hts (sm_gS (i1 := 161) (i2 := 162) (i4 := 1) (i5 := 163) rfl rfl rfl rfl) rfl rfl rfl (by decide +kernel) ⟨Nat.le_of_ble_eq_true rfl, Nat.le_of_ble_eq_true rfl⟩) hK [] rfl hP hD hS hA [] [] rfl rfl (by decide) (by decide) (by decide) rfl hl.1 rfl (Nat.le_of_ble_eq_true rfl) dX0_orderHangs_22 ⟨Nat.le_of_ble_eq_true rfl, Nat.le_of_ble_eq_true rfl⟩ rfl rfl (fun H locs hP hD hS => ?_)
    refine lv_iload_n hx hb dX0_orderHangs_25 rfl (lv_at hl 3 rfl) ?_
    refine lv_iload_n hx hb dX0_orderHangs_26 rfl (lv_at hl 4 rfl) ?_
    refine sm_callS (As := [.int y, .int ny]) (rest := [.int (sm_he x nx)]) (wr := []) (wn := []) (st1 := [.int (sm_le y ny), .int (sm_he x nx)]) ⟨hx, hb, hml, hown, hts⟩ (c_lowEnd l D y ny) (va_cwS 2 hts (sm_gS (i1 := 158) (i2 := 159) (i4 := 1) (i5 := 160) rfl rfl rfl rfl) rfl rfl rfl (by decide +kernel) ⟨Nat.le_of_ble_eq_true rfl, Nat.le_of_ble_eq_true rfl⟩) hK [] rfl hP hD hS hA [] [] rfl rfl (by decide) (by decide) (by decide) rfl hl.1 rfl (Nat.le_of_ble_eq_true rfl) dX0_orderHangs_27 ⟨Nat.le_of_ble_eq_true rfl, Nat.le_of_ble_eq_true rfl⟩ rfl rfl (fun H locs hP hD hS => ?_)
    refine lv_icmp_lt (tgt := 37) hx hb dX0_orderHangs_30 rfl (fun h30 => ?_) (fun h30 => ?_)
    · refine lv_iconst (v := 0) hx hb dX0_orderHangs_37 (by decide) ?_
      refine lv_istore (lv' := [(5, .int 0), (4, .int 1), (0, .int x), (1, .int nx), (2, .int y), (3, .int ny)]) hx hb dX0_orderHangs_38 hl (by decide) rfl (fun ls hl => ?_)
      refine lv_iload hx hb dX0_orderHangs_40 (lv_at hl 1 rfl) ?_
      refine lv_if_eq (tgt := 54) hx hb dX0_orderHangs_42 rfl (fun z => absurd z (by decide)) (fun _ => ?_)
      refine lv_iload hx hb dX0_orderHangs_45 (lv_at hl 0 rfl) ?_
      refine lv_if_eq (tgt := 54) hx hb dX0_orderHangs_47 rfl (fun _ => ?_) (fun z => absurd (by decide) z)
      refine lv_iconst (v := 0) hx hb dX0_orderHangs_54 (by decide) ?_
      refine sm_eqi (y := sm_bI (decide (sm_le x nx < sm_he y ny) && decide (sm_le y ny ≤ sm_he x nx))) (by simp [sm_bI, Int32.not_le, Int32.not_lt, h10, h30]) ?_
      exact sm_zret hx hb hrt hlocks hS hP hD dX0_orderHangs_55
    · refine lv_iconst (v := 1) hx hb dX0_orderHangs_33 (by decide) ?_
      refine lv_goto (tgt := 38) hx hb dX0_orderHangs_34 rfl ?_
      refine lv_istore (lv' := [(5, .int 1), (4, .int 1), (0, .int x), (1, .int nx), (2, .int y), (3, .int ny)]) hx hb dX0_orderHangs_38 hl (by decide) rfl (fun ls hl => ?_)
      refine lv_iload hx hb dX0_orderHangs_40 (lv_at hl 1 rfl) ?_
      refine lv_if_eq (tgt := 54) hx hb dX0_orderHangs_42 rfl (fun z => absurd z (by decide)) (fun _ => ?_)
      refine lv_iload hx hb dX0_orderHangs_45 (lv_at hl 0 rfl) ?_
      refine lv_if_eq (tgt := 54) hx hb dX0_orderHangs_47 rfl (fun z => absurd z (by decide)) (fun _ => ?_)
      refine lv_iconst (v := 1) hx hb dX0_orderHangs_50 (by decide) ?_
      refine lv_goto (tgt := 55) hx hb dX0_orderHangs_51 rfl ?_
      refine sm_eqi (y := sm_bI (decide (sm_le x nx < sm_he y ny) && decide (sm_le y ny ≤ sm_he x nx))) (by simp [sm_bI, Int32.not_le, Int32.not_lt, h10, h30]) ?_
      exact sm_zret hx hb hrt hlocks hS hP hD dX0_orderHangs_55
set_option maxHeartbeats 4000000 in
set_option maxRecDepth 100000 in
theorem c_fromPlaceOn (l : Launch) (D : va_G) (n : Nat) (hn : n < 2 ^ 31) : sm_C l yX0_fromPlaceOn wsX0_fromPlaceOn ({ frames := 0, cells := 0, slots := 0, locals := 0 } : Room) D vwCl [] [.int (nI n)] [] (some (.int (sm_fr n))) [] := by
  refine sm_start (cc := cX0_fromPlaceOn) (maxL := 1) (ret := some .int) (lv := [(0, .int (nI n))]) (by decide) rfl (Nat.le_of_ble_eq_true rfl) rfl ?_
  intro p e s m below meth c hx hb hrt hts hown hlocks hml hin hK hP hD hS hA ls hl
  have hw := sm_hw hts
  refine lv_iload_n hx hb dX0_fromPlaceOn_0 rfl (lv_at hl 0 rfl) ?_
  refine lv_bipush (v := 32) hx hb dX0_fromPlaceOn_1 (by decide) ?_
  refine lv_icmp_lt (tgt := 10) hx hb dX0_fromPlaceOn_3 rfl (fun h3 => ?_) (fun h3 => ?_)
  · refine lv_iconst (v := (-1)) hx hb dX0_fromPlaceOn_10 (by decide) ?_
    refine lv_iload_n hx hb dX0_fromPlaceOn_11 rfl (lv_at hl 0 rfl) ?_
    refine lv_ishl hx hb dX0_fromPlaceOn_12 ?_
    refine sm_eqi (y := sm_fr n) (sm_fr_sh (sm_lt32 hn h3)) ?_
    exact sm_iret hx hb hrt hlocks hS hP hD dX0_fromPlaceOn_13
  · refine lv_iconst (v := 0) hx hb dX0_fromPlaceOn_6 (by decide) ?_
    refine lv_goto (tgt := 13) hx hb dX0_fromPlaceOn_7 rfl ?_
    refine sm_eqi (y := sm_fr n) ((sm_fr_0 (sm_le32 hn h3)).symm) ?_
    exact sm_iret hx hb hrt hlocks hS hP hD dX0_fromPlaceOn_13
