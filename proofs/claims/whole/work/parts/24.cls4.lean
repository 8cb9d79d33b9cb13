set_option maxHeartbeats 4000000 in
set_option maxRecDepth 100000 in
theorem c_checkTransfer_1 (l : Launch) (D : va_G)  (r t : Nat) (hr : r < 16) (ht : t + 1 ≤ 256) : sm_C l yX0_checkTransfer wsX0_checkTransfer ({ frames := 1, cells := 0, slots := 0, locals := 20 } : Room) D vwCl [] [.int (nI r), .int (nI t), .int 1] [] none [] := by
  refine sm_start (cc := cX0_checkTransfer) (maxL := 3) (ret := none) (lv := [(0, .int (nI r)), (1, .int (nI t)), (2, .int 1)]) (by decide) rfl (Nat.le_of_ble_eq_true rfl) rfl ?_
  intro p e s m below meth c hx hb hrt hts hown hlocks hml hin hK hP hD hS hA ls hl
  have hw := sm_hw hts
  refine lv_iload_n hx hb dX0_checkTransfer_0 rfl (lv_at hl 2 rfl) ?_
  refine lv_iconst (v := 1) hx hb dX0_checkTransfer_1 (by decide) ?_
  refine lv_icmp_eq (tgt := 23) hx hb dX0_checkTransfer_2 rfl (fun _ => ?_) (fun z => absurd (by decide) z)
  refine lv_iload_n hx hb dX0_checkTransfer_23 rfl (lv_at hl 1 rfl) ?_
  refine lv_if_lt (tgt := 36) hx hb dX0_checkTransfer_24 rfl (fun z => absurd z (nI_pos (by omega))) (fun _ => ?_)
  refine lv_iload_n hx hb dX0_checkTransfer_27 rfl (lv_at hl 1 rfl) ?_
  refine lv_sipush (v := 256) hx hb dX0_checkTransfer_28 (by decide) ?_
  refine lv_iload_n hx hb dX0_checkTransfer_31 rfl (lv_at hl 2 rfl) ?_
  refine lv_isub hx hb dX0_checkTransfer_32 ?_
  refine sm_eqi (y := 255) (by decide) ?_
  refine lv_icmp_le (tgt := 44) hx hb dX0_checkTransfer_33 rfl (fun _ => ?_) (fun z => absurd (nI_le (b := 255) (by omega) (by decide)) z)
  refine lv_iload_n hx hb dX0_checkTransfer_44 rfl (lv_at hl 0 rfl) ?_
  refine sm_callS (As := [.int (nI r)]) (rest := []) (wr := []) (wn := []) (st1 := []) ⟨hx, hb, hml, hown, hts⟩ (c_checkRegister l D r (by omega)) (va_cwS 1 hts (sm_gS (i1 := 47) (i2 := 48) (i4 := 1) (i5 := 49) rfl rfl rfl rfl) rfl rfl rfl (by decide +kernel) ⟨Nat.le_of_ble_eq_true rfl, Nat.le_of_ble_eq_true rfl⟩) hK [] rfl hP hD hS hA [] [] rfl rfl (by decide) (by decide) (by decide) rfl hl.1 rfl (Nat.le_of_ble_eq_true rfl) dX0_checkTransfer_45 ⟨Nat.le_of_ble_eq_true rfl, Nat.le_of_ble_eq_true rfl⟩ rfl rfl (fun H locs hP hD hS => ?_)
  exact sm_vret hx hb hrt hlocks hS hP hD dX0_checkTransfer_48
set_option maxHeartbeats 4000000 in
set_option maxRecDepth 100000 in
theorem c_checkTransfer_2 (l : Launch) (D : va_G)  (r t : Nat) (hr : r < 16) (ht : t + 2 ≤ 256) : sm_C l yX0_checkTransfer wsX0_checkTransfer ({ frames := 1, cells := 0, slots := 0, locals := 20 } : Room) D vwCl [] [.int (nI r), .int (nI t), .int 2] [] none [] := by
  refine sm_start (cc := cX0_checkTransfer) (maxL := 3) (ret := none) (lv := [(0, .int (nI r)), (1, .int (nI t)), (2, .int 2)]) (by decide) rfl (Nat.le_of_ble_eq_true rfl) rfl ?_
  intro p e s m below meth c hx hb hrt hts hown hlocks hml hin hK hP hD hS hA ls hl
  have hw := sm_hw hts
  refine lv_iload_n hx hb dX0_checkTransfer_0 rfl (lv_at hl 2 rfl) ?_
  refine lv_iconst (v := 1) hx hb dX0_checkTransfer_1 (by decide) ?_
  refine lv_icmp_eq (tgt := 23) hx hb dX0_checkTransfer_2 rfl (fun z => absurd z (by decide)) (fun _ => ?_)
  refine lv_iload_n hx hb dX0_checkTransfer_5 rfl (lv_at hl 2 rfl) ?_
  refine lv_iconst (v := 2) hx hb dX0_checkTransfer_6 (by decide) ?_
  refine lv_icmp_eq (tgt := 23) hx hb dX0_checkTransfer_7 rfl (fun _ => ?_) (fun z => absurd (by decide) z)
  refine lv_iload_n hx hb dX0_checkTransfer_23 rfl (lv_at hl 1 rfl) ?_
  refine lv_if_lt (tgt := 36) hx hb dX0_checkTransfer_24 rfl (fun z => absurd z (nI_pos (by omega))) (fun _ => ?_)
  refine lv_iload_n hx hb dX0_checkTransfer_27 rfl (lv_at hl 1 rfl) ?_
  refine lv_sipush (v := 256) hx hb dX0_checkTransfer_28 (by decide) ?_
  refine lv_iload_n hx hb dX0_checkTransfer_31 rfl (lv_at hl 2 rfl) ?_
  refine lv_isub hx hb dX0_checkTransfer_32 ?_
  refine sm_eqi (y := 254) (by decide) ?_
  refine lv_icmp_le (tgt := 44) hx hb dX0_checkTransfer_33 rfl (fun _ => ?_) (fun z => absurd (nI_le (b := 254) (by omega) (by decide)) z)
  refine lv_iload_n hx hb dX0_checkTransfer_44 rfl (lv_at hl 0 rfl) ?_
  refine sm_callS (As := [.int (nI r)]) (rest := []) (wr := []) (wn := []) (st1 := []) ⟨hx, hb, hml, hown, hts⟩ (c_checkRegister l D r (by omega)) (va_cwS 1 hts (sm_gS (i1 := 47) (i2 := 48) (i4 := 1) (i5 := 49) rfl rfl rfl rfl) rfl rfl rfl (by decide +kernel) ⟨Nat.le_of_ble_eq_true rfl, Nat.le_of_ble_eq_true rfl⟩) hK [] rfl hP hD hS hA [] [] rfl rfl (by decide) (by decide) (by decide) rfl hl.1 rfl (Nat.le_of_ble_eq_true rfl) dX0_checkTransfer_45 ⟨Nat.le_of_ble_eq_true rfl, Nat.le_of_ble_eq_true rfl⟩ rfl rfl (fun H locs hP hD hS => ?_)
  exact sm_vret hx hb hrt hlocks hS hP hD dX0_checkTransfer_48
set_option maxHeartbeats 4000000 in
set_option maxRecDepth 100000 in
theorem c_checkTransfer_4 (l : Launch) (D : va_G)  (r t : Nat) (hr : r < 16) (ht : t + 4 ≤ 256) : sm_C l yX0_checkTransfer wsX0_checkTransfer ({ frames := 1, cells := 0, slots := 0, locals := 20 } : Room) D vwCl [] [.int (nI r), .int (nI t), .int 4] [] none [] := by
  refine sm_start (cc := cX0_checkTransfer) (maxL := 3) (ret := none) (lv := [(0, .int (nI r)), (1, .int (nI t)), (2, .int 4)]) (by decide) rfl (Nat.le_of_ble_eq_true rfl) rfl ?_
  intro p e s m below meth c hx hb hrt hts hown hlocks hml hin hK hP hD hS hA ls hl
  have hw := sm_hw hts
  refine lv_iload_n hx hb dX0_checkTransfer_0 rfl (lv_at hl 2 rfl) ?_
  refine lv_iconst (v := 1) hx hb dX0_checkTransfer_1 (by decide) ?_
  refine lv_icmp_eq (tgt := 23) hx hb dX0_checkTransfer_2 rfl (fun z => absurd z (by decide)) (fun _ => ?_)
  refine lv_iload_n hx hb dX0_checkTransfer_5 rfl (lv_at hl 2 rfl) ?_
  refine lv_iconst (v := 2) hx hb dX0_checkTransfer_6 (by decide) ?_
  refine lv_icmp_eq (tgt := 23) hx hb dX0_checkTransfer_7 rfl (fun z => absurd z (by decide)) (fun _ => ?_)
  refine lv_iload_n hx hb dX0_checkTransfer_10 rfl (lv_at hl 2 rfl) ?_
  refine lv_iconst (v := 4) hx hb dX0_checkTransfer_11 (by decide) ?_
  refine lv_icmp_eq (tgt := 23) hx hb dX0_checkTransfer_12 rfl (fun _ => ?_) (fun z => absurd (by decide) z)
  refine lv_iload_n hx hb dX0_checkTransfer_23 rfl (lv_at hl 1 rfl) ?_
  refine lv_if_lt (tgt := 36) hx hb dX0_checkTransfer_24 rfl (fun z => absurd z (nI_pos (by omega))) (fun _ => ?_)
  refine lv_iload_n hx hb dX0_checkTransfer_27 rfl (lv_at hl 1 rfl) ?_
  refine lv_sipush (v := 256) hx hb dX0_checkTransfer_28 (by decide) ?_
  refine lv_iload_n hx hb dX0_checkTransfer_31 rfl (lv_at hl 2 rfl) ?_
  refine lv_isub hx hb dX0_checkTransfer_32 ?_
  refine sm_eqi (y := 252) (by decide) ?_
  refine lv_icmp_le (tgt := 44) hx hb dX0_checkTransfer_33 rfl (fun _ => ?_) (fun z => absurd (nI_le (b := 252) (by omega) (by decide)) z)
  refine lv_iload_n hx hb dX0_checkTransfer_44 rfl (lv_at hl 0 rfl) ?_
  refine sm_callS (As := [.int (nI r)]) (rest := []) (wr := []) (wn := []) (st1 := []) ⟨hx, hb, hml, hown, hts⟩ (c_checkRegister l D r (by omega)) (va_cwS 1 hts (sm_gS (i1 := 47) (i2 := 48) (i4 := 1) (i5 := 49) rfl rfl rfl rfl) rfl rfl rfl (by decide +kernel) ⟨Nat.le_of_ble_eq_true rfl, Nat.le_of_ble_eq_true rfl⟩) hK [] rfl hP hD hS hA [] [] rfl rfl (by decide) (by decide) (by decide) rfl hl.1 rfl (Nat.le_of_ble_eq_true rfl) dX0_checkTransfer_45 ⟨Nat.le_of_ble_eq_true rfl, Nat.le_of_ble_eq_true rfl⟩ rfl rfl (fun H locs hP hD hS => ?_)
  exact sm_vret hx hb hrt hlocks hS hP hD dX0_checkTransfer_48
set_option maxHeartbeats 4000000 in
set_option maxRecDepth 100000 in
theorem c_widened_1_t (l : Launch) (D : va_G) (x : Int32) : sm_C l yX0_widened wsX0_widened ({ frames := 0, cells := 0, slots := 0, locals := 0 } : Room) D vwCl [] [.int x, .int 1, .int (sm_bI true)] [] (some (.int ((x <<< (nI 24 &&& 31)) >>> (nI 24 &&& 31)))) [] := by
  refine sm_start (cc := cX0_widened) (maxL := 4) (ret := some .int) (lv := [(0, .int x), (1, .int 1), (2, .int (sm_bI true))]) (by decide) rfl (Nat.le_of_ble_eq_true rfl) rfl ?_
  intro p e s m below meth c hx hb hrt hts hown hlocks hml hin hK hP hD hS hA ls hl
  have hw := sm_hw hts
  refine lv_bipush (v := 32) hx hb dX0_widened_0 (by decide) ?_
  refine lv_iload_n hx hb dX0_widened_2 rfl (lv_at hl 1 rfl) ?_
  refine lv_bipush (v := 8) hx hb dX0_widened_3 (by decide) ?_
  refine lv_imul hx hb dX0_widened_5 ?_
  refine sm_eqi (y := 8) (by decide) ?_
  refine lv_isub hx hb dX0_widened_6 ?_
  refine sm_eqi (y := 24) (by decide) ?_
  refine lv_istore_n (lv' := [(3, .int 24), (0, .int x), (1, .int 1), (2, .int (sm_bI true))]) hx hb dX0_widened_7 rfl hl (by decide) rfl (fun ls hl => ?_)
  refine lv_iload_n hx hb dX0_widened_8 rfl (lv_at hl 3 rfl) ?_
  refine lv_if_eq (tgt := 20) hx hb dX0_widened_9 rfl (fun z => absurd z (by decide)) (fun _ => ?_)
  refine lv_iload_n hx hb dX0_widened_12 rfl (lv_at hl 1 rfl) ?_
  refine lv_iload_n hx hb dX0_widened_13 rfl (lv_at hl 0 rfl) ?_
  refine lv_ishl hx hb dX0_widened_14 ?_
  refine lv_iload_n hx hb dX0_widened_15 rfl (lv_at hl 0 rfl) ?_
  refine lv_ishr hx hb dX0_widened_16 ?_
  refine lv_goto (tgt := 25) hx hb dX0_widened_17 rfl ?_
  refine sm_eqi (y := (x <<< (nI 24 &&& 31)) >>> (nI 24 &&& 31)) (rfl) ?_
  exact sm_iret hx hb hrt hlocks hS hP hD dX0_widened_25
set_option maxHeartbeats 4000000 in
set_option maxRecDepth 100000 in
theorem c_widened_1_f (l : Launch) (D : va_G) (x : Int32) : sm_C l yX0_widened wsX0_widened ({ frames := 0, cells := 0, slots := 0, locals := 0 } : Room) D vwCl [] [.int x, .int 1, .int (sm_bI false)] [] (some (.int (sm_ushr (x <<< (nI 24 &&& 31)) (nI 24)))) [] := by
  refine sm_start (cc := cX0_widened) (maxL := 4) (ret := some .int) (lv := [(0, .int x), (1, .int 1), (2, .int (sm_bI false))]) (by decide) rfl (Nat.le_of_ble_eq_true rfl) rfl ?_
  intro p e s m below meth c hx hb hrt hts hown hlocks hml hin hK hP hD hS hA ls hl
  have hw := sm_hw hts
  refine lv_bipush (v := 32) hx hb dX0_widened_0 (by decide) ?_
  refine lv_iload_n hx hb dX0_widened_2 rfl (lv_at hl 1 rfl) ?_
  refine lv_bipush (v := 8) hx hb dX0_widened_3 (by decide) ?_
  refine lv_imul hx hb dX0_widened_5 ?_
  refine sm_eqi (y := 8) (by decide) ?_
  refine lv_isub hx hb dX0_widened_6 ?_
  refine sm_eqi (y := 24) (by decide) ?_
  refine lv_istore_n (lv' := [(3, .int 24), (0, .int x), (1, .int 1), (2, .int (sm_bI false))]) hx hb dX0_widened_7 rfl hl (by decide) rfl (fun ls hl => ?_)
  refine lv_iload_n hx hb dX0_widened_8 rfl (lv_at hl 3 rfl) ?_
  refine lv_if_eq (tgt := 20) hx hb dX0_widened_9 rfl (fun _ => ?_) (fun z => absurd (by decide) z)
  refine lv_iload_n hx hb dX0_widened_20 rfl (lv_at hl 1 rfl) ?_
  refine lv_iload_n hx hb dX0_widened_21 rfl (lv_at hl 0 rfl) ?_
  refine lv_ishl hx hb dX0_widened_22 ?_
  refine lv_iload_n hx hb dX0_widened_23 rfl (lv_at hl 0 rfl) ?_
  refine lv_iushr (v := sm_ushr (x <<< (24 &&& 31)) 24) hx hb dX0_widened_24 rfl ?_
  refine sm_eqi (y := sm_ushr (x <<< (nI 24 &&& 31)) (nI 24)) (rfl) ?_
  exact sm_iret hx hb hrt hlocks hS hP hD dX0_widened_25
set_option maxHeartbeats 4000000 in
set_option maxRecDepth 100000 in
theorem c_widened_2_t (l : Launch) (D : va_G) (x : Int32) : sm_C l yX0_widened wsX0_widened ({ frames := 0, cells := 0, slots := 0, locals := 0 } : Room) D vwCl [] [.int x, .int 2, .int (sm_bI true)] [] (some (.int ((x <<< (nI 16 &&& 31)) >>> (nI 16 &&& 31)))) [] := by
  refine sm_start (cc := cX0_widened) (maxL := 4) (ret := some .int) (lv := [(0, .int x), (1, .int 2), (2, .int (sm_bI true))]) (by decide) rfl (Nat.le_of_ble_eq_true rfl) rfl ?_
  intro p e s m below meth c hx hb hrt hts hown hlocks hml hin hK hP hD hS hA ls hl
  have hw := sm_hw hts
  refine lv_bipush (v := 32) hx hb dX0_widened_0 (by decide) ?_
  refine lv_iload_n hx hb dX0_widened_2 rfl (lv_at hl 1 rfl) ?_
  refine lv_bipush (v := 8) hx hb dX0_widened_3 (by decide) ?_
  refine lv_imul hx hb dX0_widened_5 ?_
  refine sm_eqi (y := 16) (by decide) ?_
  refine lv_isub hx hb dX0_widened_6 ?_
  refine sm_eqi (y := 16) (by decide) ?_
  refine lv_istore_n (lv' := [(3, .int 16), (0, .int x), (1, .int 2), (2, .int (sm_bI true))]) hx hb dX0_widened_7 rfl hl (by decide) rfl (fun ls hl => ?_)
  refine lv_iload_n hx hb dX0_widened_8 rfl (lv_at hl 3 rfl) ?_
  refine lv_if_eq (tgt := 20) hx hb dX0_widened_9 rfl (fun z => absurd z (by decide)) (fun _ => ?_)
  refine lv_iload_n hx hb dX0_widened_12 rfl (lv_at hl 1 rfl) ?_
  refine lv_iload_n hx hb dX0_widened_13 rfl (lv_at hl 0 rfl) ?_
  refine lv_ishl hx hb dX0_widened_14 ?_
  refine lv_iload_n hx hb dX0_widened_15 rfl (lv_at hl 0 rfl) ?_
  refine lv_ishr hx hb dX0_widened_16 ?_
  refine lv_goto (tgt := 25) hx hb dX0_widened_17 rfl ?_
  refine sm_eqi (y := (x <<< (nI 16 &&& 31)) >>> (nI 16 &&& 31)) (rfl) ?_
  exact sm_iret hx hb hrt hlocks hS hP hD dX0_widened_25
set_option maxHeartbeats 4000000 in
set_option maxRecDepth 100000 in
theorem c_widened_2_f (l : Launch) (D : va_G) (x : Int32) : sm_C l yX0_widened wsX0_widened ({ frames := 0, cells := 0, slots := 0, locals := 0 } : Room) D vwCl [] [.int x, .int 2, .int (sm_bI false)] [] (some (.int (sm_ushr (x <<< (nI 16 &&& 31)) (nI 16)))) [] := by
  refine sm_start (cc := cX0_widened) (maxL := 4) (ret := some .int) (lv := [(0, .int x), (1, .int 2), (2, .int (sm_bI false))]) (by decide) rfl (Nat.le_of_ble_eq_true rfl) rfl ?_
  intro p e s m below meth c hx hb hrt hts hown hlocks hml hin hK hP hD hS hA ls hl
  have hw := sm_hw hts
  refine lv_bipush (v := 32) hx hb dX0_widened_0 (by decide) ?_
  refine lv_iload_n hx hb dX0_widened_2 rfl (lv_at hl 1 rfl) ?_
  refine lv_bipush (v := 8) hx hb dX0_widened_3 (by decide) ?_
  refine lv_imul hx hb dX0_widened_5 ?_
  refine sm_eqi (y := 16) (by decide) ?_
  refine lv_isub hx hb dX0_widened_6 ?_
  refine sm_eqi (y := 16) (by decide) ?_
  refine lv_istore_n (lv' := [(3, .int 16), (0, .int x), (1, .int 2), (2, .int (sm_bI false))]) hx hb dX0_widened_7 rfl hl (by decide) rfl (fun ls hl => ?_)
  refine lv_iload_n hx hb dX0_widened_8 rfl (lv_at hl 3 rfl) ?_
  refine lv_if_eq (tgt := 20) hx hb dX0_widened_9 rfl (fun _ => ?_) (fun z => absurd (by decide) z)
  refine lv_iload_n hx hb dX0_widened_20 rfl (lv_at hl 1 rfl) ?_
  refine lv_iload_n hx hb dX0_widened_21 rfl (lv_at hl 0 rfl) ?_
  refine lv_ishl hx hb dX0_widened_22 ?_
  refine lv_iload_n hx hb dX0_widened_23 rfl (lv_at hl 0 rfl) ?_
  refine lv_iushr (v := sm_ushr (x <<< (16 &&& 31)) 16) hx hb dX0_widened_24 rfl ?_
  refine sm_eqi (y := sm_ushr (x <<< (nI 16 &&& 31)) (nI 16)) (rfl) ?_
  exact sm_iret hx hb hrt hlocks hS hP hD dX0_widened_25
set_option maxHeartbeats 4000000 in
set_option maxRecDepth 100000 in
theorem c_widened_4_t (l : Launch) (D : va_G) (x : Int32) : sm_C l yX0_widened wsX0_widened ({ frames := 0, cells := 0, slots := 0, locals := 0 } : Room) D vwCl [] [.int x, .int 4, .int (sm_bI true)] [] (some (.int ((x <<< (nI 0 &&& 31)) >>> (nI 0 &&& 31)))) [] := by
  refine sm_start (cc := cX0_widened) (maxL := 4) (ret := some .int) (lv := [(0, .int x), (1, .int 4), (2, .int (sm_bI true))]) (by decide) rfl (Nat.le_of_ble_eq_true rfl) rfl ?_
  intro p e s m below meth c hx hb hrt hts hown hlocks hml hin hK hP hD hS hA ls hl
  have hw := sm_hw hts
  refine lv_bipush (v := 32) hx hb dX0_widened_0 (by decide) ?_
  refine lv_iload_n hx hb dX0_widened_2 rfl (lv_at hl 1 rfl) ?_
  refine lv_bipush (v := 8) hx hb dX0_widened_3 (by decide) ?_
  refine lv_imul hx hb dX0_widened_5 ?_
  refine sm_eqi (y := 32) (by decide) ?_
  refine lv_isub hx hb dX0_widened_6 ?_
  refine sm_eqi (y := 0) (by decide) ?_
  refine lv_istore_n (lv' := [(3, .int 0), (0, .int x), (1, .int 4), (2, .int (sm_bI true))]) hx hb dX0_widened_7 rfl hl (by decide) rfl (fun ls hl => ?_)
  refine lv_iload_n hx hb dX0_widened_8 rfl (lv_at hl 3 rfl) ?_
  refine lv_if_eq (tgt := 20) hx hb dX0_widened_9 rfl (fun z => absurd z (by decide)) (fun _ => ?_)
  refine lv_iload_n hx hb dX0_widened_12 rfl (lv_at hl 1 rfl) ?_
  refine lv_iload_n hx hb dX0_widened_13 rfl (lv_at hl 0 rfl) ?_
  refine lv_ishl hx hb dX0_widened_14 ?_
  refine lv_iload_n hx hb dX0_widened_15 rfl (lv_at hl 0 rfl) ?_
  refine lv_ishr hx hb dX0_widened_16 ?_
  refine lv_goto (tgt := 25) hx hb dX0_widened_17 rfl ?_
  refine sm_eqi (y := (x <<< (nI 0 &&& 31)) >>> (nI 0 &&& 31)) (rfl) ?_
  exact sm_iret hx hb hrt hlocks hS hP hD dX0_widened_25
set_option maxHeartbeats 4000000 in
set_option maxRecDepth 100000 in
theorem c_widened_4_f (l : Launch) (D : va_G) (x : Int32) : sm_C l yX0_widened wsX0_widened ({ frames := 0, cells := 0, slots := 0, locals := 0 } : Room) D vwCl [] [.int x, .int 4, .int (sm_bI false)] [] (some (.int (sm_ushr (x <<< (nI 0 &&& 31)) (nI 0)))) [] := by
  refine sm_start (cc := cX0_widened) (maxL := 4) (ret := some .int) (lv := [(0, .int x), (1, .int 4), (2, .int (sm_bI false))]) (by decide) rfl (Nat.le_of_ble_eq_true rfl) rfl ?_
  intro p e s m below meth c hx hb hrt hts hown hlocks hml hin hK hP hD hS hA ls hl
  have hw := sm_hw hts
  refine lv_bipush (v := 32) hx hb dX0_widened_0 (by decide) ?_
  refine lv_iload_n hx hb dX0_widened_2 rfl (lv_at hl 1 rfl) ?_
  refine lv_bipush (v := 8) hx hb dX0_widened_3 (by decide) ?_
  refine lv_imul hx hb dX0_widened_5 ?_
  refine sm_eqi (y := 32) (by decide) ?_
  refine lv_isub hx hb dX0_widened_6 ?_
  refine sm_eqi (y := 0) (by decide) ?_
  refine lv_istore_n (lv' := [(3, .int 0), (0, .int x), (1, .int 4), (2, .int (sm_bI false))]) hx hb dX0_widened_7 rfl hl (by decide) rfl (fun ls hl => ?_)
  refine lv_iload_n hx hb dX0_widened_8 rfl (lv_at hl 3 rfl) ?_
  refine lv_if_eq (tgt := 20) hx hb dX0_widened_9 rfl (fun _ => ?_) (fun z => absurd (by decide) z)
  refine lv_iload_n hx hb dX0_widened_20 rfl (lv_at hl 1 rfl) ?_
  refine lv_iload_n hx hb dX0_widened_21 rfl (lv_at hl 0 rfl) ?_
  refine lv_ishl hx hb dX0_widened_22 ?_
  refine lv_iload_n hx hb dX0_widened_23 rfl (lv_at hl 0 rfl) ?_
  refine lv_iushr (v := sm_ushr (x <<< (0 &&& 31)) 0) hx hb dX0_widened_24 rfl ?_
  refine sm_eqi (y := sm_ushr (x <<< (nI 0 &&& 31)) (nI 0)) (rfl) ?_
  exact sm_iret hx hb hrt hlocks hS hP hD dX0_widened_25
set_option maxHeartbeats 4000000 in
set_option maxRecDepth 100000 in
theorem c_store_1 (l : Launch) (D : va_G) (cI : ClassId) (x0 x1 x2 x3 : Nat) (V S M : Nat → Int32) (r t : Nat) (hr : r < 16) (ht : t + 1 ≤ 256) : sm_C l yX0_store wsX0_store ({ frames := 2, cells := 0, slots := 0, locals := 42 } : Room) D vwCl [(cI, .int)] [.ref x0, .int (nI r), .int (nI t), .int 1] (sm_wX cI x0 x1 x2 x3 V S M) none (sm_wX cI x0 x1 x2 x3 V S (sm_fil M (sm_by (V r) (S r)) t 1)) := by
  refine sm_start (cc := cX0_store) (maxL := 8) (ret := none) (lv := [(0, .ref x0), (1, .int (nI r)), (2, .int (nI t)), (3, .int 1)]) (by decide) rfl (Nat.le_of_ble_eq_true rfl) rfl ?_
  intro p e s m below meth c hx hb hrt hts hown hlocks hml hin hK hP hD hS hA ls hl
  have hw := sm_hw hts
  refine lv_iload_n hx hb dX0_store_0 rfl (lv_at hl 1 rfl) ?_
  refine lv_iload_n hx hb dX0_store_1 rfl (lv_at hl 2 rfl) ?_
  refine lv_iload_n hx hb dX0_store_2 rfl (lv_at hl 3 rfl) ?_
  refine sm_callS (As := [.int (nI r), .int (nI t), .int 1]) (rest := []) (wr := (sm_wX cI x0 x1 x2 x3 V S M)) (wn := (sm_wX cI x0 x1 x2 x3 V S M)) (st1 := []) ⟨hx, hb, hml, hown, hts⟩ (c_checkTransfer_1 l D r t (by omega) (by omega)) (va_cwS 3 hts (sm_gS (i1 := 178) (i2 := 179) (i4 := 1) (i5 := 180) rfl rfl rfl rfl) rfl rfl rfl (by decide +kernel) ⟨Nat.le_of_ble_eq_true rfl, Nat.le_of_ble_eq_true rfl⟩) hK [] rfl hP hD hS hA [] [0, 1, 2, 3] rfl rfl (by decide) (by decide) (by decide) rfl hl.1 rfl (Nat.le_of_ble_eq_true rfl) dX0_store_3 ⟨Nat.le_of_ble_eq_true rfl, Nat.le_of_ble_eq_true rfl⟩ rfl rfl (fun H locs hP hD hS => ?_)
  refine lv_iconst (v := 0) hx hb dX0_store_6 (by decide) ?_
  refine lv_istore (lv' := [(4, .int 0), (0, .ref x0), (1, .int (nI r)), (2, .int (nI t)), (3, .int 1)]) hx hb dX0_store_7 hl (by decide) rfl (fun ls hl => ?_)
  refine sm_loopW (nL := 8) (lv := fun k => [(0, .ref x0), (1, .int (nI r)), (2, .int (nI t)), (3, .int 1), (4, .int (nI k))]) (w := fun k => (sm_wX cI x0 x1 x2 x3 V S (sm_fil M (sm_by (V r) (S r)) t k))) 1 (fun H locs ls hl hP hD hS => ?_) (fun k hk ih H locs ls hl hP hD hS => ?_) (lv_sub hl [1, 2, 3, 4, 0] rfl) (sm_cP (by simp only [sm_fil0]) hP) (sm_cD (by simp only [sm_fil0]) hD) hS
  · have hl : lv_has ls 8 [(0, .ref x0), (1, .int (nI r)), (2, .int (nI t)), (3, .int 1), (4, .int (nI 1))] := hl
    have hP : va_P D vwCl (sm_wX cI x0 x1 x2 x3 V S (sm_fil M (sm_by (V r) (S r)) t 1)) H := hP
    have hD : va_D _ (sm_wX cI x0 x1 x2 x3 V S (sm_fil M (sm_by (V r) (S r)) t 1)) := hD
    refine lv_iload hx hb dX0_store_9 (lv_at hl 4 rfl) ?_
    refine lv_iload_n hx hb dX0_store_11 rfl (lv_at hl 3 rfl) ?_
    refine lv_icmp_ge (tgt := 75) hx hb dX0_store_12 rfl (fun _ => ?_) (fun z => absurd (by decide) z)
    exact sm_vret hx hb hrt hlocks hS hP hD dX0_store_75
  · have hl : lv_has ls 8 [(0, .ref x0), (1, .int (nI r)), (2, .int (nI t)), (3, .int 1), (4, .int (nI k))] := hl
    have hP : va_P D vwCl (sm_wX cI x0 x1 x2 x3 V S (sm_fil M (sm_by (V r) (S r)) t k)) H := hP
    have hD : va_D _ (sm_wX cI x0 x1 x2 x3 V S (sm_fil M (sm_by (V r) (S r)) t k)) := hD
    refine lv_iload hx hb dX0_store_9 (lv_at hl 4 rfl) ?_
    refine lv_iload_n hx hb dX0_store_11 rfl (lv_at hl 3 rfl) ?_
    refine lv_icmp_ge (tgt := 75) hx hb dX0_store_12 rfl (fun z => absurd z (nI_ge (b := 1) hk (by decide))) (fun _ => ?_)
    refine lv_iload hx hb dX0_store_15 (lv_at hl 4 rfl) ?_
    refine lv_bipush (v := 8) hx hb dX0_store_17 (by decide) ?_
    refine lv_imul hx hb dX0_store_19 ?_
    refine sm_eqi (y := nI (k * 8)) (pk_mul k 8) ?_
    refine lv_istore (lv' := [(5, .int (nI (k * 8))), (0, .ref x0), (1, .int (nI r)), (2, .int (nI t)), (3, .int 1), (4, .int (nI k))]) hx hb dX0_store_20 hl (by decide) rfl (fun ls hl => ?_)
    refine lv_aload_n hx hb dX0_store_22 rfl (lv_at hl 1 rfl) ?_
    refine va_get (D := D) (ci := 0) (v := .ref x1) (C := RX0) (T := TX0) (N := 3) hx hb hts inX0 hown hK hP 0 rfl rfl 0 (by decide) (hw 18 rfl) (fun _ h9 => h9) rfl dX0_store_23 ?_
    refine lv_iload_n hx hb dX0_store_26 rfl (lv_at hl 2 rfl) ?_
    refine va_iald hx hb hK hP 1 0 rfl rfl (vp_in_nI (n := r) (by omega) (by decide)) dX0_store_27 ?_
    refine sm_eqi (y := V r) (sm_cl V (n := r) (by omega)) ?_
    refine lv_iload hx hb dX0_store_28 (lv_at hl 0 rfl) ?_
    refine lv_iushr (v := sm_ushr (V r) (nI (k * 8))) hx hb dX0_store_30 rfl ?_
    refine lv_sipush (v := 255) hx hb dX0_store_31 (by decide) ?_
    refine lv_iand hx hb dX0_store_34 ?_
    refine lv_istore (lv' := [(6, .int ((sm_ushr (V r) (nI (k * 8))) &&& 255)), (5, .int (nI (k * 8))), (0, .ref x0), (1, .int (nI r)), (2, .int (nI t)), (3, .int 1), (4, .int (nI k))]) hx hb dX0_store_35 hl (by decide) rfl (fun ls hl => ?_)
    refine lv_aload_n hx hb dX0_store_37 rfl (lv_at hl 2 rfl) ?_
    refine va_get (D := D) (ci := 0) (v := .ref x2) (C := RX0) (T := TX0) (N := 3) hx hb hts inX0 hown hK hP 0 rfl rfl 1 (by decide) (hw 19 rfl) (fun _ h9 => h9) rfl dX0_store_38 ?_
    refine lv_iload_n hx hb dX0_store_41 rfl (lv_at hl 3 rfl) ?_
    refine va_iald hx hb hK hP 2 0 rfl rfl (vp_in_nI (n := r) (by omega) (by decide)) dX0_store_42 ?_
    refine sm_eqi (y := S r) (sm_cl S (n := r) (by omega)) ?_
    refine lv_iload hx hb dX0_store_43 (lv_at hl 1 rfl) ?_
    refine lv_iushr (v := sm_ushr (S r) (nI (k * 8))) hx hb dX0_store_45 rfl ?_
    refine lv_sipush (v := 255) hx hb dX0_store_46 (by decide) ?_
    refine lv_iand hx hb dX0_store_49 ?_
    refine lv_istore (lv' := [(7, .int ((sm_ushr (S r) (nI (k * 8))) &&& 255)), (6, .int ((sm_ushr (V r) (nI (k * 8))) &&& 255)), (5, .int (nI (k * 8))), (0, .ref x0), (1, .int (nI r)), (2, .int (nI t)), (3, .int 1), (4, .int (nI k))]) hx hb dX0_store_50 hl (by decide) rfl (fun ls hl => ?_)
    refine lv_aload_n hx hb dX0_store_52 rfl (lv_at hl 3 rfl) ?_
    refine va_get (D := D) (ci := 0) (v := .ref x3) (C := RX0) (T := TX0) (N := 3) hx hb hts inX0 hown hK hP 0 rfl rfl 2 (by decide) (hw 20 rfl) (fun _ h9 => h9) rfl dX0_store_53 ?_
    refine lv_iload_n hx hb dX0_store_56 rfl (lv_at hl 5 rfl) ?_
    refine lv_iload hx hb dX0_store_57 (lv_at hl 7 rfl) ?_
    refine lv_iadd hx hb dX0_store_59 ?_
    refine sm_eqi (y := nI (t + k)) (nI_add t k) ?_
    refine lv_iload hx hb dX0_store_60 (lv_at hl 0 rfl) ?_
    refine lv_bipush (v := 8) hx hb dX0_store_62 (by decide) ?_
    refine lv_ishl hx hb dX0_store_64 ?_
    refine lv_iload hx hb dX0_store_65 (lv_at hl 1 rfl) ?_
    refine lv_ior hx hb dX0_store_67 ?_
    refine sm_iast (f' := sm_fil M (sm_by (V r) (S r)) t (k + 1)) (ws' := (sm_wX cI x0 x1 x2 x3 V S (sm_fil M (sm_by (V r) (S r)) t (k + 1)))) hx hb hK hP hD hS 3 0 rfl rfl (vp_in_nI (n := t + k) (by omega) (by decide)) dX0_store_68 (by rw [nI_clamp (by omega)]; exact sm_filS M (sm_by (V r) (S r)) t k) rfl (fun H locs hP hD hS => ?_)
    refine lv_iinc (k := 7) (v := nI (k + 1)) (lv' := [(4, .int (nI (k + 1))), (7, .int ((sm_ushr (S r) (nI (k * 8))) &&& 255)), (6, .int ((sm_ushr (V r) (nI (k * 8))) &&& 255)), (5, .int (nI (k * 8))), (0, .ref x0), (1, .int (nI r)), (2, .int (nI t)), (3, .int 1)]) hx hb dX0_store_69 hl rfl (sm_inc k) (by decide) rfl (fun ls hl => ?_)
    refine lv_goto (tgt := 9) hx hb dX0_store_72 rfl ?_
    exact ih _ _ _ (lv_sub hl [4, 5, 6, 7, 0] rfl) (sm_cP (rfl) hP) (sm_cD (rfl) hD) hS
set_option maxHeartbeats 4000000 in
set_option maxRecDepth 100000 in
theorem c_store_2 (l : Launch) (D : va_G) (cI : ClassId) (x0 x1 x2 x3 : Nat) (V S M : Nat → Int32) (r t : Nat) (hr : r < 16) (ht : t + 2 ≤ 256) : sm_C l yX0_store wsX0_store ({ frames := 2, cells := 0, slots := 0, locals := 42 } : Room) D vwCl [(cI, .int)] [.ref x0, .int (nI r), .int (nI t), .int 2] (sm_wX cI x0 x1 x2 x3 V S M) none (sm_wX cI x0 x1 x2 x3 V S (sm_fil M (sm_by (V r) (S r)) t 2)) := by
  refine sm_start (cc := cX0_store) (maxL := 8) (ret := none) (lv := [(0, .ref x0), (1, .int (nI r)), (2, .int (nI t)), (3, .int 2)]) (by decide) rfl (Nat.le_of_ble_eq_true rfl) rfl ?_
  intro p e s m below meth c hx hb hrt hts hown hlocks hml hin hK hP hD hS hA ls hl
  have hw := sm_hw hts
  refine lv_iload_n hx hb dX0_store_0 rfl (lv_at hl 1 rfl) ?_
  refine lv_iload_n hx hb dX0_store_1 rfl (lv_at hl 2 rfl) ?_
  refine lv_iload_n hx hb dX0_store_2 rfl (lv_at hl 3 rfl) ?_
  refine sm_callS (As := [.int (nI r), .int (nI t), .int 2]) (rest := []) (wr := (sm_wX cI x0 x1 x2 x3 V S M)) (wn := (sm_wX cI x0 x1 x2 x3 V S M)) (st1 := []) ⟨hx, hb, hml, hown, hts⟩ (c_checkTransfer_2 l D r t (by omega) (by omega)) (va_cwS 3 hts (sm_gS (i1 := 178) (i2 := 179) (i4 := 1) (i5 := 180) rfl rfl rfl rfl) rfl rfl rfl (by decide +kernel) ⟨Nat.le_of_ble_eq_true rfl, Nat.le_of_ble_eq_true rfl⟩) hK [] rfl hP hD hS hA [] [0, 1, 2, 3] rfl rfl (by decide) (by decide) (by decide) rfl hl.1 rfl (Nat.le_of_ble_eq_true rfl) dX0_store_3 ⟨Nat.le_of_ble_eq_true rfl, Nat.le_of_ble_eq_true rfl⟩ rfl rfl (fun H locs hP hD hS => ?_)
  refine lv_iconst (v := 0) hx hb dX0_store_6 (by decide) ?_
  refine lv_istore (lv' := [(4, .int 0), (0, .ref x0), (1, .int (nI r)), (2, .int (nI t)), (3, .int 2)]) hx hb dX0_store_7 hl (by decide) rfl (fun ls hl => ?_)
  refine sm_loopW (nL := 8) (lv := fun k => [(0, .ref x0), (1, .int (nI r)), (2, .int (nI t)), (3, .int 2), (4, .int (nI k))]) (w := fun k => (sm_wX cI x0 x1 x2 x3 V S (sm_fil M (sm_by (V r) (S r)) t k))) 2 (fun H locs ls hl hP hD hS => ?_) (fun k hk ih H locs ls hl hP hD hS => ?_) (lv_sub hl [1, 2, 3, 4, 0] rfl) (sm_cP (by simp only [sm_fil0]) hP) (sm_cD (by simp only [sm_fil0]) hD) hS
  · have hl : lv_has ls 8 [(0, .ref x0), (1, .int (nI r)), (2, .int (nI t)), (3, .int 2), (4, .int (nI 2))] := hl
    have hP : va_P D vwCl (sm_wX cI x0 x1 x2 x3 V S (sm_fil M (sm_by (V r) (S r)) t 2)) H := hP
    have hD : va_D _ (sm_wX cI x0 x1 x2 x3 V S (sm_fil M (sm_by (V r) (S r)) t 2)) := hD
    refine lv_iload hx hb dX0_store_9 (lv_at hl 4 rfl) ?_
    refine lv_iload_n hx hb dX0_store_11 rfl (lv_at hl 3 rfl) ?_
    refine lv_icmp_ge (tgt := 75) hx hb dX0_store_12 rfl (fun _ => ?_) (fun z => absurd (by decide) z)
    exact sm_vret hx hb hrt hlocks hS hP hD dX0_store_75
  · have hl : lv_has ls 8 [(0, .ref x0), (1, .int (nI r)), (2, .int (nI t)), (3, .int 2), (4, .int (nI k))] := hl
    have hP : va_P D vwCl (sm_wX cI x0 x1 x2 x3 V S (sm_fil M (sm_by (V r) (S r)) t k)) H := hP
    have hD : va_D _ (sm_wX cI x0 x1 x2 x3 V S (sm_fil M (sm_by (V r) (S r)) t k)) := hD
    refine lv_iload hx hb dX0_store_9 (lv_at hl 4 rfl) ?_
    refine lv_iload_n hx hb dX0_store_11 rfl (lv_at hl 3 rfl) ?_
    refine lv_icmp_ge (tgt := 75) hx hb dX0_store_12 rfl (fun z => absurd z (nI_ge (b := 2) hk (by decide))) (fun _ => ?_)
    refine lv_iload hx hb dX0_store_15 (lv_at hl 4 rfl) ?_
    refine lv_bipush (v := 8) hx hb dX0_store_17 (by decide) ?_
    refine lv_imul hx hb dX0_store_19 ?_
    refine sm_eqi (y := nI (k * 8)) (pk_mul k 8) ?_
    refine lv_istore (lv' := [(5, .int (nI (k * 8))), (0, .ref x0), (1, .int (nI r)), (2, .int (nI t)), (3, .int 2), (4, .int (nI k))]) hx hb dX0_store_20 hl (by decide) rfl (fun ls hl => ?_)
    refine lv_aload_n hx hb dX0_store_22 rfl (lv_at hl 1 rfl) ?_
    refine va_get (D := D) (ci := 0) (v := .ref x1) (C := RX0) (T := TX0) (N := 3) hx hb hts inX0 hown hK hP 0 rfl rfl 0 (by decide) (hw 18 rfl) (fun _ h9 => h9) rfl dX0_store_23 ?_
    refine lv_iload_n hx hb dX0_store_26 rfl (lv_at hl 2 rfl) ?_
    refine va_iald hx hb hK hP 1 0 rfl rfl (vp_in_nI (n := r) (by omega) (by decide)) dX0_store_27 ?_
    refine sm_eqi (y := V r) (sm_cl V (n := r) (by omega)) ?_
    refine lv_iload hx hb dX0_store_28 (lv_at hl 0 rfl) ?_
    refine lv_iushr (v := sm_ushr (V r) (nI (k * 8))) hx hb dX0_store_30 rfl ?_
    refine lv_sipush (v := 255) hx hb dX0_store_31 (by decide) ?_
    refine lv_iand hx hb dX0_store_34 ?_
    refine lv_istore (lv' := [(6, .int ((sm_ushr (V r) (nI (k * 8))) &&& 255)), (5, .int (nI (k * 8))), (0, .ref x0), (1, .int (nI r)), (2, .int (nI t)), (3, .int 2), (4, .int (nI k))]) hx hb dX0_store_35 hl (by decide) rfl (fun ls hl => ?_)
    refine lv_aload_n hx hb dX0_store_37 rfl (lv_at hl 2 rfl) ?_
    refine va_get (D := D) (ci := 0) (v := .ref x2) (C := RX0) (T := TX0) (N := 3) hx hb hts inX0 hown hK hP 0 rfl rfl 1 (by decide) (hw 19 rfl) (fun _ h9 => h9) rfl dX0_store_38 ?_
    refine lv_iload_n hx hb dX0_store_41 rfl (lv_at hl 3 rfl) ?_
    refine va_iald hx hb hK hP 2 0 rfl rfl (vp_in_nI (n := r) (by omega) (by decide)) dX0_store_42 ?_
    refine sm_eqi (y := S r) (sm_cl S (n := r) (by omega)) ?_
    refine lv_iload hx hb dX0_store_43 (lv_at hl 1 rfl) ?_
    refine lv_iushr (v := sm_ushr (S r) (nI (k * 8))) hx hb dX0_store_45 rfl ?_
    refine lv_sipush (v := 255) hx hb dX0_store_46 (by decide) ?_
    refine lv_iand hx hb dX0_store_49 ?_
    refine lv_istore (lv' := [(7, .int ((sm_ushr (S r) (nI (k * 8))) &&& 255)), (6, .int ((sm_ushr (V r) (nI (k * 8))) &&& 255)), (5, .int (nI (k * 8))), (0, .ref x0), (1, .int (nI r)), (2, .int (nI t)), (3, .int 2), (4, .int (nI k))]) hx hb dX0_store_50 hl (by decide) rfl (fun ls hl => ?_)
    refine lv_aload_n hx hb dX0_store_52 rfl (lv_at hl 3 rfl) ?_
    refine va_get (D := D) (ci := 0) (v := .ref x3) (C := RX0) (T := TX0) (N := 3) hx hb hts inX0 hown hK hP 0 rfl rfl 2 (by decide) (hw 20 rfl) (fun _ h9 => h9) rfl dX0_store_53 ?_
    refine lv_iload_n hx hb dX0_store_56 rfl (lv_at hl 5 rfl) ?_
    refine lv_iload hx hb dX0_store_57 (lv_at hl 7 rfl) ?_
    refine lv_iadd hx hb dX0_store_59 ?_
    refine sm_eqi (y := nI (t + k)) (nI_add t k) ?_
    refine lv_iload hx hb dX0_store_60 (lv_at hl 0 rfl) ?_
    refine lv_bipush (v := 8) hx hb dX0_store_62 (by decide) ?_
    refine lv_ishl hx hb dX0_store_64 ?_
    refine lv_iload hx hb dX0_store_65 (lv_at hl 1 rfl) ?_
    refine lv_ior hx hb dX0_store_67 ?_
    refine sm_iast (f' := sm_fil M (sm_by (V r) (S r)) t (k + 1)) (ws' := (sm_wX cI x0 x1 x2 x3 V S (sm_fil M (sm_by (V r) (S r)) t (k + 1)))) hx hb hK hP hD hS 3 0 rfl rfl (vp_in_nI (n := t + k) (by omega) (by decide)) dX0_store_68 (by rw [nI_clamp (by omega)]; exact sm_filS M (sm_by (V r) (S r)) t k) rfl (fun H locs hP hD hS => ?_)
    refine lv_iinc (k := 7) (v := nI (k + 1)) (lv' := [(4, .int (nI (k + 1))), (7, .int ((sm_ushr (S r) (nI (k * 8))) &&& 255)), (6, .int ((sm_ushr (V r) (nI (k * 8))) &&& 255)), (5, .int (nI (k * 8))), (0, .ref x0), (1, .int (nI r)), (2, .int (nI t)), (3, .int 2)]) hx hb dX0_store_69 hl rfl (sm_inc k) (by decide) rfl (fun ls hl => ?_)
    refine lv_goto (tgt := 9) hx hb dX0_store_72 rfl ?_
    exact ih _ _ _ (lv_sub hl [4, 5, 6, 7, 0] rfl) (sm_cP (rfl) hP) (sm_cD (rfl) hD) hS
set_option maxHeartbeats 4000000 in
set_option maxRecDepth 100000 in
theorem c_store_4 (l : Launch) (D : va_G) (cI : ClassId) (x0 x1 x2 x3 : Nat) (V S M : Nat → Int32) (r t : Nat) (hr : r < 16) (ht : t + 4 ≤ 256) : sm_C l yX0_store wsX0_store ({ frames := 2, cells := 0, slots := 0, locals := 42 } : Room) D vwCl [(cI, .int)] [.ref x0, .int (nI r), .int (nI t), .int 4] (sm_wX cI x0 x1 x2 x3 V S M) none (sm_wX cI x0 x1 x2 x3 V S (sm_fil M (sm_by (V r) (S r)) t 4)) := by
  refine sm_start (cc := cX0_store) (maxL := 8) (ret := none) (lv := [(0, .ref x0), (1, .int (nI r)), (2, .int (nI t)), (3, .int 4)]) (by decide) rfl (Nat.le_of_ble_eq_true rfl) rfl ?_
  intro p e s m below meth c hx hb hrt hts hown hlocks hml hin hK hP hD hS hA ls hl
  have hw := sm_hw hts
  refine lv_iload_n hx hb dX0_store_0 rfl (lv_at hl 1 rfl) ?_
  refine lv_iload_n hx hb dX0_store_1 rfl (lv_at hl 2 rfl) ?_
  refine lv_iload_n hx hb dX0_store_2 rfl (lv_at hl 3 rfl) ?_
  refine sm_callS (As := [.int (nI r), .int (nI t), .int 4]) (rest := []) (wr := (sm_wX cI x0 x1 x2 x3 V S M)) (wn := (sm_wX cI x0 x1 x2 x3 V S M)) (st1 := []) ⟨hx, hb, hml, hown, hts⟩ (c_checkTransfer_4 l D r t (by omega) (by omega)) (va_cwS 3 hts (sm_gS (i1 := 178) (i2 := 179) (i4 := 1) (i5 := 180) rfl rfl rfl rfl) rfl rfl rfl (by decide +kernel) ⟨Nat.le_of_ble_eq_true rfl, Nat.le_of_ble_eq_true rfl⟩) hK [] rfl hP hD hS hA [] [0, 1, 2, 3] rfl rfl (by decide) (by decide) (by decide) rfl hl.1 rfl (Nat.le_of_ble_eq_true rfl) dX0_store_3 ⟨Nat.le_of_ble_eq_true rfl, Nat.le_of_ble_eq_true rfl⟩ rfl rfl (fun H locs hP hD hS => ?_)
  refine lv_iconst (v := 0) hx hb dX0_store_6 (by decide) ?_
  refine lv_istore (lv' := [(4, .int 0), (0, .ref x0), (1, .int (nI r)), (2, .int (nI t)), (3, .int 4)]) hx hb dX0_store_7 hl (by decide) rfl (fun ls hl => ?_)
  refine sm_loopW (nL := 8) (lv := fun k => [(0, .ref x0), (1, .int (nI r)), (2, .int (nI t)), (3, .int 4), (4, .int (nI k))]) (w := fun k => (sm_wX cI x0 x1 x2 x3 V S (sm_fil M (sm_by (V r) (S r)) t k))) 4 (fun H locs ls hl hP hD hS => ?_) (fun k hk ih H locs ls hl hP hD hS => ?_) (lv_sub hl [1, 2, 3, 4, 0] rfl) (sm_cP (by simp only [sm_fil0]) hP) (sm_cD (by simp only [sm_fil0]) hD) hS
  · have hl : lv_has ls 8 [(0, .ref x0), (1, .int (nI r)), (2, .int (nI t)), (3, .int 4), (4, .int (nI 4))] := hl
    have hP : va_P D vwCl (sm_wX cI x0 x1 x2 x3 V S (sm_fil M (sm_by (V r) (S r)) t 4)) H := hP
    have hD : va_D _ (sm_wX cI x0 x1 x2 x3 V S (sm_fil M (sm_by (V r) (S r)) t 4)) := hD
    refine lv_iload hx hb dX0_store_9 (lv_at hl 4 rfl) ?_
    refine lv_iload_n hx hb dX0_store_11 rfl (lv_at hl 3 rfl) ?_
    refine lv_icmp_ge (tgt := 75) hx hb dX0_store_12 rfl (fun _ => ?_) (fun z => absurd (by decide) z)
    exact sm_vret hx hb hrt hlocks hS hP hD dX0_store_75
  · have hl : lv_has ls 8 [(0, .ref x0), (1, .int (nI r)), (2, .int (nI t)), (3, .int 4), (4, .int (nI k))] := hl
    have hP : va_P D vwCl (sm_wX cI x0 x1 x2 x3 V S (sm_fil M (sm_by (V r) (S r)) t k)) H := hP
    have hD : va_D _ (sm_wX cI x0 x1 x2 x3 V S (sm_fil M (sm_by (V r) (S r)) t k)) := hD
    refine lv_iload hx hb dX0_store_9 (lv_at hl 4 rfl) ?_
    refine lv_iload_n hx hb dX0_store_11 rfl (lv_at hl 3 rfl) ?_
    refine lv_icmp_ge (tgt := 75) hx hb dX0_store_12 rfl (fun z => absurd z (nI_ge (b := 4) hk (by decide))) (fun _ => ?_)
    refine lv_iload hx hb dX0_store_15 (lv_at hl 4 rfl) ?_
    refine lv_bipush (v := 8) hx hb dX0_store_17 (by decide) ?_
    refine lv_imul hx hb dX0_store_19 ?_
    refine sm_eqi (y := nI (k * 8)) (pk_mul k 8) ?_
    refine lv_istore (lv' := [(5, .int (nI (k * 8))), (0, .ref x0), (1, .int (nI r)), (2, .int (nI t)), (3, .int 4), (4, .int (nI k))]) hx hb dX0_store_20 hl (by decide) rfl (fun ls hl => ?_)
    refine lv_aload_n hx hb dX0_store_22 rfl (lv_at hl 1 rfl) ?_
    refine va_get (D := D) (ci := 0) (v := .ref x1) (C := RX0) (T := TX0) (N := 3) hx hb hts inX0 hown hK hP 0 rfl rfl 0 (by decide) (hw 18 rfl) (fun _ h9 => h9) rfl dX0_store_23 ?_
    refine lv_iload_n hx hb dX0_store_26 rfl (lv_at hl 2 rfl) ?_
    refine va_iald hx hb hK hP 1 0 rfl rfl (vp_in_nI (n := r) (by omega) (by decide)) dX0_store_27 ?_
    refine sm_eqi (y := V r) (sm_cl V (n := r) (by omega)) ?_
    refine lv_iload hx hb dX0_store_28 (lv_at hl 0 rfl) ?_
    refine lv_iushr (v := sm_ushr (V r) (nI (k * 8))) hx hb dX0_store_30 rfl ?_
    refine lv_sipush (v := 255) hx hb dX0_store_31 (by decide) ?_
    refine lv_iand hx hb dX0_store_34 ?_
    refine lv_istore (lv' := [(6, .int ((sm_ushr (V r) (nI (k * 8))) &&& 255)), (5, .int (nI (k * 8))), (0, .ref x0), (1, .int (nI r)), (2, .int (nI t)), (3, .int 4), (4, .int (nI k))]) hx hb dX0_store_35 hl (by decide) rfl (fun ls hl => ?_)
    refine lv_aload_n hx hb dX0_store_37 rfl (lv_at hl 2 rfl) ?_
    refine va_get (D := D) (ci := 0) (v := .ref x2) (C := RX0) (T := TX0) (N := 3) hx hb hts inX0 hown hK hP 0 rfl rfl 1 (by decide) (hw 19 rfl) (fun _ h9 => h9) rfl dX0_store_38 ?_
    refine lv_iload_n hx hb dX0_store_41 rfl (lv_at hl 3 rfl) ?_
    refine va_iald hx hb hK hP 2 0 rfl rfl (vp_in_nI (n := r) (by omega) (by decide)) dX0_store_42 ?_
    refine sm_eqi (y := S r) (sm_cl S (n := r) (by omega)) ?_
    refine lv_iload hx hb dX0_store_43 (lv_at hl 1 rfl) ?_
    refine lv_iushr (v := sm_ushr (S r) (nI (k * 8))) hx hb dX0_store_45 rfl ?_
    refine lv_sipush (v := 255) hx hb dX0_store_46 (by decide) ?_
    refine lv_iand hx hb dX0_store_49 ?_
    refine lv_istore (lv' := [(7, .int ((sm_ushr (S r) (nI (k * 8))) &&& 255)), (6, .int ((sm_ushr (V r) (nI (k * 8))) &&& 255)), (5, .int (nI (k * 8))), (0, .ref x0), (1, .int (nI r)), (2, .int (nI t)), (3, .int 4), (4, .int (nI k))]) hx hb dX0_store_50 hl (by decide) rfl (fun ls hl => ?_)
    refine lv_aload_n hx hb dX0_store_52 rfl (lv_at hl 3 rfl) ?_
    refine va_get (D := D) (ci := 0) (v := .ref x3) (C := RX0) (T := TX0) (N := 3) hx hb hts inX0 hown hK hP 0 rfl rfl 2 (by decide) (hw 20 rfl) (fun _ h9 => h9) rfl dX0_store_53 ?_
    refine lv_iload_n hx hb dX0_store_56 rfl (lv_at hl 5 rfl) ?_
    refine lv_iload hx hb dX0_store_57 (lv_at hl 7 rfl) ?_
    refine lv_iadd hx hb dX0_store_59 ?_
    refine sm_eqi (y := nI (t + k)) (nI_add t k) ?_
    refine lv_iload hx hb dX0_store_60 (lv_at hl 0 rfl) ?_
    refine lv_bipush (v := 8) hx hb dX0_store_62 (by decide) ?_
    refine lv_ishl hx hb dX0_store_64 ?_
    refine lv_iload hx hb dX0_store_65 (lv_at hl 1 rfl) ?_
    refine lv_ior hx hb dX0_store_67 ?_
    refine sm_iast (f' := sm_fil M (sm_by (V r) (S r)) t (k + 1)) (ws' := (sm_wX cI x0 x1 x2 x3 V S (sm_fil M (sm_by (V r) (S r)) t (k + 1)))) hx hb hK hP hD hS 3 0 rfl rfl (vp_in_nI (n := t + k) (by omega) (by decide)) dX0_store_68 (by rw [nI_clamp (by omega)]; exact sm_filS M (sm_by (V r) (S r)) t k) rfl (fun H locs hP hD hS => ?_)
    refine lv_iinc (k := 7) (v := nI (k + 1)) (lv' := [(4, .int (nI (k + 1))), (7, .int ((sm_ushr (S r) (nI (k * 8))) &&& 255)), (6, .int ((sm_ushr (V r) (nI (k * 8))) &&& 255)), (5, .int (nI (k * 8))), (0, .ref x0), (1, .int (nI r)), (2, .int (nI t)), (3, .int 4)]) hx hb dX0_store_69 hl rfl (sm_inc k) (by decide) rfl (fun ls hl => ?_)
    refine lv_goto (tgt := 9) hx hb dX0_store_72 rfl ?_
    exact ih _ _ _ (lv_sub hl [4, 5, 6, 7, 0] rfl) (sm_cP (rfl) hP) (sm_cD (rfl) hD) hS
set_option maxHeartbeats 4000000 in
set_option maxRecDepth 100000 in
theorem c_load_1_t (l : Launch) (D : va_G) (cI : ClassId) (x0 x1 x2 x3 : Nat) (V S M : Nat → Int32) (r t : Nat) (hr : r < 16) (ht : t + 1 ≤ 256) : sm_C l yX0_load wsX0_load ({ frames := 2, cells := 0, slots := 0, locals := 42 } : Room) D vwCl [(cI, .int)] [.ref x0, .int (nI r), .int (nI t), .int 1, .int (sm_bI true)] (sm_wX cI x0 x1 x2 x3 V S M) none (sm_wX cI x0 x1 x2 x3 (upd V r (((sm_lv (fun j => M (t + j) &&& 255) 1) <<< (nI 24 &&& 31)) >>> (nI 24 &&& 31))) (upd S r (((sm_lv (fun j => sm_ushr (M (t + j)) 8) 1) <<< (nI 24 &&& 31)) >>> (nI 24 &&& 31))) M) := by
  refine sm_start (cc := cX0_load) (maxL := 9) (ret := none) (lv := [(0, .ref x0), (1, .int (nI r)), (2, .int (nI t)), (3, .int 1), (4, .int (sm_bI true))]) (by decide) rfl (Nat.le_of_ble_eq_true rfl) rfl ?_
  intro p e s m below meth c hx hb hrt hts hown hlocks hml hin hK hP hD hS hA ls hl
  have hw := sm_hw hts
  refine lv_iload_n hx hb dX0_load_0 rfl (lv_at hl 1 rfl) ?_
  refine lv_iload_n hx hb dX0_load_1 rfl (lv_at hl 2 rfl) ?_
  refine lv_iload_n hx hb dX0_load_2 rfl (lv_at hl 3 rfl) ?_
  refine sm_callS (As := [.int (nI r), .int (nI t), .int 1]) (rest := []) (wr := (sm_wX cI x0 x1 x2 x3 V S M)) (wn := (sm_wX cI x0 x1 x2 x3 V S M)) (st1 := []) ⟨hx, hb, hml, hown, hts⟩ (c_checkTransfer_1 l D r t (by omega) (by omega)) (va_cwS 3 hts (sm_gS (i1 := 178) (i2 := 179) (i4 := 1) (i5 := 180) rfl rfl rfl rfl) rfl rfl rfl (by decide +kernel) ⟨Nat.le_of_ble_eq_true rfl, Nat.le_of_ble_eq_true rfl⟩) hK [] rfl hP hD hS hA [] [0, 1, 2, 3] rfl rfl (by decide) (by decide) (by decide) rfl hl.1 rfl (Nat.le_of_ble_eq_true rfl) dX0_load_3 ⟨Nat.le_of_ble_eq_true rfl, Nat.le_of_ble_eq_true rfl⟩ rfl rfl (fun H locs hP hD hS => ?_)
  refine lv_iconst (v := 0) hx hb dX0_load_6 (by decide) ?_
  refine lv_istore (lv' := [(5, .int 0), (0, .ref x0), (1, .int (nI r)), (2, .int (nI t)), (3, .int 1), (4, .int (sm_bI true))]) hx hb dX0_load_7 hl (by decide) rfl (fun ls hl => ?_)
  refine lv_iconst (v := 0) hx hb dX0_load_9 (by decide) ?_
  refine lv_istore (lv' := [(6, .int 0), (5, .int 0), (0, .ref x0), (1, .int (nI r)), (2, .int (nI t)), (3, .int 1), (4, .int (sm_bI true))]) hx hb dX0_load_10 hl (by decide) rfl (fun ls hl => ?_)
  refine lv_iconst (v := 0) hx hb dX0_load_12 (by decide) ?_
  refine lv_istore (lv' := [(7, .int 0), (6, .int 0), (5, .int 0), (0, .ref x0), (1, .int (nI r)), (2, .int (nI t)), (3, .int 1), (4, .int (sm_bI true))]) hx hb dX0_load_13 hl (by decide) rfl (fun ls hl => ?_)
  refine sm_loopW (nL := 9) (lv := fun k => [(0, .ref x0), (1, .int (nI r)), (2, .int (nI t)), (3, .int 1), (4, .int (sm_bI true)), (5, .int (sm_lv (fun j => M (t + j) &&& 255) k)), (6, .int (sm_lv (fun j => sm_ushr (M (t + j)) 8) k)), (7, .int (nI k))]) (w := fun k => (sm_wX cI x0 x1 x2 x3 V S M)) 1 (fun H locs ls hl hP hD hS => ?_) (fun k hk ih H locs ls hl hP hD hS => ?_) (lv_sub hl [3, 4, 5, 6, 7, 2, 1, 0] rfl) (sm_cP (rfl) hP) (sm_cD (rfl) hD) hS
  · have hl : lv_has ls 9 [(0, .ref x0), (1, .int (nI r)), (2, .int (nI t)), (3, .int 1), (4, .int (sm_bI true)), (5, .int (sm_lv (fun j => M (t + j) &&& 255) 1)), (6, .int (sm_lv (fun j => sm_ushr (M (t + j)) 8) 1)), (7, .int (nI 1))] := hl
    have hP : va_P D vwCl (sm_wX cI x0 x1 x2 x3 V S M) H := hP
    have hD : va_D _ (sm_wX cI x0 x1 x2 x3 V S M) := hD
    refine lv_iload hx hb dX0_load_15 (lv_at hl 7 rfl) ?_
    refine lv_iload_n hx hb dX0_load_17 rfl (lv_at hl 3 rfl) ?_
    refine lv_icmp_ge (tgt := 75) hx hb dX0_load_18 rfl (fun _ => ?_) (fun z => absurd (by decide) z)
    refine lv_aload_n hx hb dX0_load_75 rfl (lv_at hl 0 rfl) ?_
    refine va_get (D := D) (ci := 0) (v := .ref x1) (C := RX0) (T := TX0) (N := 3) hx hb hts inX0 hown hK hP 0 rfl rfl 0 (by decide) (hw 18 rfl) (fun _ h9 => h9) rfl dX0_load_76 ?_
    refine lv_iload_n hx hb dX0_load_79 rfl (lv_at hl 1 rfl) ?_
    refine lv_iload hx hb dX0_load_80 (lv_at hl 5 rfl) ?_
    refine lv_iload_n hx hb dX0_load_82 rfl (lv_at hl 3 rfl) ?_
    refine lv_iload hx hb dX0_load_83 (lv_at hl 4 rfl) ?_
    refine sm_callS (As := [.int (sm_lv (fun j => M (t + j) &&& 255) 1), .int 1, .int (sm_bI true)]) (rest := [.int (nI r), .ref x1]) (wr := (sm_wX cI x0 x1 x2 x3 V S M)) (wn := (sm_wX cI x0 x1 x2 x3 V S M)) (st1 := [.int (((sm_lv (fun j => M (t + j) &&& 255) 1) <<< (nI 24 &&& 31)) >>> (nI 24 &&& 31)), .int (nI r), .ref x1]) ⟨hx, hb, hml, hown, hts⟩ (c_widened_1_t l D (sm_lv (fun j => M (t + j) &&& 255) 1)) (va_cwS 3 hts (sm_gS (i1 := 188) (i2 := 189) (i4 := 1) (i5 := 190) rfl rfl rfl rfl) rfl rfl rfl (by decide +kernel) ⟨Nat.le_of_ble_eq_true rfl, Nat.le_of_ble_eq_true rfl⟩) hK [] rfl hP hD hS hA [] [0, 1, 2, 3] rfl rfl (by decide) (by decide) (by decide) rfl hl.1 rfl (Nat.le_of_ble_eq_true rfl) dX0_load_85 ⟨Nat.le_of_ble_eq_true rfl, Nat.le_of_ble_eq_true rfl⟩ rfl rfl (fun H locs hP hD hS => ?_)
    refine sm_iast (f' := upd V r (((sm_lv (fun j => M (t + j) &&& 255) 1) <<< (nI 24 &&& 31)) >>> (nI 24 &&& 31))) (ws' := (sm_wX cI x0 x1 x2 x3 (upd V r (((sm_lv (fun j => M (t + j) &&& 255) 1) <<< (nI 24 &&& 31)) >>> (nI 24 &&& 31))) S M)) hx hb hK hP hD hS 1 0 rfl rfl (vp_in_nI (n := r) (by omega) (by decide)) dX0_load_88 (by rw [nI_clamp (by omega)]) rfl (fun H locs hP hD hS => ?_)
    refine lv_aload_n hx hb dX0_load_89 rfl (lv_at hl 0 rfl) ?_
    refine va_get (D := D) (ci := 0) (v := .ref x2) (C := RX0) (T := TX0) (N := 3) hx hb hts inX0 hown hK hP 0 rfl rfl 1 (by decide) (hw 19 rfl) (fun _ h9 => h9) rfl dX0_load_90 ?_
    refine lv_iload_n hx hb dX0_load_93 rfl (lv_at hl 1 rfl) ?_
    refine lv_iload hx hb dX0_load_94 (lv_at hl 6 rfl) ?_
    refine lv_iload_n hx hb dX0_load_96 rfl (lv_at hl 3 rfl) ?_
    refine lv_iload hx hb dX0_load_97 (lv_at hl 4 rfl) ?_
    refine sm_callS (As := [.int (sm_lv (fun j => sm_ushr (M (t + j)) 8) 1), .int 1, .int (sm_bI true)]) (rest := [.int (nI r), .ref x2]) (wr := (sm_wX cI x0 x1 x2 x3 (upd V r (((sm_lv (fun j => M (t + j) &&& 255) 1) <<< (nI 24 &&& 31)) >>> (nI 24 &&& 31))) S M)) (wn := (sm_wX cI x0 x1 x2 x3 (upd V r (((sm_lv (fun j => M (t + j) &&& 255) 1) <<< (nI 24 &&& 31)) >>> (nI 24 &&& 31))) S M)) (st1 := [.int (((sm_lv (fun j => sm_ushr (M (t + j)) 8) 1) <<< (nI 24 &&& 31)) >>> (nI 24 &&& 31)), .int (nI r), .ref x2]) ⟨hx, hb, hml, hown, hts⟩ (c_widened_1_t l D (sm_lv (fun j => sm_ushr (M (t + j)) 8) 1)) (va_cwS 3 hts (sm_gS (i1 := 188) (i2 := 189) (i4 := 1) (i5 := 190) rfl rfl rfl rfl) rfl rfl rfl (by decide +kernel) ⟨Nat.le_of_ble_eq_true rfl, Nat.le_of_ble_eq_true rfl⟩) hK [] rfl hP hD hS hA [] [0, 1, 2, 3] rfl rfl (by decide) (by decide) (by decide) rfl hl.1 rfl (Nat.le_of_ble_eq_true rfl) dX0_load_99 ⟨Nat.le_of_ble_eq_true rfl, Nat.le_of_ble_eq_true rfl⟩ rfl rfl (fun H locs hP hD hS => ?_)
    refine sm_iast (f' := upd S r (((sm_lv (fun j => sm_ushr (M (t + j)) 8) 1) <<< (nI 24 &&& 31)) >>> (nI 24 &&& 31))) (ws' := (sm_wX cI x0 x1 x2 x3 (upd V r (((sm_lv (fun j => M (t + j) &&& 255) 1) <<< (nI 24 &&& 31)) >>> (nI 24 &&& 31))) (upd S r (((sm_lv (fun j => sm_ushr (M (t + j)) 8) 1) <<< (nI 24 &&& 31)) >>> (nI 24 &&& 31))) M)) hx hb hK hP hD hS 2 0 rfl rfl (vp_in_nI (n := r) (by omega) (by decide)) dX0_load_102 (by rw [nI_clamp (by omega)]) rfl (fun H locs hP hD hS => ?_)
    exact sm_vret hx hb hrt hlocks hS hP hD dX0_load_103
  · have hl : lv_has ls 9 [(0, .ref x0), (1, .int (nI r)), (2, .int (nI t)), (3, .int 1), (4, .int (sm_bI true)), (5, .int (sm_lv (fun j => M (t + j) &&& 255) k)), (6, .int (sm_lv (fun j => sm_ushr (M (t + j)) 8) k)), (7, .int (nI k))] := hl
    have hP : va_P D vwCl (sm_wX cI x0 x1 x2 x3 V S M) H := hP
    have hD : va_D _ (sm_wX cI x0 x1 x2 x3 V S M) := hD
    refine lv_iload hx hb dX0_load_15 (lv_at hl 7 rfl) ?_
    refine lv_iload_n hx hb dX0_load_17 rfl (lv_at hl 3 rfl) ?_
    refine lv_icmp_ge (tgt := 75) hx hb dX0_load_18 rfl (fun z => absurd z (nI_ge (b := 1) hk (by decide))) (fun _ => ?_)
    refine lv_iload hx hb dX0_load_21 (lv_at hl 7 rfl) ?_
    refine lv_bipush (v := 8) hx hb dX0_load_23 (by decide) ?_
    refine lv_imul hx hb dX0_load_25 ?_
    refine sm_eqi (y := nI (k * 8)) (pk_mul k 8) ?_
    refine lv_istore (lv' := [(8, .int (nI (k * 8))), (0, .ref x0), (1, .int (nI r)), (2, .int (nI t)), (3, .int 1), (4, .int (sm_bI true)), (5, .int (sm_lv (fun j => M (t + j) &&& 255) k)), (6, .int (sm_lv (fun j => sm_ushr (M (t + j)) 8) k)), (7, .int (nI k))]) hx hb dX0_load_26 hl (by decide) rfl (fun ls hl => ?_)
    refine lv_iload hx hb dX0_load_28 (lv_at hl 6 rfl) ?_
    refine lv_aload_n hx hb dX0_load_30 rfl (lv_at hl 1 rfl) ?_
    refine va_get (D := D) (ci := 0) (v := .ref x3) (C := RX0) (T := TX0) (N := 3) hx hb hts inX0 hown hK hP 0 rfl rfl 2 (by decide) (hw 20 rfl) (fun _ h9 => h9) rfl dX0_load_31 ?_
    refine lv_iload_n hx hb dX0_load_34 rfl (lv_at hl 3 rfl) ?_
    refine lv_iload hx hb dX0_load_35 (lv_at hl 8 rfl) ?_
    refine lv_iadd hx hb dX0_load_37 ?_
    refine sm_eqi (y := nI (t + k)) (nI_add t k) ?_
    refine va_iald hx hb hK hP 3 0 rfl rfl (vp_in_nI (n := t + k) (by omega) (by decide)) dX0_load_38 ?_
    refine sm_eqi (y := M (t + k)) (sm_cl M (n := t + k) (by omega)) ?_
    refine lv_sipush (v := 255) hx hb dX0_load_39 (by decide) ?_
    refine lv_iand hx hb dX0_load_42 ?_
    refine lv_iload hx hb dX0_load_43 (lv_at hl 0 rfl) ?_
    refine lv_ishl hx hb dX0_load_45 ?_
    refine lv_ior hx hb dX0_load_46 ?_
    refine sm_eqi (y := sm_lv (fun j => M (t + j) &&& 255) (k + 1)) (rfl) ?_
    refine lv_istore (lv' := [(5, .int (sm_lv (fun j => M (t + j) &&& 255) (k + 1))), (8, .int (nI (k * 8))), (0, .ref x0), (1, .int (nI r)), (2, .int (nI t)), (3, .int 1), (4, .int (sm_bI true)), (6, .int (sm_lv (fun j => sm_ushr (M (t + j)) 8) k)), (7, .int (nI k))]) hx hb dX0_load_47 hl (by decide) rfl (fun ls hl => ?_)
    refine lv_iload hx hb dX0_load_49 (lv_at hl 7 rfl) ?_
    refine lv_aload_n hx hb dX0_load_51 rfl (lv_at hl 2 rfl) ?_
    refine va_get (D := D) (ci := 0) (v := .ref x3) (C := RX0) (T := TX0) (N := 3) hx hb hts inX0 hown hK hP 0 rfl rfl 2 (by decide) (hw 20 rfl) (fun _ h9 => h9) rfl dX0_load_52 ?_
    refine lv_iload_n hx hb dX0_load_55 rfl (lv_at hl 4 rfl) ?_
    refine lv_iload hx hb dX0_load_56 (lv_at hl 8 rfl) ?_
    refine lv_iadd hx hb dX0_load_58 ?_
    refine sm_eqi (y := nI (t + k)) (nI_add t k) ?_
    refine va_iald hx hb hK hP 3 0 rfl rfl (vp_in_nI (n := t + k) (by omega) (by decide)) dX0_load_59 ?_
    refine sm_eqi (y := M (t + k)) (sm_cl M (n := t + k) (by omega)) ?_
    refine lv_bipush (v := 8) hx hb dX0_load_60 (by decide) ?_
    refine lv_iushr (v := sm_ushr (M (t + k)) 8) hx hb dX0_load_62 rfl ?_
    refine lv_iload hx hb dX0_load_63 (lv_at hl 1 rfl) ?_
    refine lv_ishl hx hb dX0_load_65 ?_
    refine lv_ior hx hb dX0_load_66 ?_
    refine sm_eqi (y := sm_lv (fun j => sm_ushr (M (t + j)) 8) (k + 1)) (rfl) ?_
    refine lv_istore (lv' := [(6, .int (sm_lv (fun j => sm_ushr (M (t + j)) 8) (k + 1))), (5, .int (sm_lv (fun j => M (t + j) &&& 255) (k + 1))), (8, .int (nI (k * 8))), (0, .ref x0), (1, .int (nI r)), (2, .int (nI t)), (3, .int 1), (4, .int (sm_bI true)), (7, .int (nI k))]) hx hb dX0_load_67 hl (by decide) rfl (fun ls hl => ?_)
    refine lv_iinc (k := 8) (v := nI (k + 1)) (lv' := [(7, .int (nI (k + 1))), (6, .int (sm_lv (fun j => sm_ushr (M (t + j)) 8) (k + 1))), (5, .int (sm_lv (fun j => M (t + j) &&& 255) (k + 1))), (8, .int (nI (k * 8))), (0, .ref x0), (1, .int (nI r)), (2, .int (nI t)), (3, .int 1), (4, .int (sm_bI true))]) hx hb dX0_load_69 hl rfl (sm_inc k) (by decide) rfl (fun ls hl => ?_)
    refine lv_goto (tgt := 15) hx hb dX0_load_72 rfl ?_
    exact ih _ _ _ (lv_sub hl [4, 5, 6, 7, 8, 2, 1, 0] rfl) (sm_cP (rfl) hP) (sm_cD (rfl) hD) hS
set_option maxHeartbeats 4000000 in
set_option maxRecDepth 100000 in
theorem c_load_1_f (l : Launch) (D : va_G) (cI : ClassId) (x0 x1 x2 x3 : Nat) (V S M : Nat → Int32) (r t : Nat) (hr : r < 16) (ht : t + 1 ≤ 256) : sm_C l yX0_load wsX0_load ({ frames := 2, cells := 0, slots := 0, locals := 42 } : Room) D vwCl [(cI, .int)] [.ref x0, .int (nI r), .int (nI t), .int 1, .int (sm_bI false)] (sm_wX cI x0 x1 x2 x3 V S M) none (sm_wX cI x0 x1 x2 x3 (upd V r (sm_ushr ((sm_lv (fun j => M (t + j) &&& 255) 1) <<< (nI 24 &&& 31)) (nI 24))) (upd S r (sm_ushr ((sm_lv (fun j => sm_ushr (M (t + j)) 8) 1) <<< (nI 24 &&& 31)) (nI 24))) M) := by
  refine sm_start (cc := cX0_load) (maxL := 9) (ret := none) (lv := [(0, .ref x0), (1, .int (nI r)), (2, .int (nI t)), (3, .int 1), (4, .int (sm_bI false))]) (by decide) rfl (Nat.le_of_ble_eq_true rfl) rfl ?_
  intro p e s m below meth c hx hb hrt hts hown hlocks hml hin hK hP hD hS hA ls hl
  have hw := sm_hw hts
  refine lv_iload_n hx hb dX0_load_0 rfl (lv_at hl 1 rfl) ?_
  refine lv_iload_n hx hb dX0_load_1 rfl (lv_at hl 2 rfl) ?_
  refine lv_iload_n hx hb dX0_load_2 rfl (lv_at hl 3 rfl) ?_
  refine sm_callS (As := [.int (nI r), .int (nI t), .int 1]) (rest := []) (wr := (sm_wX cI x0 x1 x2 x3 V S M)) (wn := (sm_wX cI x0 x1 x2 x3 V S M)) (st1 := []) ⟨hx, hb, hml, hown, hts⟩ (c_checkTransfer_1 l D r t (by omega) (by omega)) (va_cwS 3 hts (sm_gS (i1 := 178) (i2 := 179) (i4 := 1) (i5 := 180) rfl rfl rfl rfl) rfl rfl rfl (by decide +kernel) ⟨Nat.le_of_ble_eq_true rfl, Nat.le_of_ble_eq_true rfl⟩) hK [] rfl hP hD hS hA [] [0, 1, 2, 3] rfl rfl (by decide) (by decide) (by decide) rfl hl.1 rfl (Nat.le_of_ble_eq_true rfl) dX0_load_3 ⟨Nat.le_of_ble_eq_true rfl, Nat.le_of_ble_eq_true rfl⟩ rfl rfl (fun H locs hP hD hS => ?_)
  refine lv_iconst (v := 0) hx hb dX0_load_6 (by decide) ?_
  refine lv_istore (lv' := [(5, .int 0), (0, .ref x0), (1, .int (nI r)), (2, .int (nI t)), (3, .int 1), (4, .int (sm_bI false))]) hx hb dX0_load_7 hl (by decide) rfl (fun ls hl => ?_)
  refine lv_iconst (v := 0) hx hb dX0_load_9 (by decide) ?_
  refine lv_istore (lv' := [(6, .int 0), (5, .int 0), (0, .ref x0), (1, .int (nI r)), (2, .int (nI t)), (3, .int 1), (4, .int (sm_bI false))]) hx hb dX0_load_10 hl (by decide) rfl (fun ls hl => ?_)
  refine lv_iconst (v := 0) hx hb dX0_load_12 (by decide) ?_
  refine lv_istore (lv' := [(7, .int 0), (6, .int 0), (5, .int 0), (0, .ref x0), (1, .int (nI r)), (2, .int (nI t)), (3, .int 1), (4, .int (sm_bI false))]) hx hb dX0_load_13 hl (by decide) rfl (fun ls hl => ?_)
  refine sm_loopW (nL := 9) (lv := fun k => [(0, .ref x0), (1, .int (nI r)), (2, .int (nI t)), (3, .int 1), (4, .int (sm_bI false)), (5, .int (sm_lv (fun j => M (t + j) &&& 255) k)), (6, .int (sm_lv (fun j => sm_ushr (M (t + j)) 8) k)), (7, .int (nI k))]) (w := fun k => (sm_wX cI x0 x1 x2 x3 V S M)) 1 (fun H locs ls hl hP hD hS => ?_) (fun k hk ih H locs ls hl hP hD hS => ?_) (lv_sub hl [3, 4, 5, 6, 7, 2, 1, 0] rfl) (sm_cP (rfl) hP) (sm_cD (rfl) hD) hS
  · have hl : lv_has ls 9 [(0, .ref x0), (1, .int (nI r)), (2, .int (nI t)), (3, .int 1), (4, .int (sm_bI false)), (5, .int (sm_lv (fun j => M (t + j) &&& 255) 1)), (6, .int (sm_lv (fun j => sm_ushr (M (t + j)) 8) 1)), (7, .int (nI 1))] := hl
    have hP : va_P D vwCl (sm_wX cI x0 x1 x2 x3 V S M) H := hP
    have hD : va_D _ (sm_wX cI x0 x1 x2 x3 V S M) := hD
    refine lv_iload hx hb dX0_load_15 (lv_at hl 7 rfl) ?_
    refine lv_iload_n hx hb dX0_load_17 rfl (lv_at hl 3 rfl) ?_
    refine lv_icmp_ge (tgt := 75) hx hb dX0_load_18 rfl (fun _ => ?_) (fun z => absurd (by decide) z)
    refine lv_aload_n hx hb dX0_load_75 rfl (lv_at hl 0 rfl) ?_
    refine va_get (D := D) (ci := 0) (v := .ref x1) (C := RX0) (T := TX0) (N := 3) hx hb hts inX0 hown hK hP 0 rfl rfl 0 (by decide) (hw 18 rfl) (fun _ h9 => h9) rfl dX0_load_76 ?_
    refine lv_iload_n hx hb dX0_load_79 rfl (lv_at hl 1 rfl) ?_
    refine lv_iload hx hb dX0_load_80 (lv_at hl 5 rfl) ?_
    refine lv_iload_n hx hb dX0_load_82 rfl (lv_at hl 3 rfl) ?_
    refine lv_iload hx hb dX0_load_83 (lv_at hl 4 rfl) ?_
    refine sm_callS (As := [.int (sm_lv (fun j => M (t + j) &&& 255) 1), .int 1, .int (sm_bI false)]) (rest := [.int (nI r), .ref x1]) (wr := (sm_wX cI x0 x1 x2 x3 V S M)) (wn := (sm_wX cI x0 x1 x2 x3 V S M)) (st1 := [.int (sm_ushr ((sm_lv (fun j => M (t + j) &&& 255) 1) <<< (nI 24 &&& 31)) (nI 24)), .int (nI r), .ref x1]) ⟨hx, hb, hml, hown, hts⟩ (c_widened_1_f l D (sm_lv (fun j => M (t + j) &&& 255) 1)) (va_cwS 3 hts (sm_gS (i1 := 188) (i2 := 189) (i4 := 1) (i5 := 190) rfl rfl rfl rfl) rfl rfl rfl (by decide +kernel) ⟨Nat.le_of_ble_eq_true rfl, Nat.le_of_ble_eq_true rfl⟩) hK [] rfl hP hD hS hA [] [0, 1, 2, 3] rfl rfl (by decide) (by decide) (by decide) rfl hl.1 rfl (Nat.le_of_ble_eq_true rfl) dX0_load_85 ⟨Nat.le_of_ble_eq_true rfl, Nat.le_of_ble_eq_true rfl⟩ rfl rfl (fun H locs hP hD hS => ?_)
    refine sm_iast (f' := upd V r (sm_ushr ((sm_lv (fun j => M (t + j) &&& 255) 1) <<< (nI 24 &&& 31)) (nI 24))) (ws' := (sm_wX cI x0 x1 x2 x3 (upd V r (sm_ushr ((sm_lv (fun j => M (t + j) &&& 255) 1) <<< (nI 24 &&& 31)) (nI 24))) S M)) hx hb hK hP hD hS 1 0 rfl rfl (vp_in_nI (n := r) (by omega) (by decide)) dX0_load_88 (by rw [nI_clamp (by omega)]) rfl (fun H locs hP hD hS => ?_)
    refine lv_aload_n hx hb dX0_load_89 rfl (lv_at hl 0 rfl) ?_
    refine va_get (D := D) (ci := 0) (v := .ref x2) (C := RX0) (T := TX0) (N := 3) hx hb hts inX0 hown hK hP 0 rfl rfl 1 (by decide) (hw 19 rfl) (fun _ h9 => h9) rfl dX0_load_90 ?_
    refine lv_iload_n hx hb dX0_load_93 rfl (lv_at hl 1 rfl) ?_
    refine lv_iload hx hb dX0_load_94 (lv_at hl 6 rfl) ?_
    refine lv_iload_n hx hb dX0_load_96 rfl (lv_at hl 3 rfl) ?_
    refine lv_iload hx hb dX0_load_97 (lv_at hl 4 rfl) ?_
    refine sm_callS (As := [.int (sm_lv (fun j => sm_ushr (M (t + j)) 8) 1), .int 1, .int (sm_bI false)]) (rest := [.int (nI r), .ref x2]) (wr := (sm_wX cI x0 x1 x2 x3 (upd V r (sm_ushr ((sm_lv (fun j => M (t + j) &&& 255) 1) <<< (nI 24 &&& 31)) (nI 24))) S M)) (wn := (sm_wX cI x0 x1 x2 x3 (upd V r (sm_ushr ((sm_lv (fun j => M (t + j) &&& 255) 1) <<< (nI 24 &&& 31)) (nI 24))) S M)) (st1 := [.int (sm_ushr ((sm_lv (fun j => sm_ushr (M (t + j)) 8) 1) <<< (nI 24 &&& 31)) (nI 24)), .int (nI r), .ref x2]) ⟨hx, hb, hml, hown, hts⟩ (c_widened_1_f l D (sm_lv (fun j => sm_ushr (M (t + j)) 8) 1)) (va_cwS 3 hts (sm_gS (i1 := 188) (i2 := 189) (i4 := 1) (i5 := 190) rfl rfl rfl rfl) rfl rfl rfl (by decide +kernel) ⟨Nat.le_of_ble_eq_true rfl, Nat.le_of_ble_eq_true rfl⟩) hK [] rfl hP hD hS hA [] [0, 1, 2, 3] rfl rfl (by decide) (by decide) (by decide) rfl hl.1 rfl (Nat.le_of_ble_eq_true rfl) dX0_load_99 ⟨Nat.le_of_ble_eq_true rfl, Nat.le_of_ble_eq_true rfl⟩ rfl rfl (fun H locs hP hD hS => ?_)
    refine sm_iast (f' := upd S r (sm_ushr ((sm_lv (fun j => sm_ushr (M (t + j)) 8) 1) <<< (nI 24 &&& 31)) (nI 24))) (ws' := (sm_wX cI x0 x1 x2 x3 (upd V r (sm_ushr ((sm_lv (fun j => M (t + j) &&& 255) 1) <<< (nI 24 &&& 31)) (nI 24))) (upd S r (sm_ushr ((sm_lv (fun j => sm_ushr (M (t + j)) 8) 1) <<< (nI 24 &&& 31)) (nI 24))) M)) hx hb hK hP hD hS 2 0 rfl rfl (vp_in_nI (n := r) (by omega) (by decide)) dX0_load_102 (by rw [nI_clamp (by omega)]) rfl (fun H locs hP hD hS => ?_)
    exact sm_vret hx hb hrt hlocks hS hP hD dX0_load_103
  · have hl : lv_has ls 9 [(0, .ref x0), (1, .int (nI r)), (2, .int (nI t)), (3, .int 1), (4, .int (sm_bI false)), (5, .int (sm_lv (fun j => M (t + j) &&& 255) k)), (6, .int (sm_lv (fun j => sm_ushr (M (t + j)) 8) k)), (7, .int (nI k))] := hl
    have hP : va_P D vwCl (sm_wX cI x0 x1 x2 x3 V S M) H := hP
    have hD : va_D _ (sm_wX cI x0 x1 x2 x3 V S M) := hD
    refine lv_iload hx hb dX0_load_15 (lv_at hl 7 rfl) ?_
    refine lv_iload_n hx hb dX0_load_17 rfl (lv_at hl 3 rfl) ?_
    refine lv_icmp_ge (tgt := 75) hx hb dX0_load_18 rfl (fun z => absurd z (nI_ge (b := 1) hk (by decide))) (fun _ => ?_)
    refine lv_iload hx hb dX0_load_21 (lv_at hl 7 rfl) ?_
    refine lv_bipush (v := 8) hx hb dX0_load_23 (by decide) ?_
    refine lv_imul hx hb dX0_load_25 ?_
    refine sm_eqi (y := nI (k * 8)) (pk_mul k 8) ?_
    refine lv_istore (lv' := [(8, .int (nI (k * 8))), (0, .ref x0), (1, .int (nI r)), (2, .int (nI t)), (3, .int 1), (4, .int (sm_bI false)), (5, .int (sm_lv (fun j => M (t + j) &&& 255) k)), (6, .int (sm_lv (fun j => sm_ushr (M (t + j)) 8) k)), (7, .int (nI k))]) hx hb dX0_load_26 hl (by decide) rfl (fun ls hl => ?_)
    refine lv_iload hx hb dX0_load_28 (lv_at hl 6 rfl) ?_
    refine lv_aload_n hx hb dX0_load_30 rfl (lv_at hl 1 rfl) ?_
    refine va_get (D := D) (ci := 0) (v := .ref x3) (C := RX0) (T := TX0) (N := 3) hx hb hts inX0 hown hK hP 0 rfl rfl 2 (by decide) (hw 20 rfl) (fun _ h9 => h9) rfl dX0_load_31 ?_
    refine lv_iload_n hx hb dX0_load_34 rfl (lv_at hl 3 rfl) ?_
    refine lv_iload hx hb dX0_load_35 (lv_at hl 8 rfl) ?_
    refine lv_iadd hx hb dX0_load_37 ?_
    refine sm_eqi (y := nI (t + k)) (nI_add t k) ?_
    refine va_iald hx hb hK hP 3 0 rfl rfl (vp_in_nI (n := t + k) (by omega) (by decide)) dX0_load_38 ?_
    refine sm_eqi (y := M (t + k)) (sm_cl M (n := t + k) (by omega)) ?_
    refine lv_sipush (v := 255) hx hb dX0_load_39 (by decide) ?_
    refine lv_iand hx hb dX0_load_42 ?_
    refine lv_iload hx hb dX0_load_43 (lv_at hl 0 rfl) ?_
    refine lv_ishl hx hb dX0_load_45 ?_
    refine lv_ior hx hb dX0_load_46 ?_
    refine sm_eqi (y := sm_lv (fun j => M (t + j) &&& 255) (k + 1)) (rfl) ?_
    refine lv_istore (lv' := [(5, .int (sm_lv (fun j => M (t + j) &&& 255) (k + 1))), (8, .int (nI (k * 8))), (0, .ref x0), (1, .int (nI r)), (2, .int (nI t)), (3, .int 1), (4, .int (sm_bI false)), (6, .int (sm_lv (fun j => sm_ushr (M (t + j)) 8) k)), (7, .int (nI k))]) hx hb dX0_load_47 hl (by decide) rfl (fun ls hl => ?_)
    refine lv_iload hx hb dX0_load_49 (lv_at hl 7 rfl) ?_
    refine lv_aload_n hx hb dX0_load_51 rfl (lv_at hl 2 rfl) ?_
    refine va_get (D := D) (ci := 0) (v := .ref x3) (C := RX0) (T := TX0) (N := 3) hx hb hts inX0 hown hK hP 0 rfl rfl 2 (by decide) (hw 20 rfl) (fun _ h9 => h9) rfl dX0_load_52 ?_
    refine lv_iload_n hx hb dX0_load_55 rfl (lv_at hl 4 rfl) ?_
    refine lv_iload hx hb dX0_load_56 (lv_at hl 8 rfl) ?_
    refine lv_iadd hx hb dX0_load_58 ?_
    refine sm_eqi (y := nI (t + k)) (nI_add t k) ?_
    refine va_iald hx hb hK hP 3 0 rfl rfl (vp_in_nI (n := t + k) (by omega) (by decide)) dX0_load_59 ?_
    refine sm_eqi (y := M (t + k)) (sm_cl M (n := t + k) (by omega)) ?_
    refine lv_bipush (v := 8) hx hb dX0_load_60 (by decide) ?_
    refine lv_iushr (v := sm_ushr (M (t + k)) 8) hx hb dX0_load_62 rfl ?_
    refine lv_iload hx hb dX0_load_63 (lv_at hl 1 rfl) ?_
    refine lv_ishl hx hb dX0_load_65 ?_
    refine lv_ior hx hb dX0_load_66 ?_
    refine sm_eqi (y := sm_lv (fun j => sm_ushr (M (t + j)) 8) (k + 1)) (rfl) ?_
    refine lv_istore (lv' := [(6, .int (sm_lv (fun j => sm_ushr (M (t + j)) 8) (k + 1))), (5, .int (sm_lv (fun j => M (t + j) &&& 255) (k + 1))), (8, .int (nI (k * 8))), (0, .ref x0), (1, .int (nI r)), (2, .int (nI t)), (3, .int 1), (4, .int (sm_bI false)), (7, .int (nI k))]) hx hb dX0_load_67 hl (by decide) rfl (fun ls hl => ?_)
    refine lv_iinc (k := 8) (v := nI (k + 1)) (lv' := [(7, .int (nI (k + 1))), (6, .int (sm_lv (fun j => sm_ushr (M (t + j)) 8) (k + 1))), (5, .int (sm_lv (fun j => M (t + j) &&& 255) (k + 1))), (8, .int (nI (k * 8))), (0, .ref x0), (1, .int (nI r)), (2, .int (nI t)), (3, .int 1), (4, .int (sm_bI false))]) hx hb dX0_load_69 hl rfl (sm_inc k) (by decide) rfl (fun ls hl => ?_)
    refine lv_goto (tgt := 15) hx hb dX0_load_72 rfl ?_
    exact ih _ _ _ (lv_sub hl [4, 5, 6, 7, 8, 2, 1, 0] rfl) (sm_cP (rfl) hP) (sm_cD (rfl) hD) hS
set_option maxHeartbeats 4000000 in
set_option maxRecDepth 100000 in
theorem c_load_2_t (l : Launch) (D : va_G) (cI : ClassId) (x0 x1 x2 x3 : Nat) (V S M : Nat → Int32) (r t : Nat) (hr : r < 16) (ht : t + 2 ≤ 256) : sm_C l yX0_load wsX0_load ({ frames := 2, cells := 0, slots := 0, locals := 42 } : Room) D vwCl [(cI, .int)] [.ref x0, .int (nI r), .int (nI t), .int 2, .int (sm_bI true)] (sm_wX cI x0 x1 x2 x3 V S M) none (sm_wX cI x0 x1 x2 x3 (upd V r (((sm_lv (fun j => M (t + j) &&& 255) 2) <<< (nI 16 &&& 31)) >>> (nI 16 &&& 31))) (upd S r (((sm_lv (fun j => sm_ushr (M (t + j)) 8) 2) <<< (nI 16 &&& 31)) >>> (nI 16 &&& 31))) M) := by
  refine sm_start (cc := cX0_load) (maxL := 9) (ret := none) (lv := [(0, .ref x0), (1, .int (nI r)), (2, .int (nI t)), (3, .int 2), (4, .int (sm_bI true))]) (by decide) rfl (Nat.le_of_ble_eq_true rfl) rfl ?_
  intro p e s m below meth c hx hb hrt hts hown hlocks hml hin hK hP hD hS hA ls hl
  have hw := sm_hw hts
  refine lv_iload_n hx hb dX0_load_0 rfl (lv_at hl 1 rfl) ?_
  refine lv_iload_n hx hb dX0_load_1 rfl (lv_at hl 2 rfl) ?_
  refine lv_iload_n hx hb dX0_load_2 rfl (lv_at hl 3 rfl) ?_
  refine sm_callS (As := [.int (nI r), .int (nI t), .int 2]) (rest := []) (wr := (sm_wX cI x0 x1 x2 x3 V S M)) (wn := (sm_wX cI x0 x1 x2 x3 V S M)) (st1 := []) ⟨hx, hb, hml, hown, hts⟩ (c_checkTransfer_2 l D r t (by omega) (by omega)) (va_cwS 3 hts (sm_gS (i1 := 178) (i2 := 179) (i4 := 1) (i5 := 180) rfl rfl rfl rfl) rfl rfl rfl (by decide +kernel) ⟨Nat.le_of_ble_eq_true rfl, Nat.le_of_ble_eq_true rfl⟩) hK [] rfl hP hD hS hA [] [0, 1, 2, 3] rfl rfl (by decide) (by decide) (by decide) rfl hl.1 rfl (Nat.le_of_ble_eq_true rfl) dX0_load_3 ⟨Nat.le_of_ble_eq_true rfl, Nat.le_of_ble_eq_true rfl⟩ rfl rfl (fun H locs hP hD hS => ?_)
  refine lv_iconst (v := 0) hx hb dX0_load_6 (by decide) ?_
  refine lv_istore (lv' := [(5, .int 0), (0, .ref x0), (1, .int (nI r)), (2, .int (nI t)), (3, .int 2), (4, .int (sm_bI true))]) hx hb dX0_load_7 hl (by decide) rfl (fun ls hl => ?_)
  refine lv_iconst (v := 0) hx hb dX0_load_9 (by decide) ?_
  refine lv_istore (lv' := [(6, .int 0), (5, .int 0), (0, .ref x0), (1, .int (nI r)), (2, .int (nI t)), (3, .int 2), (4, .int (sm_bI true))]) hx hb dX0_load_10 hl (by decide) rfl (fun ls hl => ?_)
  refine lv_iconst (v := 0) hx hb dX0_load_12 (by decide) ?_
  refine lv_istore (lv' := [(7, .int 0), (6, .int 0), (5, .int 0), (0, .ref x0), (1, .int (nI r)), (2, .int (nI t)), (3, .int 2), (4, .int (sm_bI true))]) hx hb dX0_load_13 hl (by decide) rfl (fun ls hl => ?_)
  refine sm_loopW (nL := 9) (lv := fun k => [(0, .ref x0), (1, .int (nI r)), (2, .int (nI t)), (3, .int 2), (4, .int (sm_bI true)), (5, .int (sm_lv (fun j => M (t + j) &&& 255) k)), (6, .int (sm_lv (fun j => sm_ushr (M (t + j)) 8) k)), (7, .int (nI k))]) (w := fun k => (sm_wX cI x0 x1 x2 x3 V S M)) 2 (fun H locs ls hl hP hD hS => ?_) (fun k hk ih H locs ls hl hP hD hS => ?_) (lv_sub hl [3, 4, 5, 6, 7, 2, 1, 0] rfl) (sm_cP (rfl) hP) (sm_cD (rfl) hD) hS
  · have hl : lv_has ls 9 [(0, .ref x0), (1, .int (nI r)), (2, .int (nI t)), (3, .int 2), (4, .int (sm_bI true)), (5, .int (sm_lv (fun j => M (t + j) &&& 255) 2)), (6, .int (sm_lv (fun j => sm_ushr (M (t + j)) 8) 2)), (7, .int (nI 2))] := hl
    have hP : va_P D vwCl (sm_wX cI x0 x1 x2 x3 V S M) H := hP
    have hD : va_D _ (sm_wX cI x0 x1 x2 x3 V S M) := hD
    refine lv_iload hx hb dX0_load_15 (lv_at hl 7 rfl) ?_
    refine lv_iload_n hx hb dX0_load_17 rfl (lv_at hl 3 rfl) ?_
    refine lv_icmp_ge (tgt := 75) hx hb dX0_load_18 rfl (fun _ => ?_) (fun z => absurd (by decide) z)
    refine lv_aload_n hx hb dX0_load_75 rfl (lv_at hl 0 rfl) ?_
    refine va_get (D := D) (ci := 0) (v := .ref x1) (C := RX0) (T := TX0) (N := 3) hx hb hts inX0 hown hK hP 0 rfl rfl 0 (by decide) (hw 18 rfl) (fun _ h9 => h9) rfl dX0_load_76 ?_
    refine lv_iload_n hx hb dX0_load_79 rfl (lv_at hl 1 rfl) ?_
    refine lv_iload hx hb dX0_load_80 (lv_at hl 5 rfl) ?_
    refine lv_iload_n hx hb dX0_load_82 rfl (lv_at hl 3 rfl) ?_
    refine lv_iload hx hb dX0_load_83 (lv_at hl 4 rfl) ?_
    refine sm_callS (As := [.int (sm_lv (fun j => M (t + j) &&& 255) 2), .int 2, .int (sm_bI true)]) (rest := [.int (nI r), .ref x1]) (wr := (sm_wX cI x0 x1 x2 x3 V S M)) (wn := (sm_wX cI x0 x1 x2 x3 V S M)) (st1 := [.int (((sm_lv (fun j => M (t + j) &&& 255) 2) <<< (nI 16 &&& 31)) >>> (nI 16 &&& 31)), .int (nI r), .ref x1]) ⟨hx, hb, hml, hown, hts⟩ (c_widened_2_t l D (sm_lv (fun j => M (t + j) &&& 255) 2)) (va_cwS 3 hts (sm_gS (i1 := 188) (i2 := 189) (i4 := 1) (i5 := 190) rfl rfl rfl rfl) rfl rfl rfl (by decide +kernel) ⟨Nat.le_of_ble_eq_true rfl, Nat.le_of_ble_eq_true rfl⟩) hK [] rfl hP hD hS hA [] [0, 1, 2, 3] rfl rfl (by decide) (by decide) (by decide) rfl hl.1 rfl (Nat.le_of_ble_eq_true rfl) dX0_load_85 ⟨Nat.le_of_ble_eq_true rfl, Nat.le_of_ble_eq_true rfl⟩ rfl rfl (fun H locs hP hD hS => ?_)
    refine sm_iast (f' := upd V r (((sm_lv (fun j => M (t + j) &&& 255) 2) <<< (nI 16 &&& 31)) >>> (nI 16 &&& 31))) (ws' := (sm_wX cI x0 x1 x2 x3 (upd V r (((sm_lv (fun j => M (t + j) &&& 255) 2) <<< (nI 16 &&& 31)) >>> (nI 16 &&& 31))) S M)) hx hb hK hP hD hS 1 0 rfl rfl (vp_in_nI (n := r) (by omega) (by decide)) dX0_load_88 (by rw [nI_clamp (by omega)]) rfl (fun H locs hP hD hS => ?_)
    refine lv_aload_n hx hb dX0_load_89 rfl (lv_at hl 0 rfl) ?_
    refine va_get (D := D) (ci := 0) (v := .ref x2) (C := RX0) (T := TX0) (N := 3) hx hb hts inX0 hown hK hP 0 rfl rfl 1 (by decide) (hw 19 rfl) (fun _ h9 => h9) rfl dX0_load_90 ?_
    refine lv_iload_n hx hb dX0_load_93 rfl (lv_at hl 1 rfl) ?_
    refine lv_iload hx hb dX0_load_94 (lv_at hl 6 rfl) ?_
    refine lv_iload_n hx hb dX0_load_96 rfl (lv_at hl 3 rfl) ?_
    refine lv_iload hx hb dX0_load_97 (lv_at hl 4 rfl) ?_
    refine sm_callS (As := [.int (sm_lv (fun j => sm_ushr (M (t + j)) 8) 2), .int 2, .int (sm_bI true)]) (rest := [.int (nI r), .ref x2]) (wr := (sm_wX cI x0 x1 x2 x3 (upd V r (((sm_lv (fun j => M (t + j) &&& 255) 2) <<< (nI 16 &&& 31)) >>> (nI 16 &&& 31))) S M)) (wn := (sm_wX cI x0 x1 x2 x3 (upd V r (((sm_lv (fun j => M (t + j) &&& 255) 2) <<< (nI 16 &&& 31)) >>> (nI 16 &&& 31))) S M)) (st1 := [.int (((sm_lv (fun j => sm_ushr (M (t + j)) 8) 2) <<< (nI 16 &&& 31)) >>> (nI 16 &&& 31)), .int (nI r), .ref x2]) ⟨hx, hb, hml, hown, hts⟩ (c_widened_2_t l D (sm_lv (fun j => sm_ushr (M (t + j)) 8) 2)) (va_cwS 3 hts (sm_gS (i1 := 188) (i2 := 189) (i4 := 1) (i5 := 190) rfl rfl rfl rfl) rfl rfl rfl (by decide +kernel) ⟨Nat.le_of_ble_eq_true rfl, Nat.le_of_ble_eq_true rfl⟩) hK [] rfl hP hD hS hA [] [0, 1, 2, 3] rfl rfl (by decide) (by decide) (by decide) rfl hl.1 rfl (Nat.le_of_ble_eq_true rfl) dX0_load_99 ⟨Nat.le_of_ble_eq_true rfl, Nat.le_of_ble_eq_true rfl⟩ rfl rfl (fun H locs hP hD hS => ?_)
    refine sm_iast (f' := upd S r (((sm_lv (fun j => sm_ushr (M (t + j)) 8) 2) <<< (nI 16 &&& 31)) >>> (nI 16 &&& 31))) (ws' := (sm_wX cI x0 x1 x2 x3 (upd V r (((sm_lv (fun j => M (t + j) &&& 255) 2) <<< (nI 16 &&& 31)) >>> (nI 16 &&& 31))) (upd S r (((sm_lv (fun j => sm_ushr (M (t + j)) 8) 2) <<< (nI 16 &&& 31)) >>> (nI 16 &&& 31))) M)) hx hb hK hP hD hS 2 0 rfl rfl (vp_in_nI (n := r) (by omega) (by decide)) dX0_load_102 (by rw [nI_clamp (by omega)]) rfl (fun H locs hP hD hS => ?_)
    exact sm_vret hx hb hrt hlocks hS hP hD dX0_load_103
  · have hl : lv_has ls 9 [(0, .ref x0), (1, .int (nI r)), (2, .int (nI t)), (3, .int 2), (4, .int (sm_bI true)), (5, .int (sm_lv (fun j => M (t + j) &&& 255) k)), (6, .int (sm_lv (fun j => sm_ushr (M (t + j)) 8) k)), (7, .int (nI k))] := hl
    have hP : va_P D vwCl (sm_wX cI x0 x1 x2 x3 V S M) H := hP
    have hD : va_D _ (sm_wX cI x0 x1 x2 x3 V S M) := hD
    refine lv_iload hx hb dX0_load_15 (lv_at hl 7 rfl) ?_
    refine lv_iload_n hx hb dX0_load_17 rfl (lv_at hl 3 rfl) ?_
    refine lv_icmp_ge (tgt := 75) hx hb dX0_load_18 rfl (fun z => absurd z (nI_ge (b := 2) hk (by decide))) (fun _ => ?_)
    refine lv_iload hx hb dX0_load_21 (lv_at hl 7 rfl) ?_
    refine lv_bipush (v := 8) hx hb dX0_load_23 (by decide) ?_
    refine lv_imul hx hb dX0_load_25 ?_
    refine sm_eqi (y := nI (k * 8)) (pk_mul k 8) ?_
    refine lv_istore (lv' := [(8, .int (nI (k * 8))), (0, .ref x0), (1, .int (nI r)), (2, .int (nI t)), (3, .int 2), (4, .int (sm_bI true)), (5, .int (sm_lv (fun j => M (t + j) &&& 255) k)), (6, .int (sm_lv (fun j => sm_ushr (M (t + j)) 8) k)), (7, .int (nI k))]) hx hb dX0_load_26 hl (by decide) rfl (fun ls hl => ?_)
    refine lv_iload hx hb dX0_load_28 (lv_at hl 6 rfl) ?_
    refine lv_aload_n hx hb dX0_load_30 rfl (lv_at hl 1 rfl) ?_
    refine va_get (D := D) (ci := 0) (v := .ref x3) (C := RX0) (T := TX0) (N := 3) hx hb hts inX0 hown hK hP 0 rfl rfl 2 (by decide) (hw 20 rfl) (fun _ h9 => h9) rfl dX0_load_31 ?_
    refine lv_iload_n hx hb dX0_load_34 rfl (lv_at hl 3 rfl) ?_
    refine lv_iload hx hb dX0_load_35 (lv_at hl 8 rfl) ?_
    refine lv_iadd hx hb dX0_load_37 ?_
    refine sm_eqi (y := nI (t + k)) (nI_add t k) ?_
    refine va_iald hx hb hK hP 3 0 rfl rfl (vp_in_nI (n := t + k) (by omega) (by decide)) dX0_load_38 ?_
    refine sm_eqi (y := M (t + k)) (sm_cl M (n := t + k) (by omega)) ?_
    refine lv_sipush (v := 255) hx hb dX0_load_39 (by decide) ?_
    refine lv_iand hx hb dX0_load_42 ?_
    refine lv_iload hx hb dX0_load_43 (lv_at hl 0 rfl) ?_
    refine lv_ishl hx hb dX0_load_45 ?_
    refine lv_ior hx hb dX0_load_46 ?_
    refine sm_eqi (y := sm_lv (fun j => M (t + j) &&& 255) (k + 1)) (rfl) ?_
    refine lv_istore (lv' := [(5, .int (sm_lv (fun j => M (t + j) &&& 255) (k + 1))), (8, .int (nI (k * 8))), (0, .ref x0), (1, .int (nI r)), (2, .int (nI t)), (3, .int 2), (4, .int (sm_bI true)), (6, .int (sm_lv (fun j => sm_ushr (M (t + j)) 8) k)), (7, .int (nI k))]) hx hb dX0_load_47 hl (by decide) rfl (fun ls hl => ?_)
    refine lv_iload hx hb dX0_load_49 (lv_at hl 7 rfl) ?_
    refine lv_aload_n hx hb dX0_load_51 rfl (lv_at hl 2 rfl) ?_
    refine va_get (D := D) (ci := 0) (v := .ref x3) (C := RX0) (T := TX0) (N := 3) hx hb hts inX0 hown hK hP 0 rfl rfl 2 (by decide) (hw 20 rfl) (fun _ h9 => h9) rfl dX0_load_52 ?_
    refine lv_iload_n hx hb dX0_load_55 rfl (lv_at hl 4 rfl) ?_
    refine lv_iload hx hb dX0_load_56 (lv_at hl 8 rfl) ?_
    refine lv_iadd hx hb dX0_load_58 ?_
    refine sm_eqi (y := nI (t + k)) (nI_add t k) ?_
    refine va_iald hx hb hK hP 3 0 rfl rfl (vp_in_nI (n := t + k) (by omega) (by decide)) dX0_load_59 ?_
    refine sm_eqi (y := M (t + k)) (sm_cl M (n := t + k) (by omega)) ?_
    refine lv_bipush (v := 8) hx hb dX0_load_60 (by decide) ?_
    refine lv_iushr (v := sm_ushr (M (t + k)) 8) hx hb dX0_load_62 rfl ?_
    refine lv_iload hx hb dX0_load_63 (lv_at hl 1 rfl) ?_
    refine lv_ishl hx hb dX0_load_65 ?_
    refine lv_ior hx hb dX0_load_66 ?_
    refine sm_eqi (y := sm_lv (fun j => sm_ushr (M (t + j)) 8) (k + 1)) (rfl) ?_
    refine lv_istore (lv' := [(6, .int (sm_lv (fun j => sm_ushr (M (t + j)) 8) (k + 1))), (5, .int (sm_lv (fun j => M (t + j) &&& 255) (k + 1))), (8, .int (nI (k * 8))), (0, .ref x0), (1, .int (nI r)), (2, .int (nI t)), (3, .int 2), (4, .int (sm_bI true)), (7, .int (nI k))]) hx hb dX0_load_67 hl (by decide) rfl (fun ls hl => ?_)
    refine lv_iinc (k := 8) (v := nI (k + 1)) (lv' := [(7, .int (nI (k + 1))), (6, .int (sm_lv (fun j => sm_ushr (M (t + j)) 8) (k + 1))), (5, .int (sm_lv (fun j => M (t + j) &&& 255) (k + 1))), (8, .int (nI (k * 8))), (0, .ref x0), (1, .int (nI r)), (2, .int (nI t)), (3, .int 2), (4, .int (sm_bI true))]) hx hb dX0_load_69 hl rfl (sm_inc k) (by decide) rfl (fun ls hl => ?_)
    refine lv_goto (tgt := 15) hx hb dX0_load_72 rfl ?_
    exact ih _ _ _ (lv_sub hl [4, 5, 6, 7, 8, 2, 1, 0] rfl) (sm_cP (rfl) hP) (sm_cD (rfl) hD) hS
set_option maxHeartbeats 4000000 in
set_option maxRecDepth 100000 in
theorem c_load_2_f (l : Launch) (D : va_G) (cI : ClassId) (x0 x1 x2 x3 : Nat) (V S M : Nat → Int32) (r t : Nat) (hr : r < 16) (ht : t + 2 ≤ 256) : sm_C l yX0_load wsX0_load ({ frames := 2, cells := 0, slots := 0, locals := 42 } : Room) D vwCl [(cI, .int)] [.ref x0, .int (nI r), .int (nI t), .int 2, .int (sm_bI false)] (sm_wX cI x0 x1 x2 x3 V S M) none (sm_wX cI x0 x1 x2 x3 (upd V r (sm_ushr ((sm_lv (fun j => M (t + j) &&& 255) 2) <<< (nI 16 &&& 31)) (nI 16))) (upd S r (sm_ushr ((sm_lv (fun j => sm_ushr (M (t + j)) 8) 2) <<< (nI 16 &&& 31)) (nI 16))) M) := by
  refine sm_start (cc := cX0_load) (maxL := 9) (ret := none) (lv := [(0, .ref x0), (1, .int (nI r)), (2, .int (nI t)), (3, .int 2), (4, .int (sm_bI false))]) (by decide) rfl (Nat.le_of_ble_eq_true rfl) rfl ?_
  intro p e s m below meth c hx hb hrt hts hown hlocks hml hin hK hP hD hS hA ls hl
  have hw := sm_hw hts
  refine lv_iload_n hx hb dX0_load_0 rfl (lv_at hl 1 rfl) ?_
  refine lv_iload_n hx hb dX0_load_1 rfl (lv_at hl 2 rfl) ?_
  refine lv_iload_n hx hb dX0_load_2 rfl (lv_at hl 3 rfl) ?_
  refine sm_callS (As := [.int (nI r), .int (nI t), .int 2]) (rest := []) (wr := (sm_wX cI x0 x1 x2 x3 V S M)) (wn := (sm_wX cI x0 x1 x2 x3 V S M)) (st1 := []) ⟨hx, hb, hml, hown, hts⟩ (c_checkTransfer_2 l D r t (by omega) (by omega)) (va_cwS 3 hts (sm_gS (i1 := 178) (i2 := 179) (i4 := 1) (i5 := 180) rfl rfl rfl rfl) rfl rfl rfl (by decide +kernel) ⟨Nat.le_of_ble_eq_true rfl, Nat.le_of_ble_eq_true rfl⟩) hK [] rfl hP hD hS hA [] [0, 1, 2, 3] rfl rfl (by decide) (by decide) (by decide) rfl hl.1 rfl (Nat.le_of_ble_eq_true rfl) dX0_load_3 ⟨Nat.le_of_ble_eq_true rfl, Nat.le_of_ble_eq_true rfl⟩ rfl rfl (fun H locs hP hD hS => ?_)
  refine lv_iconst (v := 0) hx hb dX0_load_6 (by decide) ?_
  refine lv_istore (lv' := [(5, .int 0), (0, .ref x0), (1, .int (nI r)), (2, .int (nI t)), (3, .int 2), (4, .int (sm_bI false))]) hx hb dX0_load_7 hl (by decide) rfl (fun ls hl => ?_)
  refine lv_iconst (v := 0) hx hb dX0_load_9 (by decide) ?_
  refine lv_istore (lv' := [(6, .int 0), (5, .int 0), (0, .ref x0), (1, .int (nI r)), (2, .int (nI t)), (3, .int 2), (4, .int (sm_bI false))]) hx hb dX0_load_10 hl (by decide) rfl (fun ls hl => ?_)
  refine lv_iconst (v := 0) hx hb dX0_load_12 (by decide) ?_
  refine lv_istore (lv' := [(7, .int 0), (6, .int 0), (5, .int 0), (0, .ref x0), (1, .int (nI r)), (2, .int (nI t)), (3, .int 2), (4, .int (sm_bI false))]) hx hb dX0_load_13 hl (by decide) rfl (fun ls hl => ?_)
  refine sm_loopW (nL := 9) (lv := fun k => [(0, .ref x0), (1, .int (nI r)), (2, .int (nI t)), (3, .int 2), (4, .int (sm_bI false)), (5, .int (sm_lv (fun j => M (t + j) &&& 255) k)), (6, .int (sm_lv (fun j => sm_ushr (M (t + j)) 8) k)), (7, .int (nI k))]) (w := fun k => (sm_wX cI x0 x1 x2 x3 V S M)) 2 (fun H locs ls hl hP hD hS => ?_) (fun k hk ih H locs ls hl hP hD hS => ?_) (lv_sub hl [3, 4, 5, 6, 7, 2, 1, 0] rfl) (sm_cP (rfl) hP) (sm_cD (rfl) hD) hS
  · have hl : lv_has ls 9 [(0, .ref x0), (1, .int (nI r)), (2, .int (nI t)), (3, .int 2), (4, .int (sm_bI false)), (5, .int (sm_lv (fun j => M (t + j) &&& 255) 2)), (6, .int (sm_lv (fun j => sm_ushr (M (t + j)) 8) 2)), (7, .int (nI 2))] := hl
    have hP : va_P D vwCl (sm_wX cI x0 x1 x2 x3 V S M) H := hP
    have hD : va_D _ (sm_wX cI x0 x1 x2 x3 V S M) := hD
    refine lv_iload hx hb dX0_load_15 (lv_at hl 7 rfl) ?_
    refine lv_iload_n hx hb dX0_load_17 rfl (lv_at hl 3 rfl) ?_
    refine lv_icmp_ge (tgt := 75) hx hb dX0_load_18 rfl (fun _ => ?_) (fun z => absurd (by decide) z)
    refine lv_aload_n hx hb dX0_load_75 rfl (lv_at hl 0 rfl) ?_
    refine va_get (D := D) (ci := 0) (v := .ref x1) (C := RX0) (T := TX0) (N := 3) hx hb hts inX0 hown hK hP 0 rfl rfl 0 (by decide) (hw 18 rfl) (fun _ h9 => h9) rfl dX0_load_76 ?_
    refine lv_iload_n hx hb dX0_load_79 rfl (lv_at hl 1 rfl) ?_
    refine lv_iload hx hb dX0_load_80 (lv_at hl 5 rfl) ?_
    refine lv_iload_n hx hb dX0_load_82 rfl (lv_at hl 3 rfl) ?_
    refine lv_iload hx hb dX0_load_83 (lv_at hl 4 rfl) ?_
    refine sm_callS (As := [.int (sm_lv (fun j => M (t + j) &&& 255) 2), .int 2, .int (sm_bI false)]) (rest := [.int (nI r), .ref x1]) (wr := (sm_wX cI x0 x1 x2 x3 V S M)) (wn := (sm_wX cI x0 x1 x2 x3 V S M)) (st1 := [.int (sm_ushr ((sm_lv (fun j => M (t + j) &&& 255) 2) <<< (nI 16 &&& 31)) (nI 16)), .int (nI r), .ref x1]) ⟨hx, hb, hml, hown, hts⟩ (c_widened_2_f l D (sm_lv (fun j => M (t + j) &&& 255) 2)) (va_cwS 3 hts (sm_gS (i1 := 188) (i2 := 189) (i4 := 1) (i5 := 190) rfl rfl rfl rfl) rfl rfl rfl (by decide +kernel) ⟨Nat.le_of_ble_eq_true rfl, Nat.le_of_ble_eq_true rfl⟩) hK [] rfl hP hD hS hA [] [0, 1, 2, 3] rfl rfl (by decide) (by decide) (by decide) rfl hl.1 rfl (Nat.le_of_ble_eq_true rfl) dX0_load_85 ⟨Nat.le_of_ble_eq_true rfl, Nat.le_of_ble_eq_true rfl⟩ rfl rfl (fun H locs hP hD hS => ?_)
    refine sm_iast (f' := upd V r (sm_ushr ((sm_lv (fun j => M (t + j) &&& 255) 2) <<< (nI 16 &&& 31)) (nI 16))) (ws' := (sm_wX cI x0 x1 x2 x3 (upd V r (sm_ushr ((sm_lv (fun j => M (t + j) &&& 255) 2) <<< (nI 16 &&& 31)) (nI 16))) S M)) hx hb hK hP hD hS 1 0 rfl rfl (vp_in_nI (n := r) (by omega) (by decide)) dX0_load_88 (by rw [nI_clamp (by omega)]) rfl (fun H locs hP hD hS => ?_)
    refine lv_aload_n hx hb dX0_load_89 rfl (lv_at hl 0 rfl) ?_
    refine va_get (D := D) (ci := 0) (v := .ref x2) (C := RX0) (T := TX0) (N := 3) hx hb hts inX0 hown hK hP 0 rfl rfl 1 (by decide) (hw 19 rfl) (fun _ h9 => h9) rfl dX0_load_90 ?_
    refine lv_iload_n hx hb dX0_load_93 rfl (lv_at hl 1 rfl) ?_
    refine lv_iload hx hb dX0_load_94 (lv_at hl 6 rfl) ?_
    refine lv_iload_n hx hb dX0_load_96 rfl (lv_at hl 3 rfl) ?_
    refine lv_iload hx hb dX0_load_97 (lv_at hl 4 rfl) ?_
    refine sm_callS (As := [.int (sm_lv (fun j => sm_ushr (M (t + j)) 8) 2), .int 2, .int (sm_bI false)]) (rest := [.int (nI r), .ref x2]) (wr := (sm_wX cI x0 x1 x2 x3 (upd V r (sm_ushr ((sm_lv (fun j => M (t + j) &&& 255) 2) <<< (nI 16 &&& 31)) (nI 16))) S M)) (wn := (sm_wX cI x0 x1 x2 x3 (upd V r (sm_ushr ((sm_lv (fun j => M (t + j) &&& 255) 2) <<< (nI 16 &&& 31)) (nI 16))) S M)) (st1 := [.int (sm_ushr ((sm_lv (fun j => sm_ushr (M (t + j)) 8) 2) <<< (nI 16 &&& 31)) (nI 16)), .int (nI r), .ref x2]) ⟨hx, hb, hml, hown, hts⟩ (c_widened_2_f l D (sm_lv (fun j => sm_ushr (M (t + j)) 8) 2)) (va_cwS 3 hts (sm_gS (i1 := 188) (i2 := 189) (i4 := 1) (i5 := 190) rfl rfl rfl rfl) rfl rfl rfl (by decide +kernel) ⟨Nat.le_of_ble_eq_true rfl, Nat.le_of_ble_eq_true rfl⟩) hK [] rfl hP hD hS hA [] [0, 1, 2, 3] rfl rfl (by decide) (by decide) (by decide) rfl hl.1 rfl (Nat.le_of_ble_eq_true rfl) dX0_load_99 ⟨Nat.le_of_ble_eq_true rfl, Nat.le_of_ble_eq_true rfl⟩ rfl rfl (fun H locs hP hD hS => ?_)
    refine sm_iast (f' := upd S r (sm_ushr ((sm_lv (fun j => sm_ushr (M (t + j)) 8) 2) <<< (nI 16 &&& 31)) (nI 16))) (ws' := (sm_wX cI x0 x1 x2 x3 (upd V r (sm_ushr ((sm_lv (fun j => M (t + j) &&& 255) 2) <<< (nI 16 &&& 31)) (nI 16))) (upd S r (sm_ushr ((sm_lv (fun j => sm_ushr (M (t + j)) 8) 2) <<< (nI 16 &&& 31)) (nI 16))) M)) hx hb hK hP hD hS 2 0 rfl rfl (vp_in_nI (n := r) (by omega) (by decide)) dX0_load_102 (by rw [nI_clamp (by omega)]) rfl (fun H locs hP hD hS => ?_)
    exact sm_vret hx hb hrt hlocks hS hP hD dX0_load_103
  · have hl : lv_has ls 9 [(0, .ref x0), (1, .int (nI r)), (2, .int (nI t)), (3, .int 2), (4, .int (sm_bI false)), (5, .int (sm_lv (fun j => M (t + j) &&& 255) k)), (6, .int (sm_lv (fun j => sm_ushr (M (t + j)) 8) k)), (7, .int (nI k))] := hl
    have hP : va_P D vwCl (sm_wX cI x0 x1 x2 x3 V S M) H := hP
    have hD : va_D _ (sm_wX cI x0 x1 x2 x3 V S M) := hD
    refine lv_iload hx hb dX0_load_15 (lv_at hl 7 rfl) ?_
    refine lv_iload_n hx hb dX0_load_17 rfl (lv_at hl 3 rfl) ?_
    refine lv_icmp_ge (tgt := 75) hx hb dX0_load_18 rfl (fun z => absurd z (nI_ge (b := 2) hk (by decide))) (fun _ => ?_)
    refine lv_iload hx hb dX0_load_21 (lv_at hl 7 rfl) ?_
    refine lv_bipush (v := 8) hx hb dX0_load_23 (by decide) ?_
    refine lv_imul hx hb dX0_load_25 ?_
    refine sm_eqi (y := nI (k * 8)) (pk_mul k 8) ?_
    refine lv_istore (lv' := [(8, .int (nI (k * 8))), (0, .ref x0), (1, .int (nI r)), (2, .int (nI t)), (3, .int 2), (4, .int (sm_bI false)), (5, .int (sm_lv (fun j => M (t + j) &&& 255) k)), (6, .int (sm_lv (fun j => sm_ushr (M (t + j)) 8) k)), (7, .int (nI k))]) hx hb dX0_load_26 hl (by decide) rfl (fun ls hl => ?_)
    refine lv_iload hx hb dX0_load_28 (lv_at hl 6 rfl) ?_
    refine lv_aload_n hx hb dX0_load_30 rfl (lv_at hl 1 rfl) ?_
    refine va_get (D := D) (ci := 0) (v := .ref x3) (C := RX0) (T := TX0) (N := 3) hx hb hts inX0 hown hK hP 0 rfl rfl 2 (by decide) (hw 20 rfl) (fun _ h9 => h9) rfl dX0_load_31 ?_
    refine lv_iload_n hx hb dX0_load_34 rfl (lv_at hl 3 rfl) ?_
    refine lv_iload hx hb dX0_load_35 (lv_at hl 8 rfl) ?_
    refine lv_iadd hx hb dX0_load_37 ?_
    refine sm_eqi (y := nI (t + k)) (nI_add t k) ?_
    refine va_iald hx hb hK hP 3 0 rfl rfl (vp_in_nI (n := t + k) (by omega) (by decide)) dX0_load_38 ?_
    refine sm_eqi (y := M (t + k)) (sm_cl M (n := t + k) (by omega)) ?_
    refine lv_sipush (v := 255) hx hb dX0_load_39 (by decide) ?_
    refine lv_iand hx hb dX0_load_42 ?_
    refine lv_iload hx hb dX0_load_43 (lv_at hl 0 rfl) ?_
    refine lv_ishl hx hb dX0_load_45 ?_
    refine lv_ior hx hb dX0_load_46 ?_
    refine sm_eqi (y := sm_lv (fun j => M (t + j) &&& 255) (k + 1)) (rfl) ?_
    refine lv_istore (lv' := [(5, .int (sm_lv (fun j => M (t + j) &&& 255) (k + 1))), (8, .int (nI (k * 8))), (0, .ref x0), (1, .int (nI r)), (2, .int (nI t)), (3, .int 2), (4, .int (sm_bI false)), (6, .int (sm_lv (fun j => sm_ushr (M (t + j)) 8) k)), (7, .int (nI k))]) hx hb dX0_load_47 hl (by decide) rfl (fun ls hl => ?_)
    refine lv_iload hx hb dX0_load_49 (lv_at hl 7 rfl) ?_
    refine lv_aload_n hx hb dX0_load_51 rfl (lv_at hl 2 rfl) ?_
    refine va_get (D := D) (ci := 0) (v := .ref x3) (C := RX0) (T := TX0) (N := 3) hx hb hts inX0 hown hK hP 0 rfl rfl 2 (by decide) (hw 20 rfl) (fun _ h9 => h9) rfl dX0_load_52 ?_
    refine lv_iload_n hx hb dX0_load_55 rfl (lv_at hl 4 rfl) ?_
    refine lv_iload hx hb dX0_load_56 (lv_at hl 8 rfl) ?_
    refine lv_iadd hx hb dX0_load_58 ?_
    refine sm_eqi (y := nI (t + k)) (nI_add t k) ?_
    refine va_iald hx hb hK hP 3 0 rfl rfl (vp_in_nI (n := t + k) (by omega) (by decide)) dX0_load_59 ?_
    refine sm_eqi (y := M (t + k)) (sm_cl M (n := t + k) (by omega)) ?_
    refine lv_bipush (v := 8) hx hb dX0_load_60 (by decide) ?_
    refine lv_iushr (v := sm_ushr (M (t + k)) 8) hx hb dX0_load_62 rfl ?_
    refine lv_iload hx hb dX0_load_63 (lv_at hl 1 rfl) ?_
    refine lv_ishl hx hb dX0_load_65 ?_
    refine lv_ior hx hb dX0_load_66 ?_
    refine sm_eqi (y := sm_lv (fun j => sm_ushr (M (t + j)) 8) (k + 1)) (rfl) ?_
    refine lv_istore (lv' := [(6, .int (sm_lv (fun j => sm_ushr (M (t + j)) 8) (k + 1))), (5, .int (sm_lv (fun j => M (t + j) &&& 255) (k + 1))), (8, .int (nI (k * 8))), (0, .ref x0), (1, .int (nI r)), (2, .int (nI t)), (3, .int 2), (4, .int (sm_bI false)), (7, .int (nI k))]) hx hb dX0_load_67 hl (by decide) rfl (fun ls hl => ?_)
    refine lv_iinc (k := 8) (v := nI (k + 1)) (lv' := [(7, .int (nI (k + 1))), (6, .int (sm_lv (fun j => sm_ushr (M (t + j)) 8) (k + 1))), (5, .int (sm_lv (fun j => M (t + j) &&& 255) (k + 1))), (8, .int (nI (k * 8))), (0, .ref x0), (1, .int (nI r)), (2, .int (nI t)), (3, .int 2), (4, .int (sm_bI false))]) hx hb dX0_load_69 hl rfl (sm_inc k) (by decide) rfl (fun ls hl => ?_)
    refine lv_goto (tgt := 15) hx hb dX0_load_72 rfl ?_
    exact ih _ _ _ (lv_sub hl [4, 5, 6, 7, 8, 2, 1, 0] rfl) (sm_cP (rfl) hP) (sm_cD (rfl) hD) hS
set_option maxHeartbeats 4000000 in
set_option maxRecDepth 100000 in
theorem c_load_4_t (l : Launch) (D : va_G) (cI : ClassId) (x0 x1 x2 x3 : Nat) (V S M : Nat → Int32) (r t : Nat) (hr : r < 16) (ht : t + 4 ≤ 256) : sm_C l yX0_load wsX0_load ({ frames := 2, cells := 0, slots := 0, locals := 42 } : Room) D vwCl [(cI, .int)] [.ref x0, .int (nI r), .int (nI t), .int 4, .int (sm_bI true)] (sm_wX cI x0 x1 x2 x3 V S M) none (sm_wX cI x0 x1 x2 x3 (upd V r (((sm_lv (fun j => M (t + j) &&& 255) 4) <<< (nI 0 &&& 31)) >>> (nI 0 &&& 31))) (upd S r (((sm_lv (fun j => sm_ushr (M (t + j)) 8) 4) <<< (nI 0 &&& 31)) >>> (nI 0 &&& 31))) M) := by
  refine sm_start (cc := cX0_load) (maxL := 9) (ret := none) (lv := [(0, .ref x0), (1, .int (nI r)), (2, .int (nI t)), (3, .int 4), (4, .int (sm_bI true))]) (by decide) rfl (Nat.le_of_ble_eq_true rfl) rfl ?_
  intro p e s m below meth c hx hb hrt hts hown hlocks hml hin hK hP hD hS hA ls hl
  have hw := sm_hw hts
  refine lv_iload_n hx hb dX0_load_0 rfl (lv_at hl 1 rfl) ?_
  refine lv_iload_n hx hb dX0_load_1 rfl (lv_at hl 2 rfl) ?_
  refine lv_iload_n hx hb dX0_load_2 rfl (lv_at hl 3 rfl) ?_
  refine sm_callS (As := [.int (nI r), .int (nI t), .int 4]) (rest := []) (wr := (sm_wX cI x0 x1 x2 x3 V S M)) (wn := (sm_wX cI x0 x1 x2 x3 V S M)) (st1 := []) ⟨hx, hb, hml, hown, hts⟩ (c_checkTransfer_4 l D r t (by omega) (by omega)) (va_cwS 3 hts (sm_gS (i1 := 178) (i2 := 179) (i4 := 1) (i5 := 180) rfl rfl rfl rfl) rfl rfl rfl (by decide +kernel) ⟨Nat.le_of_ble_eq_true rfl, Nat.le_of_ble_eq_true rfl⟩) hK [] rfl hP hD hS hA [] [0, 1, 2, 3] rfl rfl (by decide) (by decide) (by decide) rfl hl.1 rfl (Nat.le_of_ble_eq_true rfl) dX0_load_3 ⟨Nat.le_of_ble_eq_true rfl, Nat.le_of_ble_eq_true rfl⟩ rfl rfl (fun H locs hP hD hS => ?_)
  refine lv_iconst (v := 0) hx hb dX0_load_6 (by decide) ?_
  refine lv_istore (lv' := [(5, .int 0), (0, .ref x0), (1, .int (nI r)), (2, .int (nI t)), (3, .int 4), (4, .int (sm_bI true))]) hx hb dX0_load_7 hl (by decide) rfl (fun ls hl => ?_)
  refine lv_iconst (v := 0) hx hb dX0_load_9 (by decide) ?_
  refine lv_istore (lv' := [(6, .int 0), (5, .int 0), (0, .ref x0), (1, .int (nI r)), (2, .int (nI t)), (3, .int 4), (4, .int (sm_bI true))]) hx hb dX0_load_10 hl (by decide) rfl (fun ls hl => ?_)
  refine lv_iconst (v := 0) hx hb dX0_load_12 (by decide) ?_
  refine lv_istore (lv' := [(7, .int 0), (6, .int 0), (5, .int 0), (0, .ref x0), (1, .int (nI r)), (2, .int (nI t)), (3, .int 4), (4, .int (sm_bI true))]) hx hb dX0_load_13 hl (by decide) rfl (fun ls hl => ?_)
  refine sm_loopW (nL := 9) (lv := fun k => [(0, .ref x0), (1, .int (nI r)), (2, .int (nI t)), (3, .int 4), (4, .int (sm_bI true)), (5, .int (sm_lv (fun j => M (t + j) &&& 255) k)), (6, .int (sm_lv (fun j => sm_ushr (M (t + j)) 8) k)), (7, .int (nI k))]) (w := fun k => (sm_wX cI x0 x1 x2 x3 V S M)) 4 (fun H locs ls hl hP hD hS => ?_) (fun k hk ih H locs ls hl hP hD hS => ?_) (lv_sub hl [3, 4, 5, 6, 7, 2, 1, 0] rfl) (sm_cP (rfl) hP) (sm_cD (rfl) hD) hS
  · have hl : lv_has ls 9 [(0, .ref x0), (1, .int (nI r)), (2, .int (nI t)), (3, .int 4), (4, .int (sm_bI true)), (5, .int (sm_lv (fun j => M (t + j) &&& 255) 4)), (6, .int (sm_lv (fun j => sm_ushr (M (t + j)) 8) 4)), (7, .int (nI 4))] := hl
    have hP : va_P D vwCl (sm_wX cI x0 x1 x2 x3 V S M) H := hP
    have hD : va_D _ (sm_wX cI x0 x1 x2 x3 V S M) := hD
    refine lv_iload hx hb dX0_load_15 (lv_at hl 7 rfl) ?_
    refine lv_iload_n hx hb dX0_load_17 rfl (lv_at hl 3 rfl) ?_
    refine lv_icmp_ge (tgt := 75) hx hb dX0_load_18 rfl (fun _ => ?_) (fun z => absurd (by decide) z)
    refine lv_aload_n hx hb dX0_load_75 rfl (lv_at hl 0 rfl) ?_
    refine va_get (D := D) (ci := 0) (v := .ref x1) (C := RX0) (T := TX0) (N := 3) hx hb hts inX0 hown hK hP 0 rfl rfl 0 (by decide) (hw 18 rfl) (fun _ h9 => h9) rfl dX0_load_76 ?_
    refine lv_iload_n hx hb dX0_load_79 rfl (lv_at hl 1 rfl) ?_
    refine lv_iload hx hb dX0_load_80 (lv_at hl 5 rfl) ?_
    refine lv_iload_n hx hb dX0_load_82 rfl (lv_at hl 3 rfl) ?_
    refine lv_iload hx hb dX0_load_83 (lv_at hl 4 rfl) ?_
    refine sm_callS (As := [.int (sm_lv (fun j => M (t + j) &&& 255) 4), .int 4, .int (sm_bI true)]) (rest := [.int (nI r), .ref x1]) (wr := (sm_wX cI x0 x1 x2 x3 V S M)) (wn := (sm_wX cI x0 x1 x2 x3 V S M)) (st1 := [.int (((sm_lv (fun j => M (t + j) &&& 255) 4) <<< (nI 0 &&& 31)) >>> (nI 0 &&& 31)), .int (nI r), .ref x1]) ⟨hx, hb, hml, hown, hts⟩ (c_widened_4_t l D (sm_lv (fun j => M (t + j) &&& 255) 4)) (va_cwS 3 hts (sm_gS (i1 := 188) (i2 := 189) (i4 := 1) (i5 := 190) rfl rfl rfl rfl) rfl rfl rfl (by decide +kernel) ⟨Nat.le_of_ble_eq_true rfl, Nat.le_of_ble_eq_true rfl⟩) hK [] rfl hP hD hS hA [] [0, 1, 2, 3] rfl rfl (by decide) (by decide) (by decide) rfl hl.1 rfl (Nat.le_of_ble_eq_true rfl) dX0_load_85 ⟨Nat.le_of_ble_eq_true rfl, Nat.le_of_ble_eq_true rfl⟩ rfl rfl (fun H locs hP hD hS => ?_)
    refine sm_iast (f' := upd V r (((sm_lv (fun j => M (t + j) &&& 255) 4) <<< (nI 0 &&& 31)) >>> (nI 0 &&& 31))) (ws' := (sm_wX cI x0 x1 x2 x3 (upd V r (((sm_lv (fun j => M (t + j) &&& 255) 4) <<< (nI 0 &&& 31)) >>> (nI 0 &&& 31))) S M)) hx hb hK hP hD hS 1 0 rfl rfl (vp_in_nI (n := r) (by omega) (by decide)) dX0_load_88 (by rw [nI_clamp (by omega)]) rfl (fun H locs hP hD hS => ?_)
    refine lv_aload_n hx hb dX0_load_89 rfl (lv_at hl 0 rfl) ?_
    refine va_get (D := D) (ci := 0) (v := .ref x2) (C := RX0) (T := TX0) (N := 3) hx hb hts inX0 hown hK hP 0 rfl rfl 1 (by decide) (hw 19 rfl) (fun _ h9 => h9) rfl dX0_load_90 ?_
    refine lv_iload_n hx hb dX0_load_93 rfl (lv_at hl 1 rfl) ?_
    refine lv_iload hx hb dX0_load_94 (lv_at hl 6 rfl) ?_
    refine lv_iload_n hx hb dX0_load_96 rfl (lv_at hl 3 rfl) ?_
    refine lv_iload hx hb dX0_load_97 (lv_at hl 4 rfl) ?_
    refine sm_callS (As := [.int (sm_lv (fun j => sm_ushr (M (t + j)) 8) 4), .int 4, .int (sm_bI true)]) (rest := [.int (nI r), .ref x2]) (wr := (sm_wX cI x0 x1 x2 x3 (upd V r (((sm_lv (fun j => M (t + j) &&& 255) 4) <<< (nI 0 &&& 31)) >>> (nI 0 &&& 31))) S M)) (wn := (sm_wX cI x0 x1 x2 x3 (upd V r (((sm_lv (fun j => M (t + j) &&& 255) 4) <<< (nI 0 &&& 31)) >>> (nI 0 &&& 31))) S M)) (st1 := [.int (((sm_lv (fun j => sm_ushr (M (t + j)) 8) 4) <<< (nI 0 &&& 31)) >>> (nI 0 &&& 31)), .int (nI r), .ref x2]) ⟨hx, hb, hml, hown, hts⟩ (c_widened_4_t l D (sm_lv (fun j => sm_ushr (M (t + j)) 8) 4)) (va_cwS 3 hts (sm_gS (i1 := 188) (i2 := 189) (i4 := 1) (i5 := 190) rfl rfl rfl rfl) rfl rfl rfl (by decide +kernel) ⟨Nat.le_of_ble_eq_true rfl, Nat.le_of_ble_eq_true rfl⟩) hK [] rfl hP hD hS hA [] [0, 1, 2, 3] rfl rfl (by decide) (by decide) (by decide) rfl hl.1 rfl (Nat.le_of_ble_eq_true rfl) dX0_load_99 ⟨Nat.le_of_ble_eq_true rfl, Nat.le_of_ble_eq_true rfl⟩ rfl rfl (fun H locs hP hD hS => ?_)
    refine sm_iast (f' := upd S r (((sm_lv (fun j => sm_ushr (M (t + j)) 8) 4) <<< (nI 0 &&& 31)) >>> (nI 0 &&& 31))) (ws' := (sm_wX cI x0 x1 x2 x3 (upd V r (((sm_lv (fun j => M (t + j) &&& 255) 4) <<< (nI 0 &&& 31)) >>> (nI 0 &&& 31))) (upd S r (((sm_lv (fun j => sm_ushr (M (t + j)) 8) 4) <<< (nI 0 &&& 31)) >>> (nI 0 &&& 31))) M)) hx hb hK hP hD hS 2 0 rfl rfl (vp_in_nI (n := r) (by omega) (by decide)) dX0_load_102 (by rw [nI_clamp (by omega)]) rfl (fun H locs hP hD hS => ?_)
    exact sm_vret hx hb hrt hlocks hS hP hD dX0_load_103
  · have hl : lv_has ls 9 [(0, .ref x0), (1, .int (nI r)), (2, .int (nI t)), (3, .int 4), (4, .int (sm_bI true)), (5, .int (sm_lv (fun j => M (t + j) &&& 255) k)), (6, .int (sm_lv (fun j => sm_ushr (M (t + j)) 8) k)), (7, .int (nI k))] := hl
    have hP : va_P D vwCl (sm_wX cI x0 x1 x2 x3 V S M) H := hP
    have hD : va_D _ (sm_wX cI x0 x1 x2 x3 V S M) := hD
    refine lv_iload hx hb dX0_load_15 (lv_at hl 7 rfl) ?_
    refine lv_iload_n hx hb dX0_load_17 rfl (lv_at hl 3 rfl) ?_
    refine lv_icmp_ge (tgt := 75) hx hb dX0_load_18 rfl (fun z => absurd z (nI_ge (b := 4) hk (by decide))) (fun _ => ?_)
    refine lv_iload hx hb dX0_load_21 (lv_at hl 7 rfl) ?_
    refine lv_bipush (v := 8) hx hb dX0_load_23 (by decide) ?_
    refine lv_imul hx hb dX0_load_25 ?_
    refine sm_eqi (y := nI (k * 8)) (pk_mul k 8) ?_
    refine lv_istore (lv' := [(8, .int (nI (k * 8))), (0, .ref x0), (1, .int (nI r)), (2, .int (nI t)), (3, .int 4), (4, .int (sm_bI true)), (5, .int (sm_lv (fun j => M (t + j) &&& 255) k)), (6, .int (sm_lv (fun j => sm_ushr (M (t + j)) 8) k)), (7, .int (nI k))]) hx hb dX0_load_26 hl (by decide) rfl (fun ls hl => ?_)
    refine lv_iload hx hb dX0_load_28 (lv_at hl 6 rfl) ?_
    refine lv_aload_n hx hb dX0_load_30 rfl (lv_at hl 1 rfl) ?_
    refine va_get (D := D) (ci := 0) (v := .ref x3) (C := RX0) (T := TX0) (N := 3) hx hb hts inX0 hown hK hP 0 rfl rfl 2 (by decide) (hw 20 rfl) (fun _ h9 => h9) rfl dX0_load_31 ?_
    refine lv_iload_n hx hb dX0_load_34 rfl (lv_at hl 3 rfl) ?_
    refine lv_iload hx hb dX0_load_35 (lv_at hl 8 rfl) ?_
    refine lv_iadd hx hb dX0_load_37 ?_
    refine sm_eqi (y := nI (t + k)) (nI_add t k) ?_
    refine va_iald hx hb hK hP 3 0 rfl rfl (vp_in_nI (n := t + k) (by omega) (by decide)) dX0_load_38 ?_
    refine sm_eqi (y := M (t + k)) (sm_cl M (n := t + k) (by omega)) ?_
    refine lv_sipush (v := 255) hx hb dX0_load_39 (by decide) ?_
    refine lv_iand hx hb dX0_load_42 ?_
    refine lv_iload hx hb dX0_load_43 (lv_at hl 0 rfl) ?_
    refine lv_ishl hx hb dX0_load_45 ?_
    refine lv_ior hx hb dX0_load_46 ?_
    refine sm_eqi (y := sm_lv (fun j => M (t + j) &&& 255) (k + 1)) (rfl) ?_
    refine lv_istore (lv' := [(5, .int (sm_lv (fun j => M (t + j) &&& 255) (k + 1))), (8, .int (nI (k * 8))), (0, .ref x0), (1, .int (nI r)), (2, .int (nI t)), (3, .int 4), (4, .int (sm_bI true)), (6, .int (sm_lv (fun j => sm_ushr (M (t + j)) 8) k)), (7, .int (nI k))]) hx hb dX0_load_47 hl (by decide) rfl (fun ls hl => ?_)
    refine lv_iload hx hb dX0_load_49 (lv_at hl 7 rfl) ?_
    refine lv_aload_n hx hb dX0_load_51 rfl (lv_at hl 2 rfl) ?_
    refine va_get (D := D) (ci := 0) (v := .ref x3) (C := RX0) (T := TX0) (N := 3) hx hb hts inX0 hown hK hP 0 rfl rfl 2 (by decide) (hw 20 rfl) (fun _ h9 => h9) rfl dX0_load_52 ?_
    refine lv_iload_n hx hb dX0_load_55 rfl (lv_at hl 4 rfl) ?_
    refine lv_iload hx hb dX0_load_56 (lv_at hl 8 rfl) ?_
    refine lv_iadd hx hb dX0_load_58 ?_
    refine sm_eqi (y := nI (t + k)) (nI_add t k) ?_
    refine va_iald hx hb hK hP 3 0 rfl rfl (vp_in_nI (n := t + k) (by omega) (by decide)) dX0_load_59 ?_
    refine sm_eqi (y := M (t + k)) (sm_cl M (n := t + k) (by omega)) ?_
    refine lv_bipush (v := 8) hx hb dX0_load_60 (by decide) ?_
    refine lv_iushr (v := sm_ushr (M (t + k)) 8) hx hb dX0_load_62 rfl ?_
    refine lv_iload hx hb dX0_load_63 (lv_at hl 1 rfl) ?_
    refine lv_ishl hx hb dX0_load_65 ?_
    refine lv_ior hx hb dX0_load_66 ?_
    refine sm_eqi (y := sm_lv (fun j => sm_ushr (M (t + j)) 8) (k + 1)) (rfl) ?_
    refine lv_istore (lv' := [(6, .int (sm_lv (fun j => sm_ushr (M (t + j)) 8) (k + 1))), (5, .int (sm_lv (fun j => M (t + j) &&& 255) (k + 1))), (8, .int (nI (k * 8))), (0, .ref x0), (1, .int (nI r)), (2, .int (nI t)), (3, .int 4), (4, .int (sm_bI true)), (7, .int (nI k))]) hx hb dX0_load_67 hl (by decide) rfl (fun ls hl => ?_)
    refine lv_iinc (k := 8) (v := nI (k + 1)) (lv' := [(7, .int (nI (k + 1))), (6, .int (sm_lv (fun j => sm_ushr (M (t + j)) 8) (k + 1))), (5, .int (sm_lv (fun j => M (t + j) &&& 255) (k + 1))), (8, .int (nI (k * 8))), (0, .ref x0), (1, .int (nI r)), (2, .int (nI t)), (3, .int 4), (4, .int (sm_bI true))]) hx hb dX0_load_69 hl rfl (sm_inc k) (by decide) rfl (fun ls hl => ?_)
    refine lv_goto (tgt := 15) hx hb dX0_load_72 rfl ?_
    exact ih _ _ _ (lv_sub hl [4, 5, 6, 7, 8, 2, 1, 0] rfl) (sm_cP (rfl) hP) (sm_cD (rfl) hD) hS
set_option maxHeartbeats 4000000 in
set_option maxRecDepth 100000 in
theorem c_load_4_f (l : Launch) (D : va_G) (cI : ClassId) (x0 x1 x2 x3 : Nat) (V S M : Nat → Int32) (r t : Nat) (hr : r < 16) (ht : t + 4 ≤ 256) : sm_C l yX0_load wsX0_load ({ frames := 2, cells := 0, slots := 0, locals := 42 } : Room) D vwCl [(cI, .int)] [.ref x0, .int (nI r), .int (nI t), .int 4, .int (sm_bI false)] (sm_wX cI x0 x1 x2 x3 V S M) none (sm_wX cI x0 x1 x2 x3 (upd V r (sm_ushr ((sm_lv (fun j => M (t + j) &&& 255) 4) <<< (nI 0 &&& 31)) (nI 0))) (upd S r (sm_ushr ((sm_lv (fun j => sm_ushr (M (t + j)) 8) 4) <<< (nI 0 &&& 31)) (nI 0))) M) := by
  refine sm_start (cc := cX0_load) (maxL := 9) (ret := none) (lv := [(0, .ref x0), (1, .int (nI r)), (2, .int (nI t)), (3, .int 4), (4, .int (sm_bI false))]) (by decide) rfl (Nat.le_of_ble_eq_true rfl) rfl ?_
  intro p e s m below meth c hx hb hrt hts hown hlocks hml hin hK hP hD hS hA ls hl
  have hw := sm_hw hts
  refine lv_iload_n hx hb dX0_load_0 rfl (lv_at hl 1 rfl) ?_
  refine lv_iload_n hx hb dX0_load_1 rfl (lv_at hl 2 rfl) ?_
  refine lv_iload_n hx hb dX0_load_2 rfl (lv_at hl 3 rfl) ?_
  refine sm_callS (As := [.int (nI r), .int (nI t), .int 4]) (rest := []) (wr := (sm_wX cI x0 x1 x2 x3 V S M)) (wn := (sm_wX cI x0 x1 x2 x3 V S M)) (st1 := []) ⟨hx, hb, hml, hown, hts⟩ (c_checkTransfer_4 l D r t (by omega) (by omega)) (va_cwS 3 hts (sm_gS (i1 := 178) (i2 := 179) (i4 := 1) (i5 := 180) rfl rfl rfl rfl) rfl rfl rfl (by decide +kernel) ⟨Nat.le_of_ble_eq_true rfl, Nat.le_of_ble_eq_true rfl⟩) hK [] rfl hP hD hS hA [] [0, 1, 2, 3] rfl rfl (by decide) (by decide) (by decide) rfl hl.1 rfl (Nat.le_of_ble_eq_true rfl) dX0_load_3 ⟨Nat.le_of_ble_eq_true rfl, Nat.le_of_ble_eq_true rfl⟩ rfl rfl (fun H locs hP hD hS => ?_)
  refine lv_iconst (v := 0) hx hb dX0_load_6 (by decide) ?_
  refine lv_istore (lv' := [(5, .int 0), (0, .ref x0), (1, .int (nI r)), (2, .int (nI t)), (3, .int 4), (4, .int (sm_bI false))]) hx hb dX0_load_7 hl (by decide) rfl (fun ls hl => ?_)
  refine lv_iconst (v := 0) hx hb dX0_load_9 (by decide) ?_
  refine lv_istore (lv' := [(6, .int 0), (5, .int 0), (0, .ref x0), (1, .int (nI r)), (2, .int (nI t)), (3, .int 4), (4, .int (sm_bI false))]) hx hb dX0_load_10 hl (by decide) rfl (fun ls hl => ?_)
  refine lv_iconst (v := 0) hx hb dX0_load_12 (by decide) ?_
  refine lv_istore (lv' := [(7, .int 0), (6, .int 0), (5, .int 0), (0, .ref x0), (1, .int (nI r)), (2, .int (nI t)), (3, .int 4), (4, .int (sm_bI false))]) hx hb dX0_load_13 hl (by decide) rfl (fun ls hl => ?_)
  refine sm_loopW (nL := 9) (lv := fun k => [(0, .ref x0), (1, .int (nI r)), (2, .int (nI t)), (3, .int 4), (4, .int (sm_bI false)), (5, .int (sm_lv (fun j => M (t + j) &&& 255) k)), (6, .int (sm_lv (fun j => sm_ushr (M (t + j)) 8) k)), (7, .int (nI k))]) (w := fun k => (sm_wX cI x0 x1 x2 x3 V S M)) 4 (fun H locs ls hl hP hD hS => ?_) (fun k hk ih H locs ls hl hP hD hS => ?_) (lv_sub hl [3, 4, 5, 6, 7, 2, 1, 0] rfl) (sm_cP (rfl) hP) (sm_cD (rfl) hD) hS
  · have hl : lv_has ls 9 [(0, .ref x0), (1, .int (nI r)), (2, .int (nI t)), (3, .int 4), (4, .int (sm_bI false)), (5, .int (sm_lv (fun j => M (t + j) &&& 255) 4)), (6, .int (sm_lv (fun j => sm_ushr (M (t + j)) 8) 4)), (7, .int (nI 4))] := hl
    have hP : va_P D vwCl (sm_wX cI x0 x1 x2 x3 V S M) H := hP
    have hD : va_D _ (sm_wX cI x0 x1 x2 x3 V S M) := hD
    refine lv_iload hx hb dX0_load_15 (lv_at hl 7 rfl) ?_
    refine lv_iload_n hx hb dX0_load_17 rfl (lv_at hl 3 rfl) ?_
    refine lv_icmp_ge (tgt := 75) hx hb dX0_load_18 rfl (fun _ => ?_) (fun z => absurd (by decide) z)
    refine lv_aload_n hx hb dX0_load_75 rfl (lv_at hl 0 rfl) ?_
    refine va_get (D := D) (ci := 0) (v := .ref x1) (C := RX0) (T := TX0) (N := 3) hx hb hts inX0 hown hK hP 0 rfl rfl 0 (by decide) (hw 18 rfl) (fun _ h9 => h9) rfl dX0_load_76 ?_
    refine lv_iload_n hx hb dX0_load_79 rfl (lv_at hl 1 rfl) ?_
    refine lv_iload hx hb dX0_load_80 (lv_at hl 5 rfl) ?_
    refine lv_iload_n hx hb dX0_load_82 rfl (lv_at hl 3 rfl) ?_
    refine lv_iload hx hb dX0_load_83 (lv_at hl 4 rfl) ?_
    refine sm_callS (As := [.int (sm_lv (fun j => M (t + j) &&& 255) 4), .int 4, .int (sm_bI false)]) (rest := [.int (nI r), .ref x1]) (wr := (sm_wX cI x0 x1 x2 x3 V S M)) (wn := (sm_wX cI x0 x1 x2 x3 V S M)) (st1 := [.int (sm_ushr ((sm_lv (fun j => M (t + j) &&& 255) 4) <<< (nI 0 &&& 31)) (nI 0)), .int (nI r), .ref x1]) ⟨hx, hb, hml, hown, hts⟩ (c_widened_4_f l D (sm_lv (fun j => M (t + j) &&& 255) 4)) (va_cwS 3 hts (sm_gS (i1 := 188) (i2 := 189) (i4 := 1) (i5 := 190) rfl rfl rfl rfl) rfl rfl rfl (by decide +kernel) ⟨Nat.le_of_ble_eq_true rfl, Nat.le_of_ble_eq_true rfl⟩) hK [] rfl hP hD hS hA [] [0, 1, 2, 3] rfl rfl (by decide) (by decide) (by decide) rfl hl.1 rfl (Nat.le_of_ble_eq_true rfl) dX0_load_85 ⟨Nat.le_of_ble_eq_true rfl, Nat.le_of_ble_eq_true rfl⟩ rfl rfl (fun H locs hP hD hS => ?_)
    refine sm_iast (f' := upd V r (sm_ushr ((sm_lv (fun j => M (t + j) &&& 255) 4) <<< (nI 0 &&& 31)) (nI 0))) (ws' := (sm_wX cI x0 x1 x2 x3 (upd V r (sm_ushr ((sm_lv (fun j => M (t + j) &&& 255) 4) <<< (nI 0 &&& 31)) (nI 0))) S M)) hx hb hK hP hD hS 1 0 rfl rfl (vp_in_nI (n := r) (by omega) (by decide)) dX0_load_88 (by rw [nI_clamp (by omega)]) rfl (fun H locs hP hD hS => ?_)
    refine lv_aload_n hx hb dX0_load_89 rfl (lv_at hl 0 rfl) ?_
    refine va_get (D := D) (ci := 0) (v := .ref x2) (C := RX0) (T := TX0) (N := 3) hx hb hts inX0 hown hK hP 0 rfl rfl 1 (by decide) (hw 19 rfl) (fun _ h9 => h9) rfl dX0_load_90 ?_
    refine lv_iload_n hx hb dX0_load_93 rfl (lv_at hl 1 rfl) ?_
    refine lv_iload hx hb dX0_load_94 (lv_at hl 6 rfl) ?_
    refine lv_iload_n hx hb dX0_load_96 rfl (lv_at hl 3 rfl) ?_
    refine lv_iload hx hb dX0_load_97 (lv_at hl 4 rfl) ?_
    refine sm_callS (As := [.int (sm_lv (fun j => sm_ushr (M (t + j)) 8) 4), .int 4, .int (sm_bI false)]) (rest := [.int (nI r), .ref x2]) (wr := (sm_wX cI x0 x1 x2 x3 (upd V r (sm_ushr ((sm_lv (fun j => M (t + j) &&& 255) 4) <<< (nI 0 &&& 31)) (nI 0))) S M)) (wn := (sm_wX cI x0 x1 x2 x3 (upd V r (sm_ushr ((sm_lv (fun j => M (t + j) &&& 255) 4) <<< (nI 0 &&& 31)) (nI 0))) S M)) (st1 := [.int (sm_ushr ((sm_lv (fun j => sm_ushr (M (t + j)) 8) 4) <<< (nI 0 &&& 31)) (nI 0)), .int (nI r), .ref x2]) ⟨hx, hb, hml, hown, hts⟩ (c_widened_4_f l D (sm_lv (fun j => sm_ushr (M (t + j)) 8) 4)) (va_cwS 3 hts (sm_gS (i1 := 188) (i2 := 189) (i4 := 1) (i5 := 190) rfl rfl rfl rfl) rfl rfl rfl (by decide +kernel) ⟨Nat.le_of_ble_eq_true rfl, Nat.le_of_ble_eq_true rfl⟩) hK [] rfl hP hD hS hA [] [0, 1, 2, 3] rfl rfl (by decide) (by decide) (by decide) rfl hl.1 rfl (Nat.le_of_ble_eq_true rfl) dX0_load_99 ⟨Nat.le_of_ble_eq_true rfl, Nat.le_of_ble_eq_true rfl⟩ rfl rfl (fun H locs hP hD hS => ?_)
    refine sm_iast (f' := upd S r (sm_ushr ((sm_lv (fun j => sm_ushr (M (t + j)) 8) 4) <<< (nI 0 &&& 31)) (nI 0))) (ws' := (sm_wX cI x0 x1 x2 x3 (upd V r (sm_ushr ((sm_lv (fun j => M (t + j) &&& 255) 4) <<< (nI 0 &&& 31)) (nI 0))) (upd S r (sm_ushr ((sm_lv (fun j => sm_ushr (M (t + j)) 8) 4) <<< (nI 0 &&& 31)) (nI 0))) M)) hx hb hK hP hD hS 2 0 rfl rfl (vp_in_nI (n := r) (by omega) (by decide)) dX0_load_102 (by rw [nI_clamp (by omega)]) rfl (fun H locs hP hD hS => ?_)
    exact sm_vret hx hb hrt hlocks hS hP hD dX0_load_103
  · have hl : lv_has ls 9 [(0, .ref x0), (1, .int (nI r)), (2, .int (nI t)), (3, .int 4), (4, .int (sm_bI false)), (5, .int (sm_lv (fun j => M (t + j) &&& 255) k)), (6, .int (sm_lv (fun j => sm_ushr (M (t + j)) 8) k)), (7, .int (nI k))] := hl
    have hP : va_P D vwCl (sm_wX cI x0 x1 x2 x3 V S M) H := hP
    have hD : va_D _ (sm_wX cI x0 x1 x2 x3 V S M) := hD
    refine lv_iload hx hb dX0_load_15 (lv_at hl 7 rfl) ?_
    refine lv_iload_n hx hb dX0_load_17 rfl (lv_at hl 3 rfl) ?_
    refine lv_icmp_ge (tgt := 75) hx hb dX0_load_18 rfl (fun z => absurd z (nI_ge (b := 4) hk (by decide))) (fun _ => ?_)
    refine lv_iload hx hb dX0_load_21 (lv_at hl 7 rfl) ?_
    refine lv_bipush (v := 8) hx hb dX0_load_23 (by decide) ?_
    refine lv_imul hx hb dX0_load_25 ?_
    refine sm_eqi (y := nI (k * 8)) (pk_mul k 8) ?_
    refine lv_istore (lv' := [(8, .int (nI (k * 8))), (0, .ref x0), (1, .int (nI r)), (2, .int (nI t)), (3, .int 4), (4, .int (sm_bI false)), (5, .int (sm_lv (fun j => M (t + j) &&& 255) k)), (6, .int (sm_lv (fun j => sm_ushr (M (t + j)) 8) k)), (7, .int (nI k))]) hx hb dX0_load_26 hl (by decide) rfl (fun ls hl => ?_)
    refine lv_iload hx hb dX0_load_28 (lv_at hl 6 rfl) ?_
    refine lv_aload_n hx hb dX0_load_30 rfl (lv_at hl 1 rfl) ?_
    refine va_get (D := D) (ci := 0) (v := .ref x3) (C := RX0) (T := TX0) (N := 3) hx hb hts inX0 hown hK hP 0 rfl rfl 2 (by decide) (hw 20 rfl) (fun _ h9 => h9) rfl dX0_load_31 ?_
    refine lv_iload_n hx hb dX0_load_34 rfl (lv_at hl 3 rfl) ?_
    refine lv_iload hx hb dX0_load_35 (lv_at hl 8 rfl) ?_
    refine lv_iadd hx hb dX0_load_37 ?_
    refine sm_eqi (y := nI (t + k)) (nI_add t k) ?_
    refine va_iald hx hb hK hP 3 0 rfl rfl (vp_in_nI (n := t + k) (by omega) (by decide)) dX0_load_38 ?_
    refine sm_eqi (y := M (t + k)) (sm_cl M (n := t + k) (by omega)) ?_
    refine lv_sipush (v := 255) hx hb dX0_load_39 (by decide) ?_
    refine lv_iand hx hb dX0_load_42 ?_
    refine lv_iload hx hb dX0_load_43 (lv_at hl 0 rfl) ?_
    refine lv_ishl hx hb dX0_load_45 ?_
    refine lv_ior hx hb dX0_load_46 ?_
    refine sm_eqi (y := sm_lv (fun j => M (t + j) &&& 255) (k + 1)) (rfl) ?_
    refine lv_istore (lv' := [(5, .int (sm_lv (fun j => M (t + j) &&& 255) (k + 1))), (8, .int (nI (k * 8))), (0, .ref x0), (1, .int (nI r)), (2, .int (nI t)), (3, .int 4), (4, .int (sm_bI false)), (6, .int (sm_lv (fun j => sm_ushr (M (t + j)) 8) k)), (7, .int (nI k))]) hx hb dX0_load_47 hl (by decide) rfl (fun ls hl => ?_)
    refine lv_iload hx hb dX0_load_49 (lv_at hl 7 rfl) ?_
    refine lv_aload_n hx hb dX0_load_51 rfl (lv_at hl 2 rfl) ?_
    refine va_get (D := D) (ci := 0) (v := .ref x3) (C := RX0) (T := TX0) (N := 3) hx hb hts inX0 hown hK hP 0 rfl rfl 2 (by decide) (hw 20 rfl) (fun _ h9 => h9) rfl dX0_load_52 ?_
    refine lv_iload_n hx hb dX0_load_55 rfl (lv_at hl 4 rfl) ?_
    refine lv_iload hx hb dX0_load_56 (lv_at hl 8 rfl) ?_
    refine lv_iadd hx hb dX0_load_58 ?_
    refine sm_eqi (y := nI (t + k)) (nI_add t k) ?_
    refine va_iald hx hb hK hP 3 0 rfl rfl (vp_in_nI (n := t + k) (by omega) (by decide)) dX0_load_59 ?_
    refine sm_eqi (y := M (t + k)) (sm_cl M (n := t + k) (by omega)) ?_
    refine lv_bipush (v := 8) hx hb dX0_load_60 (by decide) ?_
    refine lv_iushr (v := sm_ushr (M (t + k)) 8) hx hb dX0_load_62 rfl ?_
    refine lv_iload hx hb dX0_load_63 (lv_at hl 1 rfl) ?_
    refine lv_ishl hx hb dX0_load_65 ?_
    refine lv_ior hx hb dX0_load_66 ?_
    refine sm_eqi (y := sm_lv (fun j => sm_ushr (M (t + j)) 8) (k + 1)) (rfl) ?_
    refine lv_istore (lv' := [(6, .int (sm_lv (fun j => sm_ushr (M (t + j)) 8) (k + 1))), (5, .int (sm_lv (fun j => M (t + j) &&& 255) (k + 1))), (8, .int (nI (k * 8))), (0, .ref x0), (1, .int (nI r)), (2, .int (nI t)), (3, .int 4), (4, .int (sm_bI false)), (7, .int (nI k))]) hx hb dX0_load_67 hl (by decide) rfl (fun ls hl => ?_)
    refine lv_iinc (k := 8) (v := nI (k + 1)) (lv' := [(7, .int (nI (k + 1))), (6, .int (sm_lv (fun j => sm_ushr (M (t + j)) 8) (k + 1))), (5, .int (sm_lv (fun j => M (t + j) &&& 255) (k + 1))), (8, .int (nI (k * 8))), (0, .ref x0), (1, .int (nI r)), (2, .int (nI t)), (3, .int 4), (4, .int (sm_bI false))]) hx hb dX0_load_69 hl rfl (sm_inc k) (by decide) rfl (fun ls hl => ?_)
    refine lv_goto (tgt := 15) hx hb dX0_load_72 rfl ?_
    exact ih _ _ _ (lv_sub hl [4, 5, 6, 7, 8, 2, 1, 0] rfl) (sm_cP (rfl) hP) (sm_cD (rfl) hD) hS
set_option maxHeartbeats 4000000 in
set_option maxRecDepth 100000 in
theorem c_count (l : Launch) (D : va_G) (cI : ClassId) (x0 x1 x2 x3 : Nat) (V S M : Nat → Int32) : sm_C l yX0_count wsX0_count ({ frames := 1, cells := 0, slots := 0, locals := 20 } : Room) D vwCl [(cI, .int)] [.ref x0] (sm_wX cI x0 x1 x2 x3 V S M) (some (.int (nI (sm_cn S 16)))) (sm_wX cI x0 x1 x2 x3 V S M) := by
  refine sm_start (cc := cX0_count) (maxL := 3) (ret := some .int) (lv := [(0, .ref x0)]) (by decide) rfl (Nat.le_of_ble_eq_true rfl) rfl ?_
  intro p e s m below meth c hx hb hrt hts hown hlocks hml hin hK hP hD hS hA ls hl
  have hw := sm_hw hts
  refine lv_iconst (v := 0) hx hb dX0_count_0 (by decide) ?_
  refine lv_istore_n (lv' := [(1, .int 0), (0, .ref x0)]) hx hb dX0_count_1 rfl hl (by decide) rfl (fun ls hl => ?_)
  refine lv_iconst (v := 0) hx hb dX0_count_2 (by decide) ?_
  refine lv_istore_n (lv' := [(2, .int 0), (1, .int 0), (0, .ref x0)]) hx hb dX0_count_3 rfl hl (by decide) rfl (fun ls hl => ?_)
  refine sm_loopW (nL := 3) (lv := fun k => [(0, .ref x0), (1, .int (nI (sm_cn S k))), (2, .int (nI k))]) (w := fun k => (sm_wX cI x0 x1 x2 x3 V S M)) 16 (fun H locs ls hl hP hD hS => ?_) (fun k hk ih H locs ls hl hP hD hS => ?_) (lv_sub hl [2, 1, 0] rfl) (sm_cP (rfl) hP) (sm_cD (rfl) hD) hS
  · have hl : lv_has ls 3 [(0, .ref x0), (1, .int (nI (sm_cn S 16))), (2, .int (nI 16))] := hl
    have hP : va_P D vwCl (sm_wX cI x0 x1 x2 x3 V S M) H := hP
    have hD : va_D _ (sm_wX cI x0 x1 x2 x3 V S M) := hD
    refine lv_iload_n hx hb dX0_count_4 rfl (lv_at hl 2 rfl) ?_
    refine lv_bipush (v := 16) hx hb dX0_count_5 (by decide) ?_
    refine lv_icmp_ge (tgt := 28) hx hb dX0_count_7 rfl (fun _ => ?_) (fun z => absurd (by decide) z)
    refine lv_iload_n hx hb dX0_count_28 rfl (lv_at hl 1 rfl) ?_
    exact sm_iret hx hb hrt hlocks hS hP hD dX0_count_29
  · have hl : lv_has ls 3 [(0, .ref x0), (1, .int (nI (sm_cn S k))), (2, .int (nI k))] := hl
    have hP : va_P D vwCl (sm_wX cI x0 x1 x2 x3 V S M) H := hP
    have hD : va_D _ (sm_wX cI x0 x1 x2 x3 V S M) := hD
    refine lv_iload_n hx hb dX0_count_4 rfl (lv_at hl 2 rfl) ?_
    refine lv_bipush (v := 16) hx hb dX0_count_5 (by decide) ?_
    refine lv_icmp_ge (tgt := 28) hx hb dX0_count_7 rfl (fun z => absurd z (nI_ge (b := 16) hk (by decide))) (fun _ => ?_)
    refine lv_iload_n hx hb dX0_count_10 rfl (lv_at hl 1 rfl) ?_
    refine lv_aload_n hx hb dX0_count_11 rfl (lv_at hl 0 rfl) ?_
    refine va_get (D := D) (ci := 0) (v := .ref x2) (C := RX0) (T := TX0) (N := 3) hx hb hts inX0 hown hK hP 0 rfl rfl 1 (by decide) (hw 19 rfl) (fun _ h9 => h9) rfl dX0_count_12 ?_
    refine lv_iload_n hx hb dX0_count_15 rfl (lv_at hl 2 rfl) ?_
    refine va_iald hx hb hK hP 2 0 rfl rfl (vp_in_nI (n := k) (by omega) (by decide)) dX0_count_16 ?_
    refine sm_eqi (y := S k) (sm_cl S (n := k) (by omega)) ?_
    refine sm_callS (As := [.int (S k)]) (rest := [.int (nI (sm_cn S k))]) (wr := (sm_wX cI x0 x1 x2 x3 V S M)) (wn := (sm_wX cI x0 x1 x2 x3 V S M)) (st1 := [.int (nI (sm_pc (bt (S k)) 32)), .int (nI (sm_cn S k))]) ⟨hx, hb, hml, hown, hts⟩ (c_bitCount l D (S k)) (va_cwS 1 hts (sm_gS (i1 := 33) (i2 := 34) (i4 := 8) (i5 := 35) rfl rfl rfl rfl) rfl rfl rfl (by decide +kernel) ⟨Nat.le_of_ble_eq_true rfl, Nat.le_of_ble_eq_true rfl⟩) hK [] rfl hP hD hS hA [] [0, 1, 2, 3] rfl rfl (by decide) (by decide) (by decide) rfl hl.1 rfl (Nat.le_of_ble_eq_true rfl) dX0_count_17 ⟨Nat.le_of_ble_eq_true rfl, Nat.le_of_ble_eq_true rfl⟩ rfl rfl (fun H locs hP hD hS => ?_)
    refine lv_iadd hx hb dX0_count_20 ?_
    refine sm_eqi (y := nI (sm_cn S (k + 1))) (nI_add _ _) ?_
    refine lv_istore_n (lv' := [(1, .int (nI (sm_cn S (k + 1)))), (0, .ref x0), (2, .int (nI k))]) hx hb dX0_count_21 rfl hl (by decide) rfl (fun ls hl => ?_)
    refine lv_iinc (k := 2) (v := nI (k + 1)) (lv' := [(2, .int (nI (k + 1))), (1, .int (nI (sm_cn S (k + 1)))), (0, .ref x0)]) hx hb dX0_count_22 hl rfl (sm_inc k) (by decide) rfl (fun ls hl => ?_)
    refine lv_goto (tgt := 4) hx hb dX0_count_25 rfl ?_
    exact ih _ _ _ (lv_sub hl [2, 1, 0] rfl) (sm_cP (rfl) hP) (sm_cD (rfl) hD) hS
