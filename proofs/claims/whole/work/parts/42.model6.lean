set_option maxHeartbeats 4000000 in
set_option maxRecDepth 100000 in
theorem c_mop_x0 (l : Launch) (D : va_G) (cZ : ClassId) (m0 m1 m2 m3 m4 m5 m6 : Nat) (err : Int32) (V S M : Nat → Int32) (O G : Int32) (o d a b : Int32) (ho : o < 0 ∨ 12 < o) : sm_C l yX1_op wsX1_op ({ frames := 5, cells := 0, slots := 0, locals := 140 } : Room) D vwCl [(cZ, .boolean)] [.ref m0, .int o, .int d, .int a, .int b] (sm_wM cZ m0 m1 m2 m3 m4 m5 m6 err (sm_fb V) (sm_fb S) (sm_fo M) (sm_fl M) (sm_fw O) (sm_fw G)) none (sm_wM cZ m0 m1 m2 m3 m4 m5 m6 1 (sm_fb V) (sm_fb S) (sm_fo M) (sm_fl M) (sm_fw O) (sm_fw G)) := by
  refine sm_start (cc := cX1_op) (maxL := 11) (ret := none) (lv := [(0, .ref m0), (1, .int o), (2, .int d), (3, .int a), (4, .int b)]) (by decide) rfl (Nat.le_of_ble_eq_true rfl) rfl ?_
  intro p e s m below meth c hx hb hrt hts hown hlocks hml hin hK hP hD hS hA ls hl
  have hw := sm_hw hts
  refine lv_aload_n hx hb dX1_op_0 rfl (lv_at hl 0 rfl) ?_
  refine lv_iload_n hx hb dX1_op_1 rfl (lv_at hl 1 rfl) ?_
  refine lv_if_lt (tgt := 11) hx hb dX1_op_2 rfl (fun h2 => ?_) (fun h2 => ?_)
  · refine lv_iconst (v := 1) hx hb dX1_op_11 (by decide) ?_
    refine lv_goto (tgt := 16) hx hb dX1_op_12 rfl ?_
    refine lv_iconst (v := 1) hx hb dX1_op_16 (by decide) ?_
    refine sm_callV (C := RX1) (As := [.int (sm_bI true), .int 1]) (rest := []) (wr := []) (wn := (sm_wM cZ m0 m1 m2 m3 m4 m5 m6 1 (sm_fb V) (sm_fb S) (sm_fo M) (sm_fl M) (sm_fw O) (sm_fw G))) (st1 := [.int (sm_bI true)]) ⟨hx, hb, hml, hown, hts⟩ (c_fails_t l D cZ m0 m1 m2 m3 m4 m5 m6 err V S M O G 1) (cwV 2 hts (sm_gV (i1 := 266) (i2 := 267) (i3 := 348) (i4 := 2) (i5 := 268) rfl rfl rfl rfl rfl) rfl rfl rfl (by decide +kernel) ⟨Nat.le_of_ble_eq_true rfl, Nat.le_of_ble_eq_true rfl⟩) hK [0] rfl hP hD hS hA 0 rfl rfl [0, 1, 2, 3, 4, 5, 6] [] rfl rfl (by decide) (by decide) (by decide) rfl hl.1 rfl (Nat.le_of_ble_eq_true rfl) dX1_op_17 ⟨Nat.le_of_ble_eq_true rfl, Nat.le_of_ble_eq_true rfl⟩ rfl rfl (fun H locs hP hD hS => ?_)
    refine lv_if_eq (tgt := 24) hx hb dX1_op_20 rfl (fun z => absurd z (by decide)) (fun _ => ?_)
    exact sm_vret hx hb hrt hlocks hS hP hD dX1_op_23
  · refine lv_iload_n hx hb dX1_op_5 rfl (lv_at hl 1 rfl) ?_
    refine lv_bipush (v := 12) hx hb dX1_op_6 (by decide) ?_
    refine lv_icmp_le (tgt := 15) hx hb dX1_op_8 rfl (fun z => absurd z (sm_orl ho h2)) (fun _ => ?_)
    refine lv_iconst (v := 1) hx hb dX1_op_11 (by decide) ?_
    refine lv_goto (tgt := 16) hx hb dX1_op_12 rfl ?_
    refine lv_iconst (v := 1) hx hb dX1_op_16 (by decide) ?_
    refine sm_callV (C := RX1) (As := [.int (sm_bI true), .int 1]) (rest := []) (wr := []) (wn := (sm_wM cZ m0 m1 m2 m3 m4 m5 m6 1 (sm_fb V) (sm_fb S) (sm_fo M) (sm_fl M) (sm_fw O) (sm_fw G))) (st1 := [.int (sm_bI true)]) ⟨hx, hb, hml, hown, hts⟩ (c_fails_t l D cZ m0 m1 m2 m3 m4 m5 m6 err V S M O G 1) (cwV 2 hts (sm_gV (i1 := 266) (i2 := 267) (i3 := 348) (i4 := 2) (i5 := 268) rfl rfl rfl rfl rfl) rfl rfl rfl (by decide +kernel) ⟨Nat.le_of_ble_eq_true rfl, Nat.le_of_ble_eq_true rfl⟩) hK [0] rfl hP hD hS hA 0 rfl rfl [0, 1, 2, 3, 4, 5, 6] [] rfl rfl (by decide) (by decide) (by decide) rfl hl.1 rfl (Nat.le_of_ble_eq_true rfl) dX1_op_17 ⟨Nat.le_of_ble_eq_true rfl, Nat.le_of_ble_eq_true rfl⟩ rfl rfl (fun H locs hP hD hS => ?_)
    refine lv_if_eq (tgt := 24) hx hb dX1_op_20 rfl (fun z => absurd z (by decide)) (fun _ => ?_)
    exact sm_vret hx hb hrt hlocks hS hP hD dX1_op_23
set_option maxHeartbeats 4000000 in
set_option maxRecDepth 100000 in
theorem c_mop_x1 (l : Launch) (D : va_G) (cZ : ClassId) (m0 m1 m2 m3 m4 m5 m6 : Nat) (err : Int32) (V S M : Nat → Int32) (O G : Int32) (o : Nat) (ho : o < 13) (a b : Int32) (i : Int32) (hi : i < 0 ∨ 16 ≤ i) : sm_C l yX1_op wsX1_op ({ frames := 5, cells := 0, slots := 0, locals := 140 } : Room) D vwCl [(cZ, .boolean)] [.ref m0, .int (nI o), .int i, .int a, .int b] (sm_wM cZ m0 m1 m2 m3 m4 m5 m6 err (sm_fb V) (sm_fb S) (sm_fo M) (sm_fl M) (sm_fw O) (sm_fw G)) none (sm_wM cZ m0 m1 m2 m3 m4 m5 m6 2 (sm_fb V) (sm_fb S) (sm_fo M) (sm_fl M) (sm_fw O) (sm_fw G)) := by
  refine sm_start (cc := cX1_op) (maxL := 11) (ret := none) (lv := [(0, .ref m0), (1, .int (nI o)), (2, .int i), (3, .int a), (4, .int b)]) (by decide) rfl (Nat.le_of_ble_eq_true rfl) rfl ?_
  intro p e s m below meth c hx hb hrt hts hown hlocks hml hin hK hP hD hS hA ls hl
  have hw := sm_hw hts
  refine lv_aload_n hx hb dX1_op_0 rfl (lv_at hl 0 rfl) ?_
  refine lv_iload_n hx hb dX1_op_1 rfl (lv_at hl 1 rfl) ?_
  refine lv_if_lt (tgt := 11) hx hb dX1_op_2 rfl (fun z => absurd z (nI_pos (by omega))) (fun _ => ?_)
  refine lv_iload_n hx hb dX1_op_5 rfl (lv_at hl 1 rfl) ?_
  refine lv_bipush (v := 12) hx hb dX1_op_6 (by decide) ?_
  refine lv_icmp_le (tgt := 15) hx hb dX1_op_8 rfl (fun _ => ?_) (fun z => absurd (nI_le (b := 12) (by omega) (by decide)) z)
  refine lv_iconst (v := 0) hx hb dX1_op_15 (by decide) ?_
  refine lv_iconst (v := 1) hx hb dX1_op_16 (by decide) ?_
  refine sm_callV (C := RX1) (As := [.int (sm_bI false), .int 1]) (rest := []) (wr := []) (wn := (sm_wM cZ m0 m1 m2 m3 m4 m5 m6 0 (sm_fb V) (sm_fb S) (sm_fo M) (sm_fl M) (sm_fw O) (sm_fw G))) (st1 := [.int (sm_bI false)]) ⟨hx, hb, hml, hown, hts⟩ (c_fails_f l D cZ m0 m1 m2 m3 m4 m5 m6 err V S M O G 1) (cwV 2 hts (sm_gV (i1 := 266) (i2 := 267) (i3 := 348) (i4 := 2) (i5 := 268) rfl rfl rfl rfl rfl) rfl rfl rfl (by decide +kernel) ⟨Nat.le_of_ble_eq_true rfl, Nat.le_of_ble_eq_true rfl⟩) hK [0] rfl hP hD hS hA 0 rfl rfl [0, 1, 2, 3, 4, 5, 6] [] rfl rfl (by decide) (by decide) (by decide) rfl hl.1 rfl (Nat.le_of_ble_eq_true rfl) dX1_op_17 ⟨Nat.le_of_ble_eq_true rfl, Nat.le_of_ble_eq_true rfl⟩ rfl rfl (fun H locs hP hD hS => ?_)
  refine lv_if_eq (tgt := 24) hx hb dX1_op_20 rfl (fun _ => ?_) (fun z => absurd (by decide) z)
  refine lv_aload_n hx hb dX1_op_24 rfl (lv_at hl 0 rfl) ?_
  refine lv_iload_n hx hb dX1_op_25 rfl (lv_at hl 2 rfl) ?_
  refine sm_callS (As := [.int i]) (rest := [.ref m0]) (wr := (sm_wM cZ m0 m1 m2 m3 m4 m5 m6 0 (sm_fb V) (sm_fb S) (sm_fo M) (sm_fl M) (sm_fw O) (sm_fw G))) (wn := (sm_wM cZ m0 m1 m2 m3 m4 m5 m6 0 (sm_fb V) (sm_fb S) (sm_fo M) (sm_fl M) (sm_fw O) (sm_fw G))) (st1 := [.int (sm_bI true), .ref m0]) ⟨hx, hb, hml, hown, hts⟩ (c_none_t l D i hi) (va_cwS 1 hts (sm_gS (i1 := 263) (i2 := 264) (i4 := 2) (i5 := 265) rfl rfl rfl rfl) rfl rfl rfl (by decide +kernel) ⟨Nat.le_of_ble_eq_true rfl, Nat.le_of_ble_eq_true rfl⟩) hK [] rfl hP hD hS hA [] [0, 1, 2, 3, 4, 5, 6] rfl rfl (by decide) (by decide) (by decide) rfl hl.1 rfl (Nat.le_of_ble_eq_true rfl) dX1_op_26 ⟨Nat.le_of_ble_eq_true rfl, Nat.le_of_ble_eq_true rfl⟩ rfl rfl (fun H locs hP hD hS => ?_)
  refine lv_if_ne (tgt := 47) hx hb dX1_op_29 rfl (fun _ => ?_) (fun z => absurd z (by decide))
  refine lv_iconst (v := 1) hx hb dX1_op_47 (by decide) ?_
  refine lv_goto (tgt := 52) hx hb dX1_op_48 rfl ?_
  refine lv_iconst (v := 2) hx hb dX1_op_52 (by decide) ?_
  refine sm_callV (C := RX1) (As := [.int (sm_bI true), .int 2]) (rest := []) (wr := []) (wn := (sm_wM cZ m0 m1 m2 m3 m4 m5 m6 2 (sm_fb V) (sm_fb S) (sm_fo M) (sm_fl M) (sm_fw O) (sm_fw G))) (st1 := [.int (sm_bI true)]) ⟨hx, hb, hml, hown, hts⟩ (c_fails_t l D cZ m0 m1 m2 m3 m4 m5 m6 0 V S M O G 2) (cwV 2 hts (sm_gV (i1 := 266) (i2 := 267) (i3 := 348) (i4 := 2) (i5 := 268) rfl rfl rfl rfl rfl) rfl rfl rfl (by decide +kernel) ⟨Nat.le_of_ble_eq_true rfl, Nat.le_of_ble_eq_true rfl⟩) hK [0] rfl hP hD hS hA 0 rfl rfl [0, 1, 2, 3, 4, 5, 6] [] rfl rfl (by decide) (by decide) (by decide) rfl hl.1 rfl (Nat.le_of_ble_eq_true rfl) dX1_op_53 ⟨Nat.le_of_ble_eq_true rfl, Nat.le_of_ble_eq_true rfl⟩ rfl rfl (fun H locs hP hD hS => ?_)
  refine lv_if_eq (tgt := 60) hx hb dX1_op_56 rfl (fun z => absurd z (by decide)) (fun _ => ?_)
  exact sm_vret hx hb hrt hlocks hS hP hD dX1_op_59
set_option maxHeartbeats 4000000 in
set_option maxRecDepth 100000 in
theorem c_mop_x2 (l : Launch) (D : va_G) (cZ : ClassId) (m0 m1 m2 m3 m4 m5 m6 : Nat) (err : Int32) (V S M : Nat → Int32) (O G : Int32) (o d : Nat) (ho : o < 13) (hd : d < 16) (b : Int32) (i : Int32) (hi : i < 0 ∨ 16 ≤ i) : sm_C l yX1_op wsX1_op ({ frames := 5, cells := 0, slots := 0, locals := 140 } : Room) D vwCl [(cZ, .boolean)] [.ref m0, .int (nI o), .int (nI d), .int i, .int b] (sm_wM cZ m0 m1 m2 m3 m4 m5 m6 err (sm_fb V) (sm_fb S) (sm_fo M) (sm_fl M) (sm_fw O) (sm_fw G)) none (sm_wM cZ m0 m1 m2 m3 m4 m5 m6 2 (sm_fb V) (sm_fb S) (sm_fo M) (sm_fl M) (sm_fw O) (sm_fw G)) := by
  refine sm_start (cc := cX1_op) (maxL := 11) (ret := none) (lv := [(0, .ref m0), (1, .int (nI o)), (2, .int (nI d)), (3, .int i), (4, .int b)]) (by decide) rfl (Nat.le_of_ble_eq_true rfl) rfl ?_
  intro p e s m below meth c hx hb hrt hts hown hlocks hml hin hK hP hD hS hA ls hl
  have hw := sm_hw hts
  refine lv_aload_n hx hb dX1_op_0 rfl (lv_at hl 0 rfl) ?_
  refine lv_iload_n hx hb dX1_op_1 rfl (lv_at hl 1 rfl) ?_
  refine lv_if_lt (tgt := 11) hx hb dX1_op_2 rfl (fun z => absurd z (nI_pos (by omega))) (fun _ => ?_)
  refine lv_iload_n hx hb dX1_op_5 rfl (lv_at hl 1 rfl) ?_
  refine lv_bipush (v := 12) hx hb dX1_op_6 (by decide) ?_
  refine lv_icmp_le (tgt := 15) hx hb dX1_op_8 rfl (fun _ => ?_) (fun z => absurd (nI_le (b := 12) (by omega) (by decide)) z)
  refine lv_iconst (v := 0) hx hb dX1_op_15 (by decide) ?_
  refine lv_iconst (v := 1) hx hb dX1_op_16 (by decide) ?_
  refine sm_callV (C := RX1) (As := [.int (sm_bI false), .int 1]) (rest := []) (wr := []) (wn := (sm_wM cZ m0 m1 m2 m3 m4 m5 m6 0 (sm_fb V) (sm_fb S) (sm_fo M) (sm_fl M) (sm_fw O) (sm_fw G))) (st1 := [.int (sm_bI false)]) ⟨hx, hb, hml, hown, hts⟩ (c_fails_f l D cZ m0 m1 m2 m3 m4 m5 m6 err V S M O G 1) (cwV 2 hts (sm_gV (i1 := 266) (i2 := 267) (i3 := 348) (i4 := 2) (i5 := 268) rfl rfl rfl rfl rfl) rfl rfl rfl (by decide +kernel) ⟨Nat.le_of_ble_eq_true rfl, Nat.le_of_ble_eq_true rfl⟩) hK [0] rfl hP hD hS hA 0 rfl rfl [0, 1, 2, 3, 4, 5, 6] [] rfl rfl (by decide) (by decide) (by decide) rfl hl.1 rfl (Nat.le_of_ble_eq_true rfl) dX1_op_17 ⟨Nat.le_of_ble_eq_true rfl, Nat.le_of_ble_eq_true rfl⟩ rfl rfl (fun H locs hP hD hS => ?_)
  refine lv_if_eq (tgt := 24) hx hb dX1_op_20 rfl (fun _ => ?_) (fun z => absurd (by decide) z)
  refine lv_aload_n hx hb dX1_op_24 rfl (lv_at hl 0 rfl) ?_
  refine lv_iload_n hx hb dX1_op_25 rfl (lv_at hl 2 rfl) ?_
  refine sm_callS (As := [.int (nI d)]) (rest := [.ref m0]) (wr := (sm_wM cZ m0 m1 m2 m3 m4 m5 m6 0 (sm_fb V) (sm_fb S) (sm_fo M) (sm_fl M) (sm_fw O) (sm_fw G))) (wn := (sm_wM cZ m0 m1 m2 m3 m4 m5 m6 0 (sm_fb V) (sm_fb S) (sm_fo M) (sm_fl M) (sm_fw O) (sm_fw G))) (st1 := [.int (sm_bI false), .ref m0]) ⟨hx, hb, hml, hown, hts⟩ (c_none_f l D d (by omega)) (va_cwS 1 hts (sm_gS (i1 := 263) (i2 := 264) (i4 := 2) (i5 := 265) rfl rfl rfl rfl) rfl rfl rfl (by decide +kernel) ⟨Nat.le_of_ble_eq_true rfl, Nat.le_of_ble_eq_true rfl⟩) hK [] rfl hP hD hS hA [] [0, 1, 2, 3, 4, 5, 6] rfl rfl (by decide) (by decide) (by decide) rfl hl.1 rfl (Nat.le_of_ble_eq_true rfl) dX1_op_26 ⟨Nat.le_of_ble_eq_true rfl, Nat.le_of_ble_eq_true rfl⟩ rfl rfl (fun H locs hP hD hS => ?_)
  refine lv_if_ne (tgt := 47) hx hb dX1_op_29 rfl (fun z => absurd (by decide) z) (fun _ => ?_)
  refine lv_iload_n hx hb dX1_op_32 rfl (lv_at hl 3 rfl) ?_
  refine sm_callS (As := [.int i]) (rest := [.ref m0]) (wr := (sm_wM cZ m0 m1 m2 m3 m4 m5 m6 0 (sm_fb V) (sm_fb S) (sm_fo M) (sm_fl M) (sm_fw O) (sm_fw G))) (wn := (sm_wM cZ m0 m1 m2 m3 m4 m5 m6 0 (sm_fb V) (sm_fb S) (sm_fo M) (sm_fl M) (sm_fw O) (sm_fw G))) (st1 := [.int (sm_bI true), .ref m0]) ⟨hx, hb, hml, hown, hts⟩ (c_none_t l D i hi) (va_cwS 1 hts (sm_gS (i1 := 263) (i2 := 264) (i4 := 2) (i5 := 265) rfl rfl rfl rfl) rfl rfl rfl (by decide +kernel) ⟨Nat.le_of_ble_eq_true rfl, Nat.le_of_ble_eq_true rfl⟩) hK [] rfl hP hD hS hA [] [0, 1, 2, 3, 4, 5, 6] rfl rfl (by decide) (by decide) (by decide) rfl hl.1 rfl (Nat.le_of_ble_eq_true rfl) dX1_op_33 ⟨Nat.le_of_ble_eq_true rfl, Nat.le_of_ble_eq_true rfl⟩ rfl rfl (fun H locs hP hD hS => ?_)
  refine lv_if_ne (tgt := 47) hx hb dX1_op_36 rfl (fun _ => ?_) (fun z => absurd z (by decide))
  refine lv_iconst (v := 1) hx hb dX1_op_47 (by decide) ?_
  refine lv_goto (tgt := 52) hx hb dX1_op_48 rfl ?_
  refine lv_iconst (v := 2) hx hb dX1_op_52 (by decide) ?_
  refine sm_callV (C := RX1) (As := [.int (sm_bI true), .int 2]) (rest := []) (wr := []) (wn := (sm_wM cZ m0 m1 m2 m3 m4 m5 m6 2 (sm_fb V) (sm_fb S) (sm_fo M) (sm_fl M) (sm_fw O) (sm_fw G))) (st1 := [.int (sm_bI true)]) ⟨hx, hb, hml, hown, hts⟩ (c_fails_t l D cZ m0 m1 m2 m3 m4 m5 m6 0 V S M O G 2) (cwV 2 hts (sm_gV (i1 := 266) (i2 := 267) (i3 := 348) (i4 := 2) (i5 := 268) rfl rfl rfl rfl rfl) rfl rfl rfl (by decide +kernel) ⟨Nat.le_of_ble_eq_true rfl, Nat.le_of_ble_eq_true rfl⟩) hK [0] rfl hP hD hS hA 0 rfl rfl [0, 1, 2, 3, 4, 5, 6] [] rfl rfl (by decide) (by decide) (by decide) rfl hl.1 rfl (Nat.le_of_ble_eq_true rfl) dX1_op_53 ⟨Nat.le_of_ble_eq_true rfl, Nat.le_of_ble_eq_true rfl⟩ rfl rfl (fun H locs hP hD hS => ?_)
  refine lv_if_eq (tgt := 60) hx hb dX1_op_56 rfl (fun z => absurd z (by decide)) (fun _ => ?_)
  exact sm_vret hx hb hrt hlocks hS hP hD dX1_op_59
set_option maxHeartbeats 4000000 in
set_option maxRecDepth 100000 in
theorem c_mop_x3 (l : Launch) (D : va_G) (cZ : ClassId) (m0 m1 m2 m3 m4 m5 m6 : Nat) (err : Int32) (V S M : Nat → Int32) (O G : Int32) (o d a : Nat) (ho : o < 13) (hd : d < 16) (ha : a < 16) (i : Int32) (hi : i < 0 ∨ 16 ≤ i) : sm_C l yX1_op wsX1_op ({ frames := 5, cells := 0, slots := 0, locals := 140 } : Room) D vwCl [(cZ, .boolean)] [.ref m0, .int (nI o), .int (nI d), .int (nI a), .int i] (sm_wM cZ m0 m1 m2 m3 m4 m5 m6 err (sm_fb V) (sm_fb S) (sm_fo M) (sm_fl M) (sm_fw O) (sm_fw G)) none (sm_wM cZ m0 m1 m2 m3 m4 m5 m6 2 (sm_fb V) (sm_fb S) (sm_fo M) (sm_fl M) (sm_fw O) (sm_fw G)) := by
  refine sm_start (cc := cX1_op) (maxL := 11) (ret := none) (lv := [(0, .ref m0), (1, .int (nI o)), (2, .int (nI d)), (3, .int (nI a)), (4, .int i)]) (by decide) rfl (Nat.le_of_ble_eq_true rfl) rfl ?_
  intro p e s m below meth c hx hb hrt hts hown hlocks hml hin hK hP hD hS hA ls hl
  have hw := sm_hw hts
  refine lv_aload_n hx hb dX1_op_0 rfl (lv_at hl 0 rfl) ?_
  refine lv_iload_n hx hb dX1_op_1 rfl (lv_at hl 1 rfl) ?_
  refine lv_if_lt (tgt := 11) hx hb dX1_op_2 rfl (fun z => absurd z (nI_pos (by omega))) (fun _ => ?_)
  refine lv_iload_n hx hb dX1_op_5 rfl (lv_at hl 1 rfl) ?_
  refine lv_bipush (v := 12) hx hb dX1_op_6 (by decide) ?_
  refine lv_icmp_le (tgt := 15) hx hb dX1_op_8 rfl (fun _ => ?_) (fun z => absurd (nI_le (b := 12) (by omega) (by decide)) z)
  refine lv_iconst (v := 0) hx hb dX1_op_15 (by decide) ?_
  refine lv_iconst (v := 1) hx hb dX1_op_16 (by decide) ?_
  refine sm_callV (C := RX1) (As := [.int (sm_bI false), .int 1]) (rest := []) (wr := []) (wn := (sm_wM cZ m0 m1 m2 m3 m4 m5 m6 0 (sm_fb V) (sm_fb S) (sm_fo M) (sm_fl M) (sm_fw O) (sm_fw G))) (st1 := [.int (sm_bI false)]) ⟨hx, hb, hml, hown, hts⟩ (c_fails_f l D cZ m0 m1 m2 m3 m4 m5 m6 err V S M O G 1) (cwV 2 hts (sm_gV (i1 := 266) (i2 := 267) (i3 := 348) (i4 := 2) (i5 := 268) rfl rfl rfl rfl rfl) rfl rfl rfl (by decide +kernel) ⟨Nat.le_of_ble_eq_true rfl, Nat.le_of_ble_eq_true rfl⟩) hK [0] rfl hP hD hS hA 0 rfl rfl [0, 1, 2, 3, 4, 5, 6] [] rfl rfl (by decide) (by decide) (by decide) rfl hl.1 rfl (Nat.le_of_ble_eq_true rfl) dX1_op_17 ⟨Nat.le_of_ble_eq_true rfl, Nat.le_of_ble_eq_true rfl⟩ rfl rfl (fun H locs hP hD hS => ?_)
  refine lv_if_eq (tgt := 24) hx hb dX1_op_20 rfl (fun _ => ?_) (fun z => absurd (by decide) z)
  refine lv_aload_n hx hb dX1_op_24 rfl (lv_at hl 0 rfl) ?_
  refine lv_iload_n hx hb dX1_op_25 rfl (lv_at hl 2 rfl) ?_
  refine sm_callS (As := [.int (nI d)]) (rest := [.ref m0]) (wr := (sm_wM cZ m0 m1 m2 m3 m4 m5 m6 0 (sm_fb V) (sm_fb S) (sm_fo M) (sm_fl M) (sm_fw O) (sm_fw G))) (wn := (sm_wM cZ m0 m1 m2 m3 m4 m5 m6 0 (sm_fb V) (sm_fb S) (sm_fo M) (sm_fl M) (sm_fw O) (sm_fw G))) (st1 := [.int (sm_bI false), .ref m0]) ⟨hx, hb, hml, hown, hts⟩ (c_none_f l D d (by omega)) (va_cwS 1 hts (sm_gS (i1 := 263) (i2 := 264) (i4 := 2) (i5 := 265) rfl rfl rfl rfl) rfl rfl rfl (by decide +kernel) ⟨Nat.le_of_ble_eq_true rfl, Nat.le_of_ble_eq_true rfl⟩) hK [] rfl hP hD hS hA [] [0, 1, 2, 3, 4, 5, 6] rfl rfl (by decide) (by decide) (by decide) rfl hl.1 rfl (Nat.le_of_ble_eq_true rfl) dX1_op_26 ⟨Nat.le_of_ble_eq_true rfl, Nat.le_of_ble_eq_true rfl⟩ rfl rfl (fun H locs hP hD hS => ?_)
  refine lv_if_ne (tgt := 47) hx hb dX1_op_29 rfl (fun z => absurd (by decide) z) (fun _ => ?_)
  refine lv_iload_n hx hb dX1_op_32 rfl (lv_at hl 3 rfl) ?_
  refine sm_callS (As := [.int (nI a)]) (rest := [.ref m0]) (wr := (sm_wM cZ m0 m1 m2 m3 m4 m5 m6 0 (sm_fb V) (sm_fb S) (sm_fo M) (sm_fl M) (sm_fw O) (sm_fw G))) (wn := (sm_wM cZ m0 m1 m2 m3 m4 m5 m6 0 (sm_fb V) (sm_fb S) (sm_fo M) (sm_fl M) (sm_fw O) (sm_fw G))) (st1 := [.int (sm_bI false), .ref m0]) ⟨hx, hb, hml, hown, hts⟩ (c_none_f l D a (by omega)) (va_cwS 1 hts (sm_gS (i1 := 263) (i2 := 264) (i4 := 2) (i5 := 265) rfl rfl rfl rfl) rfl rfl rfl (by decide +kernel) ⟨Nat.le_of_ble_eq_true rfl, Nat.le_of_ble_eq_true rfl⟩) hK [] rfl hP hD hS hA [] [0, 1, 2, 3, 4, 5, 6] rfl rfl (by decide) (by decide) (by decide) rfl hl.1 rfl (Nat.le_of_ble_eq_true rfl) dX1_op_33 ⟨Nat.le_of_ble_eq_true rfl, Nat.le_of_ble_eq_true rfl⟩ rfl rfl (fun H locs hP hD hS => ?_)
  refine lv_if_ne (tgt := 47) hx hb dX1_op_36 rfl (fun z => absurd (by decide) z) (fun _ => ?_)
  refine lv_iload hx hb dX1_op_39 (lv_at hl 4 rfl) ?_
  refine sm_callS (As := [.int i]) (rest := [.ref m0]) (wr := (sm_wM cZ m0 m1 m2 m3 m4 m5 m6 0 (sm_fb V) (sm_fb S) (sm_fo M) (sm_fl M) (sm_fw O) (sm_fw G))) (wn := (sm_wM cZ m0 m1 m2 m3 m4 m5 m6 0 (sm_fb V) (sm_fb S) (sm_fo M) (sm_fl M) (sm_fw O) (sm_fw G))) (st1 := [.int (sm_bI true), .ref m0]) ⟨hx, hb, hml, hown, hts⟩ (c_none_t l D i hi) (va_cwS 1 hts (sm_gS (i1 := 263) (i2 := 264) (i4 := 2) (i5 := 265) rfl rfl rfl rfl) rfl rfl rfl (by decide +kernel) ⟨Nat.le_of_ble_eq_true rfl, Nat.le_of_ble_eq_true rfl⟩) hK [] rfl hP hD hS hA [] [0, 1, 2, 3, 4, 5, 6] rfl rfl (by decide) (by decide) (by decide) rfl hl.1 rfl (Nat.le_of_ble_eq_true rfl) dX1_op_41 ⟨Nat.le_of_ble_eq_true rfl, Nat.le_of_ble_eq_true rfl⟩ rfl rfl (fun H locs hP hD hS => ?_)
  refine lv_if_eq (tgt := 51) hx hb dX1_op_44 rfl (fun z => absurd z (by decide)) (fun _ => ?_)
  refine lv_iconst (v := 1) hx hb dX1_op_47 (by decide) ?_
  refine lv_goto (tgt := 52) hx hb dX1_op_48 rfl ?_
  refine lv_iconst (v := 2) hx hb dX1_op_52 (by decide) ?_
  refine sm_callV (C := RX1) (As := [.int (sm_bI true), .int 2]) (rest := []) (wr := []) (wn := (sm_wM cZ m0 m1 m2 m3 m4 m5 m6 2 (sm_fb V) (sm_fb S) (sm_fo M) (sm_fl M) (sm_fw O) (sm_fw G))) (st1 := [.int (sm_bI true)]) ⟨hx, hb, hml, hown, hts⟩ (c_fails_t l D cZ m0 m1 m2 m3 m4 m5 m6 0 V S M O G 2) (cwV 2 hts (sm_gV (i1 := 266) (i2 := 267) (i3 := 348) (i4 := 2) (i5 := 268) rfl rfl rfl rfl rfl) rfl rfl rfl (by decide +kernel) ⟨Nat.le_of_ble_eq_true rfl, Nat.le_of_ble_eq_true rfl⟩) hK [0] rfl hP hD hS hA 0 rfl rfl [0, 1, 2, 3, 4, 5, 6] [] rfl rfl (by decide) (by decide) (by decide) rfl hl.1 rfl (Nat.le_of_ble_eq_true rfl) dX1_op_53 ⟨Nat.le_of_ble_eq_true rfl, Nat.le_of_ble_eq_true rfl⟩ rfl rfl (fun H locs hP hD hS => ?_)
  refine lv_if_eq (tgt := 60) hx hb dX1_op_56 rfl (fun z => absurd z (by decide)) (fun _ => ?_)
  exact sm_vret hx hb hrt hlocks hS hP hD dX1_op_59
set_option maxHeartbeats 4000000 in
set_option maxRecDepth 100000 in
theorem c_mstore_x0 (l : Launch) (D : va_G) (cZ : ClassId) (m0 m1 m2 m3 m4 m5 m6 : Nat) (err : Int32) (V S M : Nat → Int32) (O G : Int32) (r t n : Int32) (h1' : ¬ n = 1) (h2' : ¬ n = 2) (h4' : ¬ n = 4) : sm_C l yX1_store wsX1_store ({ frames := 5, cells := 0, slots := 0, locals := 140 } : Room) D vwCl [(cZ, .boolean)] [.ref m0, .int r, .int t, .int n] (sm_wM cZ m0 m1 m2 m3 m4 m5 m6 err (sm_fb V) (sm_fb S) (sm_fo M) (sm_fl M) (sm_fw O) (sm_fw G)) none (sm_wM cZ m0 m1 m2 m3 m4 m5 m6 1 (sm_fb V) (sm_fb S) (sm_fo M) (sm_fl M) (sm_fw O) (sm_fw G)) := by
  refine sm_start (cc := cX1_store) (maxL := 5) (ret := none) (lv := [(0, .ref m0), (1, .int r), (2, .int t), (3, .int n)]) (by decide) rfl (Nat.le_of_ble_eq_true rfl) rfl ?_
  intro p e s m below meth c hx hb hrt hts hown hlocks hml hin hK hP hD hS hA ls hl
  have hw := sm_hw hts
  refine lv_aload_n hx hb dX1_store_0 rfl (lv_at hl 0 rfl) ?_
  refine lv_iload_n hx hb dX1_store_1 rfl (lv_at hl 3 rfl) ?_
  refine sm_callS (As := [.int n]) (rest := [.ref m0]) (wr := (sm_wM cZ m0 m1 m2 m3 m4 m5 m6 err (sm_fb V) (sm_fb S) (sm_fo M) (sm_fl M) (sm_fw O) (sm_fw G))) (wn := (sm_wM cZ m0 m1 m2 m3 m4 m5 m6 err (sm_fb V) (sm_fb S) (sm_fo M) (sm_fl M) (sm_fw O) (sm_fw G))) (st1 := [.int (sm_bI true), .ref m0]) ⟨hx, hb, hml, hown, hts⟩ (c_wrong_x l D n h1' h2' h4') (va_cwS 1 hts (sm_gS (i1 := 311) (i2 := 312) (i4 := 2) (i5 := 313) rfl rfl rfl rfl) rfl rfl rfl (by decide +kernel) ⟨Nat.le_of_ble_eq_true rfl, Nat.le_of_ble_eq_true rfl⟩) hK [] rfl hP hD hS hA [] [0, 1, 2, 3, 4, 5, 6] rfl rfl (by decide) (by decide) (by decide) rfl hl.1 rfl (Nat.le_of_ble_eq_true rfl) dX1_store_2 ⟨Nat.le_of_ble_eq_true rfl, Nat.le_of_ble_eq_true rfl⟩ rfl rfl (fun H locs hP hD hS => ?_)
  refine lv_iconst (v := 1) hx hb dX1_store_5 (by decide) ?_
  refine sm_callV (C := RX1) (As := [.int (sm_bI true), .int 1]) (rest := []) (wr := []) (wn := (sm_wM cZ m0 m1 m2 m3 m4 m5 m6 1 (sm_fb V) (sm_fb S) (sm_fo M) (sm_fl M) (sm_fw O) (sm_fw G))) (st1 := [.int (sm_bI true)]) ⟨hx, hb, hml, hown, hts⟩ (c_fails_t l D cZ m0 m1 m2 m3 m4 m5 m6 err V S M O G 1) (cwV 2 hts (sm_gV (i1 := 266) (i2 := 267) (i3 := 348) (i4 := 2) (i5 := 268) rfl rfl rfl rfl rfl) rfl rfl rfl (by decide +kernel) ⟨Nat.le_of_ble_eq_true rfl, Nat.le_of_ble_eq_true rfl⟩) hK [0] rfl hP hD hS hA 0 rfl rfl [0, 1, 2, 3, 4, 5, 6] [] rfl rfl (by decide) (by decide) (by decide) rfl hl.1 rfl (Nat.le_of_ble_eq_true rfl) dX1_store_6 ⟨Nat.le_of_ble_eq_true rfl, Nat.le_of_ble_eq_true rfl⟩ rfl rfl (fun H locs hP hD hS => ?_)
  refine lv_if_eq (tgt := 13) hx hb dX1_store_9 rfl (fun z => absurd z (by decide)) (fun _ => ?_)
  exact sm_vret hx hb hrt hlocks hS hP hD dX1_store_12
set_option maxHeartbeats 4000000 in
set_option maxRecDepth 100000 in
theorem c_mstore_x1_1 (l : Launch) (D : va_G) (cZ : ClassId) (m0 m1 m2 m3 m4 m5 m6 : Nat) (err : Int32) (V S M : Nat → Int32) (O G : Int32) (r : Nat) (hr : r < 16) (i : Int32) (hi : i < 0 ∨ 255 < i) : sm_C l yX1_store wsX1_store ({ frames := 5, cells := 0, slots := 0, locals := 140 } : Room) D vwCl [(cZ, .boolean)] [.ref m0, .int (nI r), .int i, .int 1] (sm_wM cZ m0 m1 m2 m3 m4 m5 m6 err (sm_fb V) (sm_fb S) (sm_fo M) (sm_fl M) (sm_fw O) (sm_fw G)) none (sm_wM cZ m0 m1 m2 m3 m4 m5 m6 2 (sm_fb V) (sm_fb S) (sm_fo M) (sm_fl M) (sm_fw O) (sm_fw G)) := by
  refine sm_start (cc := cX1_store) (maxL := 5) (ret := none) (lv := [(0, .ref m0), (1, .int (nI r)), (2, .int i), (3, .int 1)]) (by decide) rfl (Nat.le_of_ble_eq_true rfl) rfl ?_
  intro p e s m below meth c hx hb hrt hts hown hlocks hml hin hK hP hD hS hA ls hl
  have hw := sm_hw hts
  refine lv_aload_n hx hb dX1_store_0 rfl (lv_at hl 0 rfl) ?_
  refine lv_iload_n hx hb dX1_store_1 rfl (lv_at hl 3 rfl) ?_
  refine sm_callS (As := [.int 1]) (rest := [.ref m0]) (wr := (sm_wM cZ m0 m1 m2 m3 m4 m5 m6 err (sm_fb V) (sm_fb S) (sm_fo M) (sm_fl M) (sm_fw O) (sm_fw G))) (wn := (sm_wM cZ m0 m1 m2 m3 m4 m5 m6 err (sm_fb V) (sm_fb S) (sm_fo M) (sm_fl M) (sm_fw O) (sm_fw G))) (st1 := [.int (sm_bI false), .ref m0]) ⟨hx, hb, hml, hown, hts⟩ (c_wrong_1 l D) (va_cwS 1 hts (sm_gS (i1 := 311) (i2 := 312) (i4 := 2) (i5 := 313) rfl rfl rfl rfl) rfl rfl rfl (by decide +kernel) ⟨Nat.le_of_ble_eq_true rfl, Nat.le_of_ble_eq_true rfl⟩) hK [] rfl hP hD hS hA [] [0, 1, 2, 3, 4, 5, 6] rfl rfl (by decide) (by decide) (by decide) rfl hl.1 rfl (Nat.le_of_ble_eq_true rfl) dX1_store_2 ⟨Nat.le_of_ble_eq_true rfl, Nat.le_of_ble_eq_true rfl⟩ rfl rfl (fun H locs hP hD hS => ?_)
  refine lv_iconst (v := 1) hx hb dX1_store_5 (by decide) ?_
  refine sm_callV (C := RX1) (As := [.int (sm_bI false), .int 1]) (rest := []) (wr := []) (wn := (sm_wM cZ m0 m1 m2 m3 m4 m5 m6 0 (sm_fb V) (sm_fb S) (sm_fo M) (sm_fl M) (sm_fw O) (sm_fw G))) (st1 := [.int (sm_bI false)]) ⟨hx, hb, hml, hown, hts⟩ (c_fails_f l D cZ m0 m1 m2 m3 m4 m5 m6 err V S M O G 1) (cwV 2 hts (sm_gV (i1 := 266) (i2 := 267) (i3 := 348) (i4 := 2) (i5 := 268) rfl rfl rfl rfl rfl) rfl rfl rfl (by decide +kernel) ⟨Nat.le_of_ble_eq_true rfl, Nat.le_of_ble_eq_true rfl⟩) hK [0] rfl hP hD hS hA 0 rfl rfl [0, 1, 2, 3, 4, 5, 6] [] rfl rfl (by decide) (by decide) (by decide) rfl hl.1 rfl (Nat.le_of_ble_eq_true rfl) dX1_store_6 ⟨Nat.le_of_ble_eq_true rfl, Nat.le_of_ble_eq_true rfl⟩ rfl rfl (fun H locs hP hD hS => ?_)
  refine lv_if_eq (tgt := 13) hx hb dX1_store_9 rfl (fun _ => ?_) (fun z => absurd (by decide) z)
  refine lv_aload_n hx hb dX1_store_13 rfl (lv_at hl 0 rfl) ?_
  refine lv_iload_n hx hb dX1_store_14 rfl (lv_at hl 1 rfl) ?_
  refine sm_callS (As := [.int (nI r)]) (rest := [.ref m0]) (wr := (sm_wM cZ m0 m1 m2 m3 m4 m5 m6 0 (sm_fb V) (sm_fb S) (sm_fo M) (sm_fl M) (sm_fw O) (sm_fw G))) (wn := (sm_wM cZ m0 m1 m2 m3 m4 m5 m6 0 (sm_fb V) (sm_fb S) (sm_fo M) (sm_fl M) (sm_fw O) (sm_fw G))) (st1 := [.int (sm_bI false), .ref m0]) ⟨hx, hb, hml, hown, hts⟩ (c_none_f l D r (by omega)) (va_cwS 1 hts (sm_gS (i1 := 263) (i2 := 264) (i4 := 2) (i5 := 265) rfl rfl rfl rfl) rfl rfl rfl (by decide +kernel) ⟨Nat.le_of_ble_eq_true rfl, Nat.le_of_ble_eq_true rfl⟩) hK [] rfl hP hD hS hA [] [0, 1, 2, 3, 4, 5, 6] rfl rfl (by decide) (by decide) (by decide) rfl hl.1 rfl (Nat.le_of_ble_eq_true rfl) dX1_store_15 ⟨Nat.le_of_ble_eq_true rfl, Nat.le_of_ble_eq_true rfl⟩ rfl rfl (fun H locs hP hD hS => ?_)
  refine lv_if_ne (tgt := 34) hx hb dX1_store_18 rfl (fun z => absurd (by decide) z) (fun _ => ?_)
  refine lv_iload_n hx hb dX1_store_21 rfl (lv_at hl 2 rfl) ?_
  refine lv_if_lt (tgt := 34) hx hb dX1_store_22 rfl (fun h22 => ?_) (fun h22 => ?_)
  · refine lv_iconst (v := 1) hx hb dX1_store_34 (by decide) ?_
    refine lv_goto (tgt := 39) hx hb dX1_store_35 rfl ?_
    refine lv_iconst (v := 2) hx hb dX1_store_39 (by decide) ?_
    refine sm_callV (C := RX1) (As := [.int (sm_bI true), .int 2]) (rest := []) (wr := []) (wn := (sm_wM cZ m0 m1 m2 m3 m4 m5 m6 2 (sm_fb V) (sm_fb S) (sm_fo M) (sm_fl M) (sm_fw O) (sm_fw G))) (st1 := [.int (sm_bI true)]) ⟨hx, hb, hml, hown, hts⟩ (c_fails_t l D cZ m0 m1 m2 m3 m4 m5 m6 0 V S M O G 2) (cwV 2 hts (sm_gV (i1 := 266) (i2 := 267) (i3 := 348) (i4 := 2) (i5 := 268) rfl rfl rfl rfl rfl) rfl rfl rfl (by decide +kernel) ⟨Nat.le_of_ble_eq_true rfl, Nat.le_of_ble_eq_true rfl⟩) hK [0] rfl hP hD hS hA 0 rfl rfl [0, 1, 2, 3, 4, 5, 6] [] rfl rfl (by decide) (by decide) (by decide) rfl hl.1 rfl (Nat.le_of_ble_eq_true rfl) dX1_store_40 ⟨Nat.le_of_ble_eq_true rfl, Nat.le_of_ble_eq_true rfl⟩ rfl rfl (fun H locs hP hD hS => ?_)
    refine lv_if_eq (tgt := 47) hx hb dX1_store_43 rfl (fun z => absurd z (by decide)) (fun _ => ?_)
    exact sm_vret hx hb hrt hlocks hS hP hD dX1_store_46
  · refine lv_iload_n hx hb dX1_store_25 rfl (lv_at hl 2 rfl) ?_
    refine lv_sipush (v := 256) hx hb dX1_store_26 (by decide) ?_
    refine lv_iload_n hx hb dX1_store_29 rfl (lv_at hl 3 rfl) ?_
    refine lv_isub hx hb dX1_store_30 ?_
    refine sm_eqi (y := 255) (by decide) ?_
    refine lv_icmp_le (tgt := 38) hx hb dX1_store_31 rfl (fun z => absurd z (sm_orl hi h22)) (fun _ => ?_)
    refine lv_iconst (v := 1) hx hb dX1_store_34 (by decide) ?_
    refine lv_goto (tgt := 39) hx hb dX1_store_35 rfl ?_
    refine lv_iconst (v := 2) hx hb dX1_store_39 (by decide) ?_
    refine sm_callV (C := RX1) (As := [.int (sm_bI true), .int 2]) (rest := []) (wr := []) (wn := (sm_wM cZ m0 m1 m2 m3 m4 m5 m6 2 (sm_fb V) (sm_fb S) (sm_fo M) (sm_fl M) (sm_fw O) (sm_fw G))) (st1 := [.int (sm_bI true)]) ⟨hx, hb, hml, hown, hts⟩ (c_fails_t l D cZ m0 m1 m2 m3 m4 m5 m6 0 V S M O G 2) (cwV 2 hts (sm_gV (i1 := 266) (i2 := 267) (i3 := 348) (i4 := 2) (i5 := 268) rfl rfl rfl rfl rfl) rfl rfl rfl (by decide +kernel) ⟨Nat.le_of_ble_eq_true rfl, Nat.le_of_ble_eq_true rfl⟩) hK [0] rfl hP hD hS hA 0 rfl rfl [0, 1, 2, 3, 4, 5, 6] [] rfl rfl (by decide) (by decide) (by decide) rfl hl.1 rfl (Nat.le_of_ble_eq_true rfl) dX1_store_40 ⟨Nat.le_of_ble_eq_true rfl, Nat.le_of_ble_eq_true rfl⟩ rfl rfl (fun H locs hP hD hS => ?_)
    refine lv_if_eq (tgt := 47) hx hb dX1_store_43 rfl (fun z => absurd z (by decide)) (fun _ => ?_)
    exact sm_vret hx hb hrt hlocks hS hP hD dX1_store_46
set_option maxHeartbeats 4000000 in
set_option maxRecDepth 100000 in
theorem c_mstore_x2_1 (l : Launch) (D : va_G) (cZ : ClassId) (m0 m1 m2 m3 m4 m5 m6 : Nat) (err : Int32) (V S M : Nat → Int32) (O G : Int32) (i : Int32) (hi : i < 0 ∨ 16 ≤ i) (t : Int32) : sm_C l yX1_store wsX1_store ({ frames := 5, cells := 0, slots := 0, locals := 140 } : Room) D vwCl [(cZ, .boolean)] [.ref m0, .int i, .int t, .int 1] (sm_wM cZ m0 m1 m2 m3 m4 m5 m6 err (sm_fb V) (sm_fb S) (sm_fo M) (sm_fl M) (sm_fw O) (sm_fw G)) none (sm_wM cZ m0 m1 m2 m3 m4 m5 m6 2 (sm_fb V) (sm_fb S) (sm_fo M) (sm_fl M) (sm_fw O) (sm_fw G)) := by
  refine sm_start (cc := cX1_store) (maxL := 5) (ret := none) (lv := [(0, .ref m0), (1, .int i), (2, .int t), (3, .int 1)]) (by decide) rfl (Nat.le_of_ble_eq_true rfl) rfl ?_
  intro p e s m below meth c hx hb hrt hts hown hlocks hml hin hK hP hD hS hA ls hl
  have hw := sm_hw hts
  refine lv_aload_n hx hb dX1_store_0 rfl (lv_at hl 0 rfl) ?_
  refine lv_iload_n hx hb dX1_store_1 rfl (lv_at hl 3 rfl) ?_
  refine sm_callS (As := [.int 1]) (rest := [.ref m0]) (wr := (sm_wM cZ m0 m1 m2 m3 m4 m5 m6 err (sm_fb V) (sm_fb S) (sm_fo M) (sm_fl M) (sm_fw O) (sm_fw G))) (wn := (sm_wM cZ m0 m1 m2 m3 m4 m5 m6 err (sm_fb V) (sm_fb S) (sm_fo M) (sm_fl M) (sm_fw O) (sm_fw G))) (st1 := [.int (sm_bI false), .ref m0]) ⟨hx, hb, hml, hown, hts⟩ (c_wrong_1 l D) (va_cwS 1 hts (sm_gS (i1 := 311) (i2 := 312) (i4 := 2) (i5 := 313) rfl rfl rfl rfl) rfl rfl rfl (by decide +kernel) ⟨Nat.le_of_ble_eq_true rfl, Nat.le_of_ble_eq_true rfl⟩) hK [] rfl hP hD hS hA [] [0, 1, 2, 3, 4, 5, 6] rfl rfl (by decide) (by decide) (by decide) rfl hl.1 rfl (Nat.le_of_ble_eq_true rfl) dX1_store_2 ⟨Nat.le_of_ble_eq_true rfl, Nat.le_of_ble_eq_true rfl⟩ rfl rfl (fun H locs hP hD hS => ?_)
  refine lv_iconst (v := 1) hx hb dX1_store_5 (by decide) ?_
  refine sm_callV (C := RX1) (As := [.int (sm_bI false), .int 1]) (rest := []) (wr := []) (wn := (sm_wM cZ m0 m1 m2 m3 m4 m5 m6 0 (sm_fb V) (sm_fb S) (sm_fo M) (sm_fl M) (sm_fw O) (sm_fw G))) (st1 := [.int (sm_bI false)]) ⟨hx, hb, hml, hown, hts⟩ (c_fails_f l D cZ m0 m1 m2 m3 m4 m5 m6 err V S M O G 1) (cwV 2 hts (sm_gV (i1 := 266) (i2 := 267) (i3 := 348) (i4 := 2) (i5 := 268) rfl rfl rfl rfl rfl) rfl rfl rfl (by decide +kernel) ⟨Nat.le_of_ble_eq_true rfl, Nat.le_of_ble_eq_true rfl⟩) hK [0] rfl hP hD hS hA 0 rfl rfl [0, 1, 2, 3, 4, 5, 6] [] rfl rfl (by decide) (by decide) (by decide) rfl hl.1 rfl (Nat.le_of_ble_eq_true rfl) dX1_store_6 ⟨Nat.le_of_ble_eq_true rfl, Nat.le_of_ble_eq_true rfl⟩ rfl rfl (fun H locs hP hD hS => ?_)
  refine lv_if_eq (tgt := 13) hx hb dX1_store_9 rfl (fun _ => ?_) (fun z => absurd (by decide) z)
  refine lv_aload_n hx hb dX1_store_13 rfl (lv_at hl 0 rfl) ?_
  refine lv_iload_n hx hb dX1_store_14 rfl (lv_at hl 1 rfl) ?_
  refine sm_callS (As := [.int i]) (rest := [.ref m0]) (wr := (sm_wM cZ m0 m1 m2 m3 m4 m5 m6 0 (sm_fb V) (sm_fb S) (sm_fo M) (sm_fl M) (sm_fw O) (sm_fw G))) (wn := (sm_wM cZ m0 m1 m2 m3 m4 m5 m6 0 (sm_fb V) (sm_fb S) (sm_fo M) (sm_fl M) (sm_fw O) (sm_fw G))) (st1 := [.int (sm_bI true), .ref m0]) ⟨hx, hb, hml, hown, hts⟩ (c_none_t l D i hi) (va_cwS 1 hts (sm_gS (i1 := 263) (i2 := 264) (i4 := 2) (i5 := 265) rfl rfl rfl rfl) rfl rfl rfl (by decide +kernel) ⟨Nat.le_of_ble_eq_true rfl, Nat.le_of_ble_eq_true rfl⟩) hK [] rfl hP hD hS hA [] [0, 1, 2, 3, 4, 5, 6] rfl rfl (by decide) (by decide) (by decide) rfl hl.1 rfl (Nat.le_of_ble_eq_true rfl) dX1_store_15 ⟨Nat.le_of_ble_eq_true rfl, Nat.le_of_ble_eq_true rfl⟩ rfl rfl (fun H locs hP hD hS => ?_)
  refine lv_if_ne (tgt := 34) hx hb dX1_store_18 rfl (fun _ => ?_) (fun z => absurd z (by decide))
  refine lv_iconst (v := 1) hx hb dX1_store_34 (by decide) ?_
  refine lv_goto (tgt := 39) hx hb dX1_store_35 rfl ?_
  refine lv_iconst (v := 2) hx hb dX1_store_39 (by decide) ?_
  refine sm_callV (C := RX1) (As := [.int (sm_bI true), .int 2]) (rest := []) (wr := []) (wn := (sm_wM cZ m0 m1 m2 m3 m4 m5 m6 2 (sm_fb V) (sm_fb S) (sm_fo M) (sm_fl M) (sm_fw O) (sm_fw G))) (st1 := [.int (sm_bI true)]) ⟨hx, hb, hml, hown, hts⟩ (c_fails_t l D cZ m0 m1 m2 m3 m4 m5 m6 0 V S M O G 2) (cwV 2 hts (sm_gV (i1 := 266) (i2 := 267) (i3 := 348) (i4 := 2) (i5 := 268) rfl rfl rfl rfl rfl) rfl rfl rfl (by decide +kernel) ⟨Nat.le_of_ble_eq_true rfl, Nat.le_of_ble_eq_true rfl⟩) hK [0] rfl hP hD hS hA 0 rfl rfl [0, 1, 2, 3, 4, 5, 6] [] rfl rfl (by decide) (by decide) (by decide) rfl hl.1 rfl (Nat.le_of_ble_eq_true rfl) dX1_store_40 ⟨Nat.le_of_ble_eq_true rfl, Nat.le_of_ble_eq_true rfl⟩ rfl rfl (fun H locs hP hD hS => ?_)
  refine lv_if_eq (tgt := 47) hx hb dX1_store_43 rfl (fun z => absurd z (by decide)) (fun _ => ?_)
  exact sm_vret hx hb hrt hlocks hS hP hD dX1_store_46
set_option maxHeartbeats 4000000 in
set_option maxRecDepth 100000 in
theorem c_mstore_x1_2 (l : Launch) (D : va_G) (cZ : ClassId) (m0 m1 m2 m3 m4 m5 m6 : Nat) (err : Int32) (V S M : Nat → Int32) (O G : Int32) (r : Nat) (hr : r < 16) (i : Int32) (hi : i < 0 ∨ 254 < i) : sm_C l yX1_store wsX1_store ({ frames := 5, cells := 0, slots := 0, locals := 140 } : Room) D vwCl [(cZ, .boolean)] [.ref m0, .int (nI r), .int i, .int 2] (sm_wM cZ m0 m1 m2 m3 m4 m5 m6 err (sm_fb V) (sm_fb S) (sm_fo M) (sm_fl M) (sm_fw O) (sm_fw G)) none (sm_wM cZ m0 m1 m2 m3 m4 m5 m6 2 (sm_fb V) (sm_fb S) (sm_fo M) (sm_fl M) (sm_fw O) (sm_fw G)) := by
  refine sm_start (cc := cX1_store) (maxL := 5) (ret := none) (lv := [(0, .ref m0), (1, .int (nI r)), (2, .int i), (3, .int 2)]) (by decide) rfl (Nat.le_of_ble_eq_true rfl) rfl ?_
  intro p e s m below meth c hx hb hrt hts hown hlocks hml hin hK hP hD hS hA ls hl
  have hw := sm_hw hts
  refine lv_aload_n hx hb dX1_store_0 rfl (lv_at hl 0 rfl) ?_
  refine lv_iload_n hx hb dX1_store_1 rfl (lv_at hl 3 rfl) ?_
  refine sm_callS (As := [.int 2]) (rest := [.ref m0]) (wr := (sm_wM cZ m0 m1 m2 m3 m4 m5 m6 err (sm_fb V) (sm_fb S) (sm_fo M) (sm_fl M) (sm_fw O) (sm_fw G))) (wn := (sm_wM cZ m0 m1 m2 m3 m4 m5 m6 err (sm_fb V) (sm_fb S) (sm_fo M) (sm_fl M) (sm_fw O) (sm_fw G))) (st1 := [.int (sm_bI false), .ref m0]) ⟨hx, hb, hml, hown, hts⟩ (c_wrong_2 l D) (va_cwS 1 hts (sm_gS (i1 := 311) (i2 := 312) (i4 := 2) (i5 := 313) rfl rfl rfl rfl) rfl rfl rfl (by decide +kernel) ⟨Nat.le_of_ble_eq_true rfl, Nat.le_of_ble_eq_true rfl⟩) hK [] rfl hP hD hS hA [] [0, 1, 2, 3, 4, 5, 6] rfl rfl (by decide) (by decide) (by decide) rfl hl.1 rfl (Nat.le_of_ble_eq_true rfl) dX1_store_2 ⟨Nat.le_of_ble_eq_true rfl, Nat.le_of_ble_eq_true rfl⟩ rfl rfl (fun H locs hP hD hS => ?_)
  refine lv_iconst (v := 1) hx hb dX1_store_5 (by decide) ?_
  refine sm_callV (C := RX1) (As := [.int (sm_bI false), .int 1]) (rest := []) (wr := []) (wn := (sm_wM cZ m0 m1 m2 m3 m4 m5 m6 0 (sm_fb V) (sm_fb S) (sm_fo M) (sm_fl M) (sm_fw O) (sm_fw G))) (st1 := [.int (sm_bI false)]) ⟨hx, hb, hml, hown, hts⟩ (c_fails_f l D cZ m0 m1 m2 m3 m4 m5 m6 err V S M O G 1) (cwV 2 hts (sm_gV (i1 := 266) (i2 := 267) (i3 := 348) (i4 := 2) (i5 := 268) rfl rfl rfl rfl rfl) rfl rfl rfl (by decide +kernel) ⟨Nat.le_of_ble_eq_true rfl, Nat.le_of_ble_eq_true rfl⟩) hK [0] rfl hP hD hS hA 0 rfl rfl [0, 1, 2, 3, 4, 5, 6] [] rfl rfl (by decide) (by decide) (by decide) rfl hl.1 rfl (Nat.le_of_ble_eq_true rfl) dX1_store_6 ⟨Nat.le_of_ble_eq_true rfl, Nat.le_of_ble_eq_true rfl⟩ rfl rfl (fun H locs hP hD hS => ?_)
  refine lv_if_eq (tgt := 13) hx hb dX1_store_9 rfl (fun _ => ?_) (fun z => absurd (by decide) z)
  refine lv_aload_n hx hb dX1_store_13 rfl (lv_at hl 0 rfl) ?_
  refine lv_iload_n hx hb dX1_store_14 rfl (lv_at hl 1 rfl) ?_
  refine sm_callS (As := [.int (nI r)]) (rest := [.ref m0]) (wr := (sm_wM cZ m0 m1 m2 m3 m4 m5 m6 0 (sm_fb V) (sm_fb S) (sm_fo M) (sm_fl M) (sm_fw O) (sm_fw G))) (wn := (sm_wM cZ m0 m1 m2 m3 m4 m5 m6 0 (sm_fb V) (sm_fb S) (sm_fo M) (sm_fl M) (sm_fw O) (sm_fw G))) (st1 := [.int (sm_bI false), .ref m0]) ⟨hx, hb, hml, hown, hts⟩ (c_none_f l D r (by omega)) (va_cwS 1 hts (sm_gS (i1 := 263) (i2 := 264) (i4 := 2) (i5 := 265) rfl rfl rfl rfl) rfl rfl rfl (by decide +kernel) ⟨Nat.le_of_ble_eq_true rfl, Nat.le_of_ble_eq_true rfl⟩) hK [] rfl hP hD hS hA [] [0, 1, 2, 3, 4, 5, 6] rfl rfl (by decide) (by decide) (by decide) rfl hl.1 rfl (Nat.le_of_ble_eq_true rfl) dX1_store_15 ⟨Nat.le_of_ble_eq_true rfl, Nat.le_of_ble_eq_true rfl⟩ rfl rfl (fun H locs hP hD hS => ?_)
  refine lv_if_ne (tgt := 34) hx hb dX1_store_18 rfl (fun z => absurd (by decide) z) (fun _ => ?_)
  refine lv_iload_n hx hb dX1_store_21 rfl (lv_at hl 2 rfl) ?_
  refine lv_if_lt (tgt := 34) hx hb dX1_store_22 rfl (fun h22 => ?_) (fun h22 => ?_)
  · refine lv_iconst (v := 1) hx hb dX1_store_34 (by decide) ?_
    refine lv_goto (tgt := 39) hx hb dX1_store_35 rfl ?_
    refine lv_iconst (v := 2) hx hb dX1_store_39 (by decide) ?_
    refine sm_callV (C := RX1) (As := [.int (sm_bI true), .int 2]) (rest := []) (wr := []) (wn := (sm_wM cZ m0 m1 m2 m3 m4 m5 m6 2 (sm_fb V) (sm_fb S) (sm_fo M) (sm_fl M) (sm_fw O) (sm_fw G))) (st1 := [.int (sm_bI true)]) ⟨hx, hb, hml, hown, hts⟩ (c_fails_t l D cZ m0 m1 m2 m3 m4 m5 m6 0 V S M O G 2) (cwV 2 hts (sm_gV (i1 := 266) (i2 := 267) (i3 := 348) (i4 := 2) (i5 := 268) rfl rfl rfl rfl rfl) rfl rfl rfl (by decide +kernel) ⟨Nat.le_of_ble_eq_true rfl, Nat.le_of_ble_eq_true rfl⟩) hK [0] rfl hP hD hS hA 0 rfl rfl [0, 1, 2, 3, 4, 5, 6] [] rfl rfl (by decide) (by decide) (by decide) rfl hl.1 rfl (Nat.le_of_ble_eq_true rfl) dX1_store_40 ⟨Nat.le_of_ble_eq_true rfl, Nat.le_of_ble_eq_true rfl⟩ rfl rfl (fun H locs hP hD hS => ?_)
    refine lv_if_eq (tgt := 47) hx hb dX1_store_43 rfl (fun z => absurd z (by decide)) (fun _ => ?_)
    exact sm_vret hx hb hrt hlocks hS hP hD dX1_store_46
  · refine lv_iload_n hx hb dX1_store_25 rfl (lv_at hl 2 rfl) ?_
    refine lv_sipush (v := 256) hx hb dX1_store_26 (by decide) ?_
    refine lv_iload_n hx hb dX1_store_29 rfl (lv_at hl 3 rfl) ?_
    refine lv_isub hx hb dX1_store_30 ?_
    refine sm_eqi (y := 254) (by decide) ?_
    refine lv_icmp_le (tgt := 38) hx hb dX1_store_31 rfl (fun z => absurd z (sm_orl hi h22)) (fun _ => ?_)
    refine lv_iconst (v := 1) hx hb dX1_store_34 (by decide) ?_
    refine lv_goto (tgt := 39) hx hb dX1_store_35 rfl ?_
    refine lv_iconst (v := 2) hx hb dX1_store_39 (by decide) ?_
    refine sm_callV (C := RX1) (As := [.int (sm_bI true), .int 2]) (rest := []) (wr := []) (wn := (sm_wM cZ m0 m1 m2 m3 m4 m5 m6 2 (sm_fb V) (sm_fb S) (sm_fo M) (sm_fl M) (sm_fw O) (sm_fw G))) (st1 := [.int (sm_bI true)]) ⟨hx, hb, hml, hown, hts⟩ (c_fails_t l D cZ m0 m1 m2 m3 m4 m5 m6 0 V S M O G 2) (cwV 2 hts (sm_gV (i1 := 266) (i2 := 267) (i3 := 348) (i4 := 2) (i5 := 268) rfl rfl rfl rfl rfl) rfl rfl rfl (by decide +kernel) ⟨Nat.le_of_ble_eq_true rfl, Nat.le_of_ble_eq_true rfl⟩) hK [0] rfl hP hD hS hA 0 rfl rfl [0, 1, 2, 3, 4, 5, 6] [] rfl rfl (by decide) (by decide) (by decide) rfl hl.1 rfl (Nat.le_of_ble_eq_true rfl) dX1_store_40 ⟨Nat.le_of_ble_eq_true rfl, Nat.le_of_ble_eq_true rfl⟩ rfl rfl (fun H locs hP hD hS => ?_)
    refine lv_if_eq (tgt := 47) hx hb dX1_store_43 rfl (fun z => absurd z (by decide)) (fun _ => ?_)
    exact sm_vret hx hb hrt hlocks hS hP hD dX1_store_46
set_option maxHeartbeats 4000000 in
set_option maxRecDepth 100000 in
theorem c_mstore_x2_2 (l : Launch) (D : va_G) (cZ : ClassId) (m0 m1 m2 m3 m4 m5 m6 : Nat) (err : Int32) (V S M : Nat → Int32) (O G : Int32) (i : Int32) (hi : i < 0 ∨ 16 ≤ i) (t : Int32) : sm_C l yX1_store wsX1_store ({ frames := 5, cells := 0, slots := 0, locals := 140 } : Room) D vwCl [(cZ, .boolean)] [.ref m0, .int i, .int t, .int 2] (sm_wM cZ m0 m1 m2 m3 m4 m5 m6 err (sm_fb V) (sm_fb S) (sm_fo M) (sm_fl M) (sm_fw O) (sm_fw G)) none (sm_wM cZ m0 m1 m2 m3 m4 m5 m6 2 (sm_fb V) (sm_fb S) (sm_fo M) (sm_fl M) (sm_fw O) (sm_fw G)) := by
  refine sm_start (cc := cX1_store) (maxL := 5) (ret := none) (lv := [(0, .ref m0), (1, .int i), (2, .int t), (3, .int 2)]) (by decide) rfl (Nat.le_of_ble_eq_true rfl) rfl ?_
  intro p e s m below meth c hx hb hrt hts hown hlocks hml hin hK hP hD hS hA ls hl
  have hw := sm_hw hts
  refine lv_aload_n hx hb dX1_store_0 rfl (lv_at hl 0 rfl) ?_
  refine lv_iload_n hx hb dX1_store_1 rfl (lv_at hl 3 rfl) ?_
  refine sm_callS (As := [.int 2]) (rest := [.ref m0]) (wr := (sm_wM cZ m0 m1 m2 m3 m4 m5 m6 err (sm_fb V) (sm_fb S) (sm_fo M) (sm_fl M) (sm_fw O) (sm_fw G))) (wn := (sm_wM cZ m0 m1 m2 m3 m4 m5 m6 err (sm_fb V) (sm_fb S) (sm_fo M) (sm_fl M) (sm_fw O) (sm_fw G))) (st1 := [.int (sm_bI false), .ref m0]) ⟨hx, hb, hml, hown, hts⟩ (c_wrong_2 l D) (va_cwS 1 hts (sm_gS (i1 := 311) (i2 := 312) (i4 := 2) (i5 := 313) rfl rfl rfl rfl) rfl rfl rfl (by decide +kernel) ⟨Nat.le_of_ble_eq_true rfl, Nat.le_of_ble_eq_true rfl⟩) hK [] rfl hP hD hS hA [] [0, 1, 2, 3, 4, 5, 6] rfl rfl (by decide) (by decide) (by decide) rfl hl.1 rfl (Nat.le_of_ble_eq_true rfl) dX1_store_2 ⟨Nat.le_of_ble_eq_true rfl, Nat.le_of_ble_eq_true rfl⟩ rfl rfl (fun H locs hP hD hS => ?_)
  refine lv_iconst (v := 1) hx hb dX1_store_5 (by decide) ?_
  refine sm_callV (C := RX1) (As := [.int (sm_bI false), .int 1]) (rest := []) (wr := []) (wn := (sm_wM cZ m0 m1 m2 m3 m4 m5 m6 0 (sm_fb V) (sm_fb S) (sm_fo M) (sm_fl M) (sm_fw O) (sm_fw G))) (st1 := [.int (sm_bI false)]) ⟨hx, hb, hml, hown, hts⟩ (c_fails_f l D cZ m0 m1 m2 m3 m4 m5 m6 err V S M O G 1) (cwV 2 hts (sm_gV (i1 := 266) (i2 := 267) (i3 := 348) (i4 := 2) (i5 := 268) rfl rfl rfl rfl rfl) rfl rfl rfl (by decide +kernel) ⟨Nat.le_of_ble_eq_true rfl, Nat.le_of_ble_eq_true rfl⟩) hK [0] rfl hP hD hS hA 0 rfl rfl [0, 1, 2, 3, 4, 5, 6] [] rfl rfl (by decide) (by decide) (by decide) rfl hl.1 rfl (Nat.le_of_ble_eq_true rfl) dX1_store_6 ⟨Nat.le_of_ble_eq_true rfl, Nat.le_of_ble_eq_true rfl⟩ rfl rfl (fun H locs hP hD hS => ?_)
  refine lv_if_eq (tgt := 13) hx hb dX1_store_9 rfl (fun _ => ?_) (fun z => absurd (by decide) z)
  refine lv_aload_n hx hb dX1_store_13 rfl (lv_at hl 0 rfl) ?_
  refine lv_iload_n hx hb dX1_store_14 rfl (lv_at hl 1 rfl) ?_
  refine sm_callS (As := [.int i]) (rest := [.ref m0]) (wr := (sm_wM cZ m0 m1 m2 m3 m4 m5 m6 0 (sm_fb V) (sm_fb S) (sm_fo M) (sm_fl M) (sm_fw O) (sm_fw G))) (wn := (sm_wM cZ m0 m1 m2 m3 m4 m5 m6 0 (sm_fb V) (sm_fb S) (sm_fo M) (sm_fl M) (sm_fw O) (sm_fw G))) (st1 := [.int (sm_bI true), .ref m0]) ⟨hx, hb, hml, hown, hts⟩ (c_none_t l D i hi) (va_cwS 1 hts (sm_gS (i1 := 263) (i2 := 264) (i4 := 2) (i5 := 265) rfl rfl rfl rfl) rfl rfl rfl (by decide +kernel) ⟨Nat.le_of_ble_eq_true rfl, Nat.le_of_ble_eq_true rfl⟩) hK [] rfl hP hD hS hA [] [0, 1, 2, 3, 4, 5, 6] rfl rfl (by decide) (by decide) (by decide) rfl hl.1 rfl (Nat.le_of_ble_eq_true rfl) dX1_store_15 ⟨Nat.le_of_ble_eq_true rfl, Nat.le_of_ble_eq_true rfl⟩ rfl rfl (fun H locs hP hD hS => ?_)
  refine lv_if_ne (tgt := 34) hx hb dX1_store_18 rfl (fun _ => ?_) (fun z => absurd z (by decide))
  refine lv_iconst (v := 1) hx hb dX1_store_34 (by decide) ?_
  refine lv_goto (tgt := 39) hx hb dX1_store_35 rfl ?_
  refine lv_iconst (v := 2) hx hb dX1_store_39 (by decide) ?_
  refine sm_callV (C := RX1) (As := [.int (sm_bI true), .int 2]) (rest := []) (wr := []) (wn := (sm_wM cZ m0 m1 m2 m3 m4 m5 m6 2 (sm_fb V) (sm_fb S) (sm_fo M) (sm_fl M) (sm_fw O) (sm_fw G))) (st1 := [.int (sm_bI true)]) ⟨hx, hb, hml, hown, hts⟩ (c_fails_t l D cZ m0 m1 m2 m3 m4 m5 m6 0 V S M O G 2) (cwV 2 hts (sm_gV (i1 := 266) (i2 := 267) (i3 := 348) (i4 := 2) (i5 := 268) rfl rfl rfl rfl rfl) rfl rfl rfl (by decide +kernel) ⟨Nat.le_of_ble_eq_true rfl, Nat.le_of_ble_eq_true rfl⟩) hK [0] rfl hP hD hS hA 0 rfl rfl [0, 1, 2, 3, 4, 5, 6] [] rfl rfl (by decide) (by decide) (by decide) rfl hl.1 rfl (Nat.le_of_ble_eq_true rfl) dX1_store_40 ⟨Nat.le_of_ble_eq_true rfl, Nat.le_of_ble_eq_true rfl⟩ rfl rfl (fun H locs hP hD hS => ?_)
  refine lv_if_eq (tgt := 47) hx hb dX1_store_43 rfl (fun z => absurd z (by decide)) (fun _ => ?_)
  exact sm_vret hx hb hrt hlocks hS hP hD dX1_store_46
set_option maxHeartbeats 4000000 in
set_option maxRecDepth 100000 in
theorem c_mstore_x1_4 (l : Launch) (D : va_G) (cZ : ClassId) (m0 m1 m2 m3 m4 m5 m6 : Nat) (err : Int32) (V S M : Nat → Int32) (O G : Int32) (r : Nat) (hr : r < 16) (i : Int32) (hi : i < 0 ∨ 252 < i) : sm_C l yX1_store wsX1_store ({ frames := 5, cells := 0, slots := 0, locals := 140 } : Room) D vwCl [(cZ, .boolean)] [.ref m0, .int (nI r), .int i, .int 4] (sm_wM cZ m0 m1 m2 m3 m4 m5 m6 err (sm_fb V) (sm_fb S) (sm_fo M) (sm_fl M) (sm_fw O) (sm_fw G)) none (sm_wM cZ m0 m1 m2 m3 m4 m5 m6 2 (sm_fb V) (sm_fb S) (sm_fo M) (sm_fl M) (sm_fw O) (sm_fw G)) := by
  refine sm_start (cc := cX1_store) (maxL := 5) (ret := none) (lv := [(0, .ref m0), (1, .int (nI r)), (2, .int i), (3, .int 4)]) (by decide) rfl (Nat.le_of_ble_eq_true rfl) rfl ?_
  intro p e s m below meth c hx hb hrt hts hown hlocks hml hin hK hP hD hS hA ls hl
  have hw := sm_hw hts
  refine lv_aload_n hx hb dX1_store_0 rfl (lv_at hl 0 rfl) ?_
  refine lv_iload_n hx hb dX1_store_1 rfl (lv_at hl 3 rfl) ?_
  refine sm_callS (As := [.int 4]) (rest := [.ref m0]) (wr := (sm_wM cZ m0 m1 m2 m3 m4 m5 m6 err (sm_fb V) (sm_fb S) (sm_fo M) (sm_fl M) (sm_fw O) (sm_fw G))) (wn := (sm_wM cZ m0 m1 m2 m3 m4 m5 m6 err (sm_fb V) (sm_fb S) (sm_fo M) (sm_fl M) (sm_fw O) (sm_fw G))) (st1 := [.int (sm_bI false), .ref m0]) ⟨hx, hb, hml, hown, hts⟩ (c_wrong_4 l D) (va_cwS 1 hts (sm_gS (i1 := 311) (i2 := 312) (i4 := 2) (i5 := 313) rfl rfl rfl rfl) rfl rfl rfl (by decide +kernel) ⟨Nat.le_of_ble_eq_true rfl, Nat.le_of_ble_eq_true rfl⟩) hK [] rfl hP hD hS hA [] [0, 1, 2, 3, 4, 5, 6] rfl rfl (by decide) (by decide) (by decide) rfl hl.1 rfl (Nat.le_of_ble_eq_true rfl) dX1_store_2 ⟨Nat.le_of_ble_eq_true rfl, Nat.le_of_ble_eq_true rfl⟩ rfl rfl (fun H locs hP hD hS => ?_)
  refine lv_iconst (v := 1) hx hb dX1_store_5 (by decide) ?_
  refine sm_callV (C := RX1) (As := [.int (sm_bI false), .int 1]) (rest := []) (wr := []) (wn := (sm_wM cZ m0 m1 m2 m3 m4 m5 m6 0 (sm_fb V) (sm_fb S) (sm_fo M) (sm_fl M) (sm_fw O) (sm_fw G))) (st1 := [.int (sm_bI false)]) ⟨hx, hb, hml, hown, hts⟩ (c_fails_f l D cZ m0 m1 m2 m3 m4 m5 m6 err V S M O G 1) (cwV 2 hts (sm_gV (i1 := 266) (i2 := 267) (i3 := 348) (i4 := 2) (i5 := 268) rfl rfl rfl rfl rfl) rfl rfl rfl (by decide +kernel) ⟨Nat.le_of_ble_eq_true rfl, Nat.le_of_ble_eq_true rfl⟩) hK [0] rfl hP hD hS hA 0 rfl rfl [0, 1, 2, 3, 4, 5, 6] [] rfl rfl (by decide) (by decide) (by decide) rfl hl.1 rfl (Nat.le_of_ble_eq_true rfl) dX1_store_6 ⟨Nat.le_of_ble_eq_true rfl, Nat.le_of_ble_eq_true rfl⟩ rfl rfl (fun H locs hP hD hS => ?_)
  refine lv_if_eq (tgt := 13) hx hb dX1_store_9 rfl (fun _ => ?_) (fun z => absurd (by decide) z)
  refine lv_aload_n hx hb dX1_store_13 rfl (lv_at hl 0 rfl) ?_
  refine lv_iload_n hx hb dX1_store_14 rfl (lv_at hl 1 rfl) ?_
  refine sm_callS (As := [.int (nI r)]) (rest := [.ref m0]) (wr := (sm_wM cZ m0 m1 m2 m3 m4 m5 m6 0 (sm_fb V) (sm_fb S) (sm_fo M) (sm_fl M) (sm_fw O) (sm_fw G))) (wn := (sm_wM cZ m0 m1 m2 m3 m4 m5 m6 0 (sm_fb V) (sm_fb S) (sm_fo M) (sm_fl M) (sm_fw O) (sm_fw G))) (st1 := [.int (sm_bI false), .ref m0]) ⟨hx, hb, hml, hown, hts⟩ (c_none_f l D r (by omega)) (va_cwS 1 hts (sm_gS (i1 := 263) (i2 := 264) (i4 := 2) (i5 := 265) rfl rfl rfl rfl) rfl rfl rfl (by decide +kernel) ⟨Nat.le_of_ble_eq_true rfl, Nat.le_of_ble_eq_true rfl⟩) hK [] rfl hP hD hS hA [] [0, 1, 2, 3, 4, 5, 6] rfl rfl (by decide) (by decide) (by decide) rfl hl.1 rfl (Nat.le_of_ble_eq_true rfl) dX1_store_15 ⟨Nat.le_of_ble_eq_true rfl, Nat.le_of_ble_eq_true rfl⟩ rfl rfl (fun H locs hP hD hS => ?_)
  refine lv_if_ne (tgt := 34) hx hb dX1_store_18 rfl (fun z => absurd (by decide) z) (fun _ => ?_)
  refine lv_iload_n hx hb dX1_store_21 rfl (lv_at hl 2 rfl) ?_
  refine lv_if_lt (tgt := 34) hx hb dX1_store_22 rfl (fun h22 => ?_) (fun h22 => ?_)
  · refine lv_iconst (v := 1) hx hb dX1_store_34 (by decide) ?_
    refine lv_goto (tgt := 39) hx hb dX1_store_35 rfl ?_
    refine lv_iconst (v := 2) hx hb dX1_store_39 (by decide) ?_
    refine sm_callV (C := RX1) (As := [.int (sm_bI true), .int 2]) (rest := []) (wr := []) (wn := (sm_wM cZ m0 m1 m2 m3 m4 m5 m6 2 (sm_fb V) (sm_fb S) (sm_fo M) (sm_fl M) (sm_fw O) (sm_fw G))) (st1 := [.int (sm_bI true)]) ⟨hx, hb, hml, hown, hts⟩ (c_fails_t l D cZ m0 m1 m2 m3 m4 m5 m6 0 V S M O G 2) (cwV 2 hts (sm_gV (i1 := 266) (i2 := 267) (i3 := 348) (i4 := 2) (i5 := 268) rfl rfl rfl rfl rfl) rfl rfl rfl (by decide +kernel) ⟨Nat.le_of_ble_eq_true rfl, Nat.le_of_ble_eq_true rfl⟩) hK [0] rfl hP hD hS hA 0 rfl rfl [0, 1, 2, 3, 4, 5, 6] [] rfl rfl (by decide) (by decide) (by decide) rfl hl.1 rfl (Nat.le_of_ble_eq_true rfl) dX1_store_40 ⟨Nat.le_of_ble_eq_true rfl, Nat.le_of_ble_eq_true rfl⟩ rfl rfl (fun H locs hP hD hS => ?_)
    refine lv_if_eq (tgt := 47) hx hb dX1_store_43 rfl (fun z => absurd z (by decide)) (fun _ => ?_)
    exact sm_vret hx hb hrt hlocks hS hP hD dX1_store_46
  · refine lv_iload_n hx hb dX1_store_25 rfl (lv_at hl 2 rfl) ?_
    refine lv_sipush (v := 256) hx hb dX1_store_26 (by decide) ?_
    refine lv_iload_n hx hb dX1_store_29 rfl (lv_at hl 3 rfl) ?_
    refine lv_isub hx hb dX1_store_30 ?_
    refine sm_eqi (y := 252) (by decide) ?_
    refine lv_icmp_le (tgt := 38) hx hb dX1_store_31 rfl (fun z => absurd z (sm_orl hi h22)) (fun _ => ?_)
    refine lv_iconst (v := 1) hx hb dX1_store_34 (by decide) ?_
    refine lv_goto (tgt := 39) hx hb dX1_store_35 rfl ?_
    refine lv_iconst (v := 2) hx hb dX1_store_39 (by decide) ?_
    refine sm_callV (C := RX1) (As := [.int (sm_bI true), .int 2]) (rest := []) (wr := []) (wn := (sm_wM cZ m0 m1 m2 m3 m4 m5 m6 2 (sm_fb V) (sm_fb S) (sm_fo M) (sm_fl M) (sm_fw O) (sm_fw G))) (st1 := [.int (sm_bI true)]) ⟨hx, hb, hml, hown, hts⟩ (c_fails_t l D cZ m0 m1 m2 m3 m4 m5 m6 0 V S M O G 2) (cwV 2 hts (sm_gV (i1 := 266) (i2 := 267) (i3 := 348) (i4 := 2) (i5 := 268) rfl rfl rfl rfl rfl) rfl rfl rfl (by decide +kernel) ⟨Nat.le_of_ble_eq_true rfl, Nat.le_of_ble_eq_true rfl⟩) hK [0] rfl hP hD hS hA 0 rfl rfl [0, 1, 2, 3, 4, 5, 6] [] rfl rfl (by decide) (by decide) (by decide) rfl hl.1 rfl (Nat.le_of_ble_eq_true rfl) dX1_store_40 ⟨Nat.le_of_ble_eq_true rfl, Nat.le_of_ble_eq_true rfl⟩ rfl rfl (fun H locs hP hD hS => ?_)
    refine lv_if_eq (tgt := 47) hx hb dX1_store_43 rfl (fun z => absurd z (by decide)) (fun _ => ?_)
    exact sm_vret hx hb hrt hlocks hS hP hD dX1_store_46
set_option maxHeartbeats 4000000 in
set_option maxRecDepth 100000 in
theorem c_mstore_x2_4 (l : Launch) (D : va_G) (cZ : ClassId) (m0 m1 m2 m3 m4 m5 m6 : Nat) (err : Int32) (V S M : Nat → Int32) (O G : Int32) (i : Int32) (hi : i < 0 ∨ 16 ≤ i) (t : Int32) : sm_C l yX1_store wsX1_store ({ frames := 5, cells := 0, slots := 0, locals := 140 } : Room) D vwCl [(cZ, .boolean)] [.ref m0, .int i, .int t, .int 4] (sm_wM cZ m0 m1 m2 m3 m4 m5 m6 err (sm_fb V) (sm_fb S) (sm_fo M) (sm_fl M) (sm_fw O) (sm_fw G)) none (sm_wM cZ m0 m1 m2 m3 m4 m5 m6 2 (sm_fb V) (sm_fb S) (sm_fo M) (sm_fl M) (sm_fw O) (sm_fw G)) := by
  refine sm_start (cc := cX1_store) (maxL := 5) (ret := none) (lv := [(0, .ref m0), (1, .int i), (2, .int t), (3, .int 4)]) (by decide) rfl (Nat.le_of_ble_eq_true rfl) rfl ?_
  intro p e s m below meth c hx hb hrt hts hown hlocks hml hin hK hP hD hS hA ls hl
  have hw := sm_hw hts
  refine lv_aload_n hx hb dX1_store_0 rfl (lv_at hl 0 rfl) ?_
  refine lv_iload_n hx hb dX1_store_1 rfl (lv_at hl 3 rfl) ?_
  refine sm_callS (As := [.int 4]) (rest := [.ref m0]) (wr := (sm_wM cZ m0 m1 m2 m3 m4 m5 m6 err (sm_fb V) (sm_fb S) (sm_fo M) (sm_fl M) (sm_fw O) (sm_fw G))) (wn := (sm_wM cZ m0 m1 m2 m3 m4 m5 m6 err (sm_fb V) (sm_fb S) (sm_fo M) (sm_fl M) (sm_fw O) (sm_fw G))) (st1 := [.int (sm_bI false), .ref m0]) ⟨hx, hb, hml, hown, hts⟩ (c_wrong_4 l D) (va_cwS 1 hts (sm_gS (i1 := 311) (i2 := 312) (i4 := 2) (i5 := 313) rfl rfl rfl rfl) rfl rfl rfl (by decide +kernel) ⟨Nat.le_of_ble_eq_true rfl, Nat.le_of_ble_eq_true rfl⟩) hK [] rfl hP hD hS hA [] [0, 1, 2, 3, 4, 5, 6] rfl rfl (by decide) (by decide) (by decide) rfl hl.1 rfl (Nat.le_of_ble_eq_true rfl) dX1_store_2 ⟨Nat.le_of_ble_eq_true rfl, Nat.le_of_ble_eq_true rfl⟩ rfl rfl (fun H locs hP hD hS => ?_)
  refine lv_iconst (v := 1) hx hb dX1_store_5 (by decide) ?_
  refine sm_callV (C := RX1) (As := [.int (sm_bI false), .int 1]) (rest := []) (wr := []) (wn := (sm_wM cZ m0 m1 m2 m3 m4 m5 m6 0 (sm_fb V) (sm_fb S) (sm_fo M) (sm_fl M) (sm_fw O) (sm_fw G))) (st1 := [.int (sm_bI false)]) ⟨hx, hb, hml, hown, hts⟩ (c_fails_f l D cZ m0 m1 m2 m3 m4 m5 m6 err V S M O G 1) (cwV 2 hts (sm_gV (i1 := 266) (i2 := 267) (i3 := 348) (i4 := 2) (i5 := 268) rfl rfl rfl rfl rfl) rfl rfl rfl (by decide +kernel) ⟨Nat.le_of_ble_eq_true rfl, Nat.le_of_ble_eq_true rfl⟩) hK [0] rfl hP hD hS hA 0 rfl rfl [0, 1, 2, 3, 4, 5, 6] [] rfl rfl (by decide) (by decide) (by decide) rfl hl.1 rfl (Nat.le_of_ble_eq_true rfl) dX1_store_6 ⟨Nat.le_of_ble_eq_true rfl, Nat.le_of_ble_eq_true rfl⟩ rfl rfl (fun H locs hP hD hS => ?_)
  refine lv_if_eq (tgt := 13) hx hb dX1_store_9 rfl (fun _ => ?_) (fun z => absurd (by decide) z)
  refine lv_aload_n hx hb dX1_store_13 rfl (lv_at hl 0 rfl) ?_
  refine lv_iload_n hx hb dX1_store_14 rfl (lv_at hl 1 rfl) ?_
  refine sm_callS (As := [.int i]) (rest := [.ref m0]) (wr := (sm_wM cZ m0 m1 m2 m3 m4 m5 m6 0 (sm_fb V) (sm_fb S) (sm_fo M) (sm_fl M) (sm_fw O) (sm_fw G))) (wn := (sm_wM cZ m0 m1 m2 m3 m4 m5 m6 0 (sm_fb V) (sm_fb S) (sm_fo M) (sm_fl M) (sm_fw O) (sm_fw G))) (st1 := [.int (sm_bI true), .ref m0]) ⟨hx, hb, hml, hown, hts⟩ (c_none_t l D i hi) (va_cwS 1 hts (sm_gS (i1 := 263) (i2 := 264) (i4 := 2) (i5 := 265) rfl rfl rfl rfl) rfl rfl rfl (by decide +kernel) ⟨Nat.le_of_ble_eq_true rfl, Nat.le_of_ble_eq_true rfl⟩) hK [] rfl hP hD hS hA [] [0, 1, 2, 3, 4, 5, 6] rfl rfl (by decide) (by decide) (by decide) rfl hl.1 rfl (Nat.le_of_ble_eq_true rfl) dX1_store_15 ⟨Nat.le_of_ble_eq_true rfl, Nat.le_of_ble_eq_true rfl⟩ rfl rfl (fun H locs hP hD hS => ?_)
  refine lv_if_ne (tgt := 34) hx hb dX1_store_18 rfl (fun _ => ?_) (fun z => absurd z (by decide))
  refine lv_iconst (v := 1) hx hb dX1_store_34 (by decide) ?_
  refine lv_goto (tgt := 39) hx hb dX1_store_35 rfl ?_
  refine lv_iconst (v := 2) hx hb dX1_store_39 (by decide) ?_
  refine sm_callV (C := RX1) (As := [.int (sm_bI true), .int 2]) (rest := []) (wr := []) (wn := (sm_wM cZ m0 m1 m2 m3 m4 m5 m6 2 (sm_fb V) (sm_fb S) (sm_fo M) (sm_fl M) (sm_fw O) (sm_fw G))) (st1 := [.int (sm_bI true)]) ⟨hx, hb, hml, hown, hts⟩ (c_fails_t l D cZ m0 m1 m2 m3 m4 m5 m6 0 V S M O G 2) (cwV 2 hts (sm_gV (i1 := 266) (i2 := 267) (i3 := 348) (i4 := 2) (i5 := 268) rfl rfl rfl rfl rfl) rfl rfl rfl (by decide +kernel) ⟨Nat.le_of_ble_eq_true rfl, Nat.le_of_ble_eq_true rfl⟩) hK [0] rfl hP hD hS hA 0 rfl rfl [0, 1, 2, 3, 4, 5, 6] [] rfl rfl (by decide) (by decide) (by decide) rfl hl.1 rfl (Nat.le_of_ble_eq_true rfl) dX1_store_40 ⟨Nat.le_of_ble_eq_true rfl, Nat.le_of_ble_eq_true rfl⟩ rfl rfl (fun H locs hP hD hS => ?_)
  refine lv_if_eq (tgt := 47) hx hb dX1_store_43 rfl (fun z => absurd z (by decide)) (fun _ => ?_)
  exact sm_vret hx hb hrt hlocks hS hP hD dX1_store_46
set_option maxHeartbeats 4000000 in
set_option maxRecDepth 100000 in
theorem c_mload_x0 (l : Launch) (D : va_G) (cZ : ClassId) (m0 m1 m2 m3 m4 m5 m6 : Nat) (err : Int32) (V S M : Nat → Int32) (O G : Int32) (r t n : Int32) (h1' : ¬ n = 1) (h2' : ¬ n = 2) (h4' : ¬ n = 4) (sg : Bool) : sm_C l yX1_load wsX1_load ({ frames := 5, cells := 0, slots := 0, locals := 140 } : Room) D vwCl [(cZ, .boolean)] [.ref m0, .int r, .int t, .int n, .int (sm_bI sg)] (sm_wM cZ m0 m1 m2 m3 m4 m5 m6 err (sm_fb V) (sm_fb S) (sm_fo M) (sm_fl M) (sm_fw O) (sm_fw G)) none (sm_wM cZ m0 m1 m2 m3 m4 m5 m6 1 (sm_fb V) (sm_fb S) (sm_fo M) (sm_fl M) (sm_fw O) (sm_fw G)) := by
  refine sm_start (cc := cX1_load) (maxL := 8) (ret := none) (lv := [(0, .ref m0), (1, .int r), (2, .int t), (3, .int n), (4, .int (sm_bI sg))]) (by decide) rfl (Nat.le_of_ble_eq_true rfl) rfl ?_
  intro p e s m below meth c hx hb hrt hts hown hlocks hml hin hK hP hD hS hA ls hl
  have hw := sm_hw hts
  refine lv_aload_n hx hb dX1_load_0 rfl (lv_at hl 0 rfl) ?_
  refine lv_iload_n hx hb dX1_load_1 rfl (lv_at hl 3 rfl) ?_
  refine sm_callS (As := [.int n]) (rest := [.ref m0]) (wr := (sm_wM cZ m0 m1 m2 m3 m4 m5 m6 err (sm_fb V) (sm_fb S) (sm_fo M) (sm_fl M) (sm_fw O) (sm_fw G))) (wn := (sm_wM cZ m0 m1 m2 m3 m4 m5 m6 err (sm_fb V) (sm_fb S) (sm_fo M) (sm_fl M) (sm_fw O) (sm_fw G))) (st1 := [.int (sm_bI true), .ref m0]) ⟨hx, hb, hml, hown, hts⟩ (c_wrong_x l D n h1' h2' h4') (va_cwS 1 hts (sm_gS (i1 := 311) (i2 := 312) (i4 := 2) (i5 := 313) rfl rfl rfl rfl) rfl rfl rfl (by decide +kernel) ⟨Nat.le_of_ble_eq_true rfl, Nat.le_of_ble_eq_true rfl⟩) hK [] rfl hP hD hS hA [] [0, 1, 2, 3, 4, 5, 6] rfl rfl (by decide) (by decide) (by decide) rfl hl.1 rfl (Nat.le_of_ble_eq_true rfl) dX1_load_2 ⟨Nat.le_of_ble_eq_true rfl, Nat.le_of_ble_eq_true rfl⟩ rfl rfl (fun H locs hP hD hS => ?_)
  refine lv_iconst (v := 1) hx hb dX1_load_5 (by decide) ?_
  refine sm_callV (C := RX1) (As := [.int (sm_bI true), .int 1]) (rest := []) (wr := []) (wn := (sm_wM cZ m0 m1 m2 m3 m4 m5 m6 1 (sm_fb V) (sm_fb S) (sm_fo M) (sm_fl M) (sm_fw O) (sm_fw G))) (st1 := [.int (sm_bI true)]) ⟨hx, hb, hml, hown, hts⟩ (c_fails_t l D cZ m0 m1 m2 m3 m4 m5 m6 err V S M O G 1) (cwV 2 hts (sm_gV (i1 := 266) (i2 := 267) (i3 := 348) (i4 := 2) (i5 := 268) rfl rfl rfl rfl rfl) rfl rfl rfl (by decide +kernel) ⟨Nat.le_of_ble_eq_true rfl, Nat.le_of_ble_eq_true rfl⟩) hK [0] rfl hP hD hS hA 0 rfl rfl [0, 1, 2, 3, 4, 5, 6] [] rfl rfl (by decide) (by decide) (by decide) rfl hl.1 rfl (Nat.le_of_ble_eq_true rfl) dX1_load_6 ⟨Nat.le_of_ble_eq_true rfl, Nat.le_of_ble_eq_true rfl⟩ rfl rfl (fun H locs hP hD hS => ?_)
  refine lv_if_eq (tgt := 13) hx hb dX1_load_9 rfl (fun z => absurd z (by decide)) (fun _ => ?_)
  exact sm_vret hx hb hrt hlocks hS hP hD dX1_load_12
set_option maxHeartbeats 4000000 in
set_option maxRecDepth 100000 in
theorem c_mload_x1_1 (l : Launch) (D : va_G) (cZ : ClassId) (m0 m1 m2 m3 m4 m5 m6 : Nat) (err : Int32) (V S M : Nat → Int32) (O G : Int32) (r : Nat) (hr : r < 16) (i : Int32) (hi : i < 0 ∨ 255 < i) (sg : Bool) : sm_C l yX1_load wsX1_load ({ frames := 5, cells := 0, slots := 0, locals := 140 } : Room) D vwCl [(cZ, .boolean)] [.ref m0, .int (nI r), .int i, .int 1, .int (sm_bI sg)] (sm_wM cZ m0 m1 m2 m3 m4 m5 m6 err (sm_fb V) (sm_fb S) (sm_fo M) (sm_fl M) (sm_fw O) (sm_fw G)) none (sm_wM cZ m0 m1 m2 m3 m4 m5 m6 2 (sm_fb V) (sm_fb S) (sm_fo M) (sm_fl M) (sm_fw O) (sm_fw G)) := by
  refine sm_start (cc := cX1_load) (maxL := 8) (ret := none) (lv := [(0, .ref m0), (1, .int (nI r)), (2, .int i), (3, .int 1), (4, .int (sm_bI sg))]) (by decide) rfl (Nat.le_of_ble_eq_true rfl) rfl ?_
  intro p e s m below meth c hx hb hrt hts hown hlocks hml hin hK hP hD hS hA ls hl
  have hw := sm_hw hts
  refine lv_aload_n hx hb dX1_load_0 rfl (lv_at hl 0 rfl) ?_
  refine lv_iload_n hx hb dX1_load_1 rfl (lv_at hl 3 rfl) ?_
  refine sm_callS (As := [.int 1]) (rest := [.ref m0]) (wr := (sm_wM cZ m0 m1 m2 m3 m4 m5 m6 err (sm_fb V) (sm_fb S) (sm_fo M) (sm_fl M) (sm_fw O) (sm_fw G))) (wn := (sm_wM cZ m0 m1 m2 m3 m4 m5 m6 err (sm_fb V) (sm_fb S) (sm_fo M) (sm_fl M) (sm_fw O) (sm_fw G))) (st1 := [.int (sm_bI false), .ref m0]) ⟨hx, hb, hml, hown, hts⟩ (c_wrong_1 l D) (va_cwS 1 hts (sm_gS (i1 := 311) (i2 := 312) (i4 := 2) (i5 := 313) rfl rfl rfl rfl) rfl rfl rfl (by decide +kernel) ⟨Nat.le_of_ble_eq_true rfl, Nat.le_of_ble_eq_true rfl⟩) hK [] rfl hP hD hS hA [] [0, 1, 2, 3, 4, 5, 6] rfl rfl (by decide) (by decide) (by decide) rfl hl.1 rfl (Nat.le_of_ble_eq_true rfl) dX1_load_2 ⟨Nat.le_of_ble_eq_true rfl, Nat.le_of_ble_eq_true rfl⟩ rfl rfl (fun H locs hP hD hS => ?_)
  refine lv_iconst (v := 1) hx hb dX1_load_5 (by decide) ?_
  refine sm_callV (C := RX1) (As := [.int (sm_bI false), .int 1]) (rest := []) (wr := []) (wn := (sm_wM cZ m0 m1 m2 m3 m4 m5 m6 0 (sm_fb V) (sm_fb S) (sm_fo M) (sm_fl M) (sm_fw O) (sm_fw G))) (st1 := [.int (sm_bI false)]) ⟨hx, hb, hml, hown, hts⟩ (c_fails_f l D cZ m0 m1 m2 m3 m4 m5 m6 err V S M O G 1) (cwV 2 hts (sm_gV (i1 := 266) (i2 := 267) (i3 := 348) (i4 := 2) (i5 := 268) rfl rfl rfl rfl rfl) rfl rfl rfl (by decide +kernel) ⟨Nat.le_of_ble_eq_true rfl, Nat.le_of_ble_eq_true rfl⟩) hK [0] rfl hP hD hS hA 0 rfl rfl [0, 1, 2, 3, 4, 5, 6] [] rfl rfl (by decide) (by decide) (by decide) rfl hl.1 rfl (Nat.le_of_ble_eq_true rfl) dX1_load_6 ⟨Nat.le_of_ble_eq_true rfl, Nat.le_of_ble_eq_true rfl⟩ rfl rfl (fun H locs hP hD hS => ?_)
  refine lv_if_eq (tgt := 13) hx hb dX1_load_9 rfl (fun _ => ?_) (fun z => absurd (by decide) z)
  refine lv_aload_n hx hb dX1_load_13 rfl (lv_at hl 0 rfl) ?_
  refine lv_iload_n hx hb dX1_load_14 rfl (lv_at hl 1 rfl) ?_
  refine sm_callS (As := [.int (nI r)]) (rest := [.ref m0]) (wr := (sm_wM cZ m0 m1 m2 m3 m4 m5 m6 0 (sm_fb V) (sm_fb S) (sm_fo M) (sm_fl M) (sm_fw O) (sm_fw G))) (wn := (sm_wM cZ m0 m1 m2 m3 m4 m5 m6 0 (sm_fb V) (sm_fb S) (sm_fo M) (sm_fl M) (sm_fw O) (sm_fw G))) (st1 := [.int (sm_bI false), .ref m0]) ⟨hx, hb, hml, hown, hts⟩ (c_none_f l D r (by omega)) (va_cwS 1 hts (sm_gS (i1 := 263) (i2 := 264) (i4 := 2) (i5 := 265) rfl rfl rfl rfl) rfl rfl rfl (by decide +kernel) ⟨Nat.le_of_ble_eq_true rfl, Nat.le_of_ble_eq_true rfl⟩) hK [] rfl hP hD hS hA [] [0, 1, 2, 3, 4, 5, 6] rfl rfl (by decide) (by decide) (by decide) rfl hl.1 rfl (Nat.le_of_ble_eq_true rfl) dX1_load_15 ⟨Nat.le_of_ble_eq_true rfl, Nat.le_of_ble_eq_true rfl⟩ rfl rfl (fun H locs hP hD hS => ?_)
  refine lv_if_ne (tgt := 34) hx hb dX1_load_18 rfl (fun z => absurd (by decide) z) (fun _ => ?_)
  refine lv_iload_n hx hb dX1_load_21 rfl (lv_at hl 2 rfl) ?_
  refine lv_if_lt (tgt := 34) hx hb dX1_load_22 rfl (fun h22 => ?_) (fun h22 => ?_)
  · refine lv_iconst (v := 1) hx hb dX1_load_34 (by decide) ?_
    refine lv_goto (tgt := 39) hx hb dX1_load_35 rfl ?_
    refine lv_iconst (v := 2) hx hb dX1_load_39 (by decide) ?_
    refine sm_callV (C := RX1) (As := [.int (sm_bI true), .int 2]) (rest := []) (wr := []) (wn := (sm_wM cZ m0 m1 m2 m3 m4 m5 m6 2 (sm_fb V) (sm_fb S) (sm_fo M) (sm_fl M) (sm_fw O) (sm_fw G))) (st1 := [.int (sm_bI true)]) ⟨hx, hb, hml, hown, hts⟩ (c_fails_t l D cZ m0 m1 m2 m3 m4 m5 m6 0 V S M O G 2) (cwV 2 hts (sm_gV (i1 := 266) (i2 := 267) (i3 := 348) (i4 := 2) (i5 := 268) rfl rfl rfl rfl rfl) rfl rfl rfl (by decide +kernel) ⟨Nat.le_of_ble_eq_true rfl, Nat.le_of_ble_eq_true rfl⟩) hK [0] rfl hP hD hS hA 0 rfl rfl [0, 1, 2, 3, 4, 5, 6] [] rfl rfl (by decide) (by decide) (by decide) rfl hl.1 rfl (Nat.le_of_ble_eq_true rfl) dX1_load_40 ⟨Nat.le_of_ble_eq_true rfl, Nat.le_of_ble_eq_true rfl⟩ rfl rfl (fun H locs hP hD hS => ?_)
    refine lv_if_eq (tgt := 47) hx hb dX1_load_43 rfl (fun z => absurd z (by decide)) (fun _ => ?_)
    exact sm_vret hx hb hrt hlocks hS hP hD dX1_load_46
  · refine lv_iload_n hx hb dX1_load_25 rfl (lv_at hl 2 rfl) ?_
    refine lv_sipush (v := 256) hx hb dX1_load_26 (by decide) ?_
    refine lv_iload_n hx hb dX1_load_29 rfl (lv_at hl 3 rfl) ?_
    refine lv_isub hx hb dX1_load_30 ?_
    refine sm_eqi (y := 255) (by decide) ?_
    refine lv_icmp_le (tgt := 38) hx hb dX1_load_31 rfl (fun z => absurd z (sm_orl hi h22)) (fun _ => ?_)
    refine lv_iconst (v := 1) hx hb dX1_load_34 (by decide) ?_
    refine lv_goto (tgt := 39) hx hb dX1_load_35 rfl ?_
    refine lv_iconst (v := 2) hx hb dX1_load_39 (by decide) ?_
    refine sm_callV (C := RX1) (As := [.int (sm_bI true), .int 2]) (rest := []) (wr := []) (wn := (sm_wM cZ m0 m1 m2 m3 m4 m5 m6 2 (sm_fb V) (sm_fb S) (sm_fo M) (sm_fl M) (sm_fw O) (sm_fw G))) (st1 := [.int (sm_bI true)]) ⟨hx, hb, hml, hown, hts⟩ (c_fails_t l D cZ m0 m1 m2 m3 m4 m5 m6 0 V S M O G 2) (cwV 2 hts (sm_gV (i1 := 266) (i2 := 267) (i3 := 348) (i4 := 2) (i5 := 268) rfl rfl rfl rfl rfl) rfl rfl rfl (by decide +kernel) ⟨Nat.le_of_ble_eq_true rfl, Nat.le_of_ble_eq_true rfl⟩) hK [0] rfl hP hD hS hA 0 rfl rfl [0, 1, 2, 3, 4, 5, 6] [] rfl rfl (by decide) (by decide) (by decide) rfl hl.1 rfl (Nat.le_of_ble_eq_true rfl) dX1_load_40 ⟨Nat.le_of_ble_eq_true rfl, Nat.le_of_ble_eq_true rfl⟩ rfl rfl (fun H locs hP hD hS => ?_)
    refine lv_if_eq (tgt := 47) hx hb dX1_load_43 rfl (fun z => absurd z (by decide)) (fun _ => ?_)
    exact sm_vret hx hb hrt hlocks hS hP hD dX1_load_46
set_option maxHeartbeats 4000000 in
set_option maxRecDepth 100000 in
theorem c_mload_x2_1 (l : Launch) (D : va_G) (cZ : ClassId) (m0 m1 m2 m3 m4 m5 m6 : Nat) (err : Int32) (V S M : Nat → Int32) (O G : Int32) (i : Int32) (hi : i < 0 ∨ 16 ≤ i) (t : Int32) (sg : Bool) : sm_C l yX1_load wsX1_load ({ frames := 5, cells := 0, slots := 0, locals := 140 } : Room) D vwCl [(cZ, .boolean)] [.ref m0, .int i, .int t, .int 1, .int (sm_bI sg)] (sm_wM cZ m0 m1 m2 m3 m4 m5 m6 err (sm_fb V) (sm_fb S) (sm_fo M) (sm_fl M) (sm_fw O) (sm_fw G)) none (sm_wM cZ m0 m1 m2 m3 m4 m5 m6 2 (sm_fb V) (sm_fb S) (sm_fo M) (sm_fl M) (sm_fw O) (sm_fw G)) := by
  refine sm_start (cc := cX1_load) (maxL := 8) (ret := none) (lv := [(0, .ref m0), (1, .int i), (2, .int t), (3, .int 1), (4, .int (sm_bI sg))]) (by decide) rfl (Nat.le_of_ble_eq_true rfl) rfl ?_
  intro p e s m below meth c hx hb hrt hts hown hlocks hml hin hK hP hD hS hA ls hl
  have hw := sm_hw hts
  refine lv_aload_n hx hb dX1_load_0 rfl (lv_at hl 0 rfl) ?_
  refine lv_iload_n hx hb dX1_load_1 rfl (lv_at hl 3 rfl) ?_
  refine sm_callS (As := [.int 1]) (rest := [.ref m0]) (wr := (sm_wM cZ m0 m1 m2 m3 m4 m5 m6 err (sm_fb V) (sm_fb S) (sm_fo M) (sm_fl M) (sm_fw O) (sm_fw G))) (wn := (sm_wM cZ m0 m1 m2 m3 m4 m5 m6 err (sm_fb V) (sm_fb S) (sm_fo M) (sm_fl M) (sm_fw O) (sm_fw G))) (st1 := [.int (sm_bI false), .ref m0]) ⟨hx, hb, hml, hown, hts⟩ (c_wrong_1 l D) (va_cwS 1 hts (sm_gS (i1 := 311) (i2 := 312) (i4 := 2) (i5 := 313) rfl rfl rfl rfl) rfl rfl rfl (by decide +kernel) ⟨Nat.le_of_ble_eq_true rfl, Nat.le_of_ble_eq_true rfl⟩) hK [] rfl hP hD hS hA [] [0, 1, 2, 3, 4, 5, 6] rfl rfl (by decide) (by decide) (by decide) rfl hl.1 rfl (Nat.le_of_ble_eq_true rfl) dX1_load_2 ⟨Nat.le_of_ble_eq_true rfl, Nat.le_of_ble_eq_true rfl⟩ rfl rfl (fun H locs hP hD hS => ?_)
  refine lv_iconst (v := 1) hx hb dX1_load_5 (by decide) ?_
  refine sm_callV (C := RX1) (As := [.int (sm_bI false), .int 1]) (rest := []) (wr := []) (wn := (sm_wM cZ m0 m1 m2 m3 m4 m5 m6 0 (sm_fb V) (sm_fb S) (sm_fo M) (sm_fl M) (sm_fw O) (sm_fw G))) (st1 := [.int (sm_bI false)]) ⟨hx, hb, hml, hown, hts⟩ (c_fails_f l D cZ m0 m1 m2 m3 m4 m5 m6 err V S M O G 1) (cwV 2 hts (sm_gV (i1 := 266) (i2 := 267) (i3 := 348) (i4 := 2) (i5 := 268) rfl rfl rfl rfl rfl) rfl rfl rfl (by decide +kernel) ⟨Nat.le_of_ble_eq_true rfl, Nat.le_of_ble_eq_true rfl⟩) hK [0] rfl hP hD hS hA 0 rfl rfl [0, 1, 2, 3, 4, 5, 6] [] rfl rfl (by decide) (by decide) (by decide) rfl hl.1 rfl (Nat.le_of_ble_eq_true rfl) dX1_load_6 ⟨Nat.le_of_ble_eq_true rfl, Nat.le_of_ble_eq_true rfl⟩ rfl rfl (fun H locs hP hD hS => ?_)
  refine lv_if_eq (tgt := 13) hx hb dX1_load_9 rfl (fun _ => ?_) (fun z => absurd (by decide) z)
  refine lv_aload_n hx hb dX1_load_13 rfl (lv_at hl 0 rfl) ?_
  refine lv_iload_n hx hb dX1_load_14 rfl (lv_at hl 1 rfl) ?_
  refine sm_callS (As := [.int i]) (rest := [.ref m0]) (wr := (sm_wM cZ m0 m1 m2 m3 m4 m5 m6 0 (sm_fb V) (sm_fb S) (sm_fo M) (sm_fl M) (sm_fw O) (sm_fw G))) (wn := (sm_wM cZ m0 m1 m2 m3 m4 m5 m6 0 (sm_fb V) (sm_fb S) (sm_fo M) (sm_fl M) (sm_fw O) (sm_fw G))) (st1 := [.int (sm_bI true), .ref m0]) ⟨hx, hb, hml, hown, hts⟩ (c_none_t l D i hi) (va_cwS 1 hts (sm_gS (i1 := 263) (i2 := 264) (i4 := 2) (i5 := 265) rfl rfl rfl rfl) rfl rfl rfl (by decide +kernel) ⟨Nat.le_of_ble_eq_true rfl, Nat.le_of_ble_eq_true rfl⟩) hK [] rfl hP hD hS hA [] [0, 1, 2, 3, 4, 5, 6] rfl rfl (by decide) (by decide) (by decide) rfl hl.1 rfl (Nat.le_of_ble_eq_true rfl) dX1_load_15 ⟨Nat.le_of_ble_eq_true rfl, Nat.le_of_ble_eq_true rfl⟩ rfl rfl (fun H locs hP hD hS => ?_)
  refine lv_if_ne (tgt := 34) hx hb dX1_load_18 rfl (fun _ => ?_) (fun z => absurd z (by decide))
  refine lv_iconst (v := 1) hx hb dX1_load_34 (by decide) ?_
  refine lv_goto (tgt := 39) hx hb dX1_load_35 rfl ?_
  refine lv_iconst (v := 2) hx hb dX1_load_39 (by decide) ?_
  refine sm_callV (C := RX1) (As := [.int (sm_bI true), .int 2]) (rest := []) (wr := []) (wn := (sm_wM cZ m0 m1 m2 m3 m4 m5 m6 2 (sm_fb V) (sm_fb S) (sm_fo M) (sm_fl M) (sm_fw O) (sm_fw G))) (st1 := [.int (sm_bI true)]) ⟨hx, hb, hml, hown, hts⟩ (c_fails_t l D cZ m0 m1 m2 m3 m4 m5 m6 0 V S M O G 2) (cwV 2 hts (sm_gV (i1 := 266) (i2 := 267) (i3 := 348) (i4 := 2) (i5 := 268) rfl rfl rfl rfl rfl) rfl rfl rfl (by decide +kernel) ⟨Nat.le_of_ble_eq_true rfl, Nat.le_of_ble_eq_true rfl⟩) hK [0] rfl hP hD hS hA 0 rfl rfl [0, 1, 2, 3, 4, 5, 6] [] rfl rfl (by decide) (by decide) (by decide) rfl hl.1 rfl (Nat.le_of_ble_eq_true rfl) dX1_load_40 ⟨Nat.le_of_ble_eq_true rfl, Nat.le_of_ble_eq_true rfl⟩ rfl rfl (fun H locs hP hD hS => ?_)
  refine lv_if_eq (tgt := 47) hx hb dX1_load_43 rfl (fun z => absurd z (by decide)) (fun _ => ?_)
  exact sm_vret hx hb hrt hlocks hS hP hD dX1_load_46
set_option maxHeartbeats 4000000 in
set_option maxRecDepth 100000 in
theorem c_mload_x1_2 (l : Launch) (D : va_G) (cZ : ClassId) (m0 m1 m2 m3 m4 m5 m6 : Nat) (err : Int32) (V S M : Nat → Int32) (O G : Int32) (r : Nat) (hr : r < 16) (i : Int32) (hi : i < 0 ∨ 254 < i) (sg : Bool) : sm_C l yX1_load wsX1_load ({ frames := 5, cells := 0, slots := 0, locals := 140 } : Room) D vwCl [(cZ, .boolean)] [.ref m0, .int (nI r), .int i, .int 2, .int (sm_bI sg)] (sm_wM cZ m0 m1 m2 m3 m4 m5 m6 err (sm_fb V) (sm_fb S) (sm_fo M) (sm_fl M) (sm_fw O) (sm_fw G)) none (sm_wM cZ m0 m1 m2 m3 m4 m5 m6 2 (sm_fb V) (sm_fb S) (sm_fo M) (sm_fl M) (sm_fw O) (sm_fw G)) := by
  refine sm_start (cc := cX1_load) (maxL := 8) (ret := none) (lv := [(0, .ref m0), (1, .int (nI r)), (2, .int i), (3, .int 2), (4, .int (sm_bI sg))]) (by decide) rfl (Nat.le_of_ble_eq_true rfl) rfl ?_
  intro p e s m below meth c hx hb hrt hts hown hlocks hml hin hK hP hD hS hA ls hl
  have hw := sm_hw hts
  refine lv_aload_n hx hb dX1_load_0 rfl (lv_at hl 0 rfl) ?_
  refine lv_iload_n hx hb dX1_load_1 rfl (lv_at hl 3 rfl) ?_
  refine sm_callS (As := [.int 2]) (rest := [.ref m0]) (wr := (sm_wM cZ m0 m1 m2 m3 m4 m5 m6 err (sm_fb V) (sm_fb S) (sm_fo M) (sm_fl M) (sm_fw O) (sm_fw G))) (wn := (sm_wM cZ m0 m1 m2 m3 m4 m5 m6 err (sm_fb V) (sm_fb S) (sm_fo M) (sm_fl M) (sm_fw O) (sm_fw G))) (st1 := [.int (sm_bI false), .ref m0]) ⟨hx, hb, hml, hown, hts⟩ (c_wrong_2 l D) (va_cwS 1 hts (sm_gS (i1 := 311) (i2 := 312) (i4 := 2) (i5 := 313) rfl rfl rfl rfl) rfl rfl rfl (by decide +kernel) ⟨Nat.le_of_ble_eq_true rfl, Nat.le_of_ble_eq_true rfl⟩) hK [] rfl hP hD hS hA [] [0, 1, 2, 3, 4, 5, 6] rfl rfl (by decide) (by decide) (by decide) rfl hl.1 rfl (Nat.le_of_ble_eq_true rfl) dX1_load_2 ⟨Nat.le_of_ble_eq_true rfl, Nat.le_of_ble_eq_true rfl⟩ rfl rfl (fun H locs hP hD hS => ?_)
  refine lv_iconst (v := 1) hx hb dX1_load_5 (by decide) ?_
  refine sm_callV (C := RX1) (As := [.int (sm_bI false), .int 1]) (rest := []) (wr := []) (wn := (sm_wM cZ m0 m1 m2 m3 m4 m5 m6 0 (sm_fb V) (sm_fb S) (sm_fo M) (sm_fl M) (sm_fw O) (sm_fw G))) (st1 := [.int (sm_bI false)]) ⟨hx, hb, hml, hown, hts⟩ (c_fails_f l D cZ m0 m1 m2 m3 m4 m5 m6 err V S M O G 1) (cwV 2 hts (sm_gV (i1 := 266) (i2 := 267) (i3 := 348) (i4 := 2) (i5 := 268) rfl rfl rfl rfl rfl) rfl rfl rfl (by decide +kernel) ⟨Nat.le_of_ble_eq_true rfl, Nat.le_of_ble_eq_true rfl⟩) hK [0] rfl hP hD hS hA 0 rfl rfl [0, 1, 2, 3, 4, 5, 6] [] rfl rfl (by decide) (by decide) (by decide) rfl hl.1 rfl (Nat.le_of_ble_eq_true rfl) dX1_load_6 ⟨Nat.le_of_ble_eq_true rfl, Nat.le_of_ble_eq_true rfl⟩ rfl rfl (fun H locs hP hD hS => ?_)
  refine lv_if_eq (tgt := 13) hx hb dX1_load_9 rfl (fun _ => ?_) (fun z => absurd (by decide) z)
  refine lv_aload_n hx hb dX1_load_13 rfl (lv_at hl 0 rfl) ?_
  refine lv_iload_n hx hb dX1_load_14 rfl (lv_at hl 1 rfl) ?_
  refine sm_callS (As := [.int (nI r)]) (rest := [.ref m0]) (wr := (sm_wM cZ m0 m1 m2 m3 m4 m5 m6 0 (sm_fb V) (sm_fb S) (sm_fo M) (sm_fl M) (sm_fw O) (sm_fw G))) (wn := (sm_wM cZ m0 m1 m2 m3 m4 m5 m6 0 (sm_fb V) (sm_fb S) (sm_fo M) (sm_fl M) (sm_fw O) (sm_fw G))) (st1 := [.int (sm_bI false), .ref m0]) ⟨hx, hb, hml, hown, hts⟩ (c_none_f l D r (by omega)) (va_cwS 1 hts (sm_gS (i1 := 263) (i2 := 264) (i4 := 2) (i5 := 265) rfl rfl rfl rfl) rfl rfl rfl (by decide +kernel) ⟨Nat.le_of_ble_eq_true rfl, Nat.le_of_ble_eq_true rfl⟩) hK [] rfl hP hD hS hA [] [0, 1, 2, 3, 4, 5, 6] rfl rfl (by decide) (by decide) (by decide) rfl hl.1 rfl (Nat.le_of_ble_eq_true rfl) dX1_load_15 ⟨Nat.le_of_ble_eq_true rfl, Nat.le_of_ble_eq_true rfl⟩ rfl rfl (fun H locs hP hD hS => ?_)
  refine lv_if_ne (tgt := 34) hx hb dX1_load_18 rfl (fun z => absurd (by decide) z) (fun _ => ?_)
  refine lv_iload_n hx hb dX1_load_21 rfl (lv_at hl 2 rfl) ?_
  refine lv_if_lt (tgt := 34) hx hb dX1_load_22 rfl (fun h22 => ?_) (fun h22 => ?_)
  · refine lv_iconst (v := 1) hx hb dX1_load_34 (by decide) ?_
    refine lv_goto (tgt := 39) hx hb dX1_load_35 rfl ?_
    refine lv_iconst (v := 2) hx hb dX1_load_39 (by decide) ?_
    refine sm_callV (C := RX1) (As := [.int (sm_bI true), .int 2]) (rest := []) (wr := []) (wn := (sm_wM cZ m0 m1 m2 m3 m4 m5 m6 2 (sm_fb V) (sm_fb S) (sm_fo M) (sm_fl M) (sm_fw O) (sm_fw G))) (st1 := [.int (sm_bI true)]) ⟨hx, hb, hml, hown, hts⟩ (c_fails_t l D cZ m0 m1 m2 m3 m4 m5 m6 0 V S M O G 2) (cwV 2 hts (sm_gV (i1 := 266) (i2 := 267) (i3 := 348) (i4 := 2) (i5 := 268) rfl rfl rfl rfl rfl) rfl rfl rfl (by decide +kernel) ⟨Nat.le_of_ble_eq_true rfl, Nat.le_of_ble_eq_true rfl⟩) hK [0] rfl hP hD hS hA 0 rfl rfl [0, 1, 2, 3, 4, 5, 6] [] rfl rfl (by decide) (by decide) (by decide) rfl hl.1 rfl (Nat.le_of_ble_eq_true rfl) dX1_load_40 ⟨Nat.le_of_ble_eq_true rfl, Nat.le_of_ble_eq_true rfl⟩ rfl rfl (fun H locs hP hD hS => ?_)
    refine lv_if_eq (tgt := 47) hx hb dX1_load_43 rfl (fun z => absurd z (by decide)) (fun _ => ?_)
    exact sm_vret hx hb hrt hlocks hS hP hD dX1_load_46
  · refine lv_iload_n hx hb dX1_load_25 rfl (lv_at hl 2 rfl) ?_
    refine lv_sipush (v := 256) hx hb dX1_load_26 (by decide) ?_
    refine lv_iload_n hx hb dX1_load_29 rfl (lv_at hl 3 rfl) ?_
    refine lv_isub hx hb dX1_load_30 ?_
    refine sm_eqi (y := 254) (by decide) ?_
    refine lv_icmp_le (tgt := 38) hx hb dX1_load_31 rfl (fun z => absurd z (sm_orl hi h22)) (fun _ => ?_)
    refine lv_iconst (v := 1) hx hb dX1_load_34 (by decide) ?_
    refine lv_goto (tgt := 39) hx hb dX1_load_35 rfl ?_
    refine lv_iconst (v := 2) hx hb dX1_load_39 (by decide) ?_
    refine sm_callV (C := RX1) (As := [.int (sm_bI true), .int 2]) (rest := []) (wr := []) (wn := (sm_wM cZ m0 m1 m2 m3 m4 m5 m6 2 (sm_fb V) (sm_fb S) (sm_fo M) (sm_fl M) (sm_fw O) (sm_fw G))) (st1 := [.int (sm_bI true)]) ⟨hx, hb, hml, hown, hts⟩ (c_fails_t l D cZ m0 m1 m2 m3 m4 m5 m6 0 V S M O G 2) (cwV 2 hts (sm_gV (i1 := 266) (i2 := 267) (i3 := 348) (i4 := 2) (i5 := 268) rfl rfl rfl rfl rfl) rfl rfl rfl (by decide +kernel) ⟨Nat.le_of_ble_eq_true rfl, Nat.le_of_ble_eq_true rfl⟩) hK [0] rfl hP hD hS hA 0 rfl rfl [0, 1, 2, 3, 4, 5, 6] [] rfl rfl (by decide) (by decide) (by decide) rfl hl.1 rfl (Nat.le_of_ble_eq_true rfl) dX1_load_40 ⟨Nat.le_of_ble_eq_true rfl, Nat.le_of_ble_eq_true rfl⟩ rfl rfl (fun H locs hP hD hS => ?_)
    refine lv_if_eq (tgt := 47) hx hb dX1_load_43 rfl (fun z => absurd z (by decide)) (fun _ => ?_)
    exact sm_vret hx hb hrt hlocks hS hP hD dX1_load_46
set_option maxHeartbeats 4000000 in
set_option maxRecDepth 100000 in
theorem c_mload_x2_2 (l : Launch) (D : va_G) (cZ : ClassId) (m0 m1 m2 m3 m4 m5 m6 : Nat) (err : Int32) (V S M : Nat → Int32) (O G : Int32) (i : Int32) (hi : i < 0 ∨ 16 ≤ i) (t : Int32) (sg : Bool) : sm_C l yX1_load wsX1_load ({ frames := 5, cells := 0, slots := 0, locals := 140 } : Room) D vwCl [(cZ, .boolean)] [.ref m0, .int i, .int t, .int 2, .int (sm_bI sg)] (sm_wM cZ m0 m1 m2 m3 m4 m5 m6 err (sm_fb V) (sm_fb S) (sm_fo M) (sm_fl M) (sm_fw O) (sm_fw G)) none (sm_wM cZ m0 m1 m2 m3 m4 m5 m6 2 (sm_fb V) (sm_fb S) (sm_fo M) (sm_fl M) (sm_fw O) (sm_fw G)) := by
  refine sm_start (cc := cX1_load) (maxL := 8) (ret := none) (lv := [(0, .ref m0), (1, .int i), (2, .int t), (3, .int 2), (4, .int (sm_bI sg))]) (by decide) rfl (Nat.le_of_ble_eq_true rfl) rfl ?_
  intro p e s m below meth c hx hb hrt hts hown hlocks hml hin hK hP hD hS hA ls hl
  have hw := sm_hw hts
  refine lv_aload_n hx hb dX1_load_0 rfl (lv_at hl 0 rfl) ?_
  refine lv_iload_n hx hb dX1_load_1 rfl (lv_at hl 3 rfl) ?_
  refine sm_callS (As := [.int 2]) (rest := [.ref m0]) (wr := (sm_wM cZ m0 m1 m2 m3 m4 m5 m6 err (sm_fb V) (sm_fb S) (sm_fo M) (sm_fl M) (sm_fw O) (sm_fw G))) (wn := (sm_wM cZ m0 m1 m2 m3 m4 m5 m6 err (sm_fb V) (sm_fb S) (sm_fo M) (sm_fl M) (sm_fw O) (sm_fw G))) (st1 := [.int (sm_bI false), .ref m0]) ⟨hx, hb, hml, hown, hts⟩ (c_wrong_2 l D) (va_cwS 1 hts (sm_gS (i1 := 311) (i2 := 312) (i4 := 2) (i5 := 313) rfl rfl rfl rfl) rfl rfl rfl (by decide +kernel) ⟨Nat.le_of_ble_eq_true rfl, Nat.le_of_ble_eq_true rfl⟩) hK [] rfl hP hD hS hA [] [0, 1, 2, 3, 4, 5, 6] rfl rfl (by decide) (by decide) (by decide) rfl hl.1 rfl (Nat.le_of_ble_eq_true rfl) dX1_load_2 ⟨Nat.le_of_ble_eq_true rfl, Nat.le_of_ble_eq_true rfl⟩ rfl rfl (fun H locs hP hD hS => ?_)
  refine lv_iconst (v := 1) hx hb dX1_load_5 (by decide) ?_
  refine sm_callV (C := RX1) (As := [.int (sm_bI false), .int 1]) (rest := []) (wr := []) (wn := (sm_wM cZ m0 m1 m2 m3 m4 m5 m6 0 (sm_fb V) (sm_fb S) (sm_fo M) (sm_fl M) (sm_fw O) (sm_fw G))) (st1 := [.int (sm_bI false)]) ⟨hx, hb, hml, hown, hts⟩ (c_fails_f l D cZ m0 m1 m2 m3 m4 m5 m6 err V S M O G 1) (cwV 2 hts (sm_gV (i1 := 266) (i2 := 267) (i3 := 348) (i4 := 2) (i5 := 268) rfl rfl rfl rfl rfl) rfl rfl rfl (by decide +kernel) ⟨Nat.le_of_ble_eq_true rfl, Nat.le_of_ble_eq_true rfl⟩) hK [0] rfl hP hD hS hA 0 rfl rfl [0, 1, 2, 3, 4, 5, 6] [] rfl rfl (by decide) (by decide) (by decide) rfl hl.1 rfl (Nat.le_of_ble_eq_true rfl) dX1_load_6 ⟨Nat.le_of_ble_eq_true rfl, Nat.le_of_ble_eq_true rfl⟩ rfl rfl (fun H locs hP hD hS => ?_)
  refine lv_if_eq (tgt := 13) hx hb dX1_load_9 rfl (fun _ => ?_) (fun z => absurd (by decide) z)
  refine lv_aload_n hx hb dX1_load_13 rfl (lv_at hl 0 rfl) ?_
  refine lv_iload_n hx hb dX1_load_14 rfl (lv_at hl 1 rfl) ?_
  refine sm_callS (As := [.int i]) (rest := [.ref m0]) (wr := (sm_wM cZ m0 m1 m2 m3 m4 m5 m6 0 (sm_fb V) (sm_fb S) (sm_fo M) (sm_fl M) (sm_fw O) (sm_fw G))) (wn := (sm_wM cZ m0 m1 m2 m3 m4 m5 m6 0 (sm_fb V) (sm_fb S) (sm_fo M) (sm_fl M) (sm_fw O) (sm_fw G))) (st1 := [.int (sm_bI true), .ref m0]) ⟨hx, hb, hml, hown, hts⟩ (c_none_t l D i hi) (va_cwS 1 hts (sm_gS (i1 := 263) (i2 := 264) (i4 := 2) (i5 := 265) rfl rfl rfl rfl) rfl rfl rfl (by decide +kernel) ⟨Nat.le_of_ble_eq_true rfl, Nat.le_of_ble_eq_true rfl⟩) hK [] rfl hP hD hS hA [] [0, 1, 2, 3, 4, 5, 6] rfl rfl (by decide) (by decide) (by decide) rfl hl.1 rfl (Nat.le_of_ble_eq_true rfl) dX1_load_15 ⟨Nat.le_of_ble_eq_true rfl, Nat.le_of_ble_eq_true rfl⟩ rfl rfl (fun H locs hP hD hS => ?_)
  refine lv_if_ne (tgt := 34) hx hb dX1_load_18 rfl (fun _ => ?_) (fun z => absurd z (by decide))
  refine lv_iconst (v := 1) hx hb dX1_load_34 (by decide) ?_
  refine lv_goto (tgt := 39) hx hb dX1_load_35 rfl ?_
  refine lv_iconst (v := 2) hx hb dX1_load_39 (by decide) ?_
  refine sm_callV (C := RX1) (As := [.int (sm_bI true), .int 2]) (rest := []) (wr := []) (wn := (sm_wM cZ m0 m1 m2 m3 m4 m5 m6 2 (sm_fb V) (sm_fb S) (sm_fo M) (sm_fl M) (sm_fw O) (sm_fw G))) (st1 := [.int (sm_bI true)]) ⟨hx, hb, hml, hown, hts⟩ (c_fails_t l D cZ m0 m1 m2 m3 m4 m5 m6 0 V S M O G 2) (cwV 2 hts (sm_gV (i1 := 266) (i2 := 267) (i3 := 348) (i4 := 2) (i5 := 268) rfl rfl rfl rfl rfl) rfl rfl rfl (by decide +kernel) ⟨Nat.le_of_ble_eq_true rfl, Nat.le_of_ble_eq_true rfl⟩) hK [0] rfl hP hD hS hA 0 rfl rfl [0, 1, 2, 3, 4, 5, 6] [] rfl rfl (by decide) (by decide) (by decide) rfl hl.1 rfl (Nat.le_of_ble_eq_true rfl) dX1_load_40 ⟨Nat.le_of_ble_eq_true rfl, Nat.le_of_ble_eq_true rfl⟩ rfl rfl (fun H locs hP hD hS => ?_)
  refine lv_if_eq (tgt := 47) hx hb dX1_load_43 rfl (fun z => absurd z (by decide)) (fun _ => ?_)
  exact sm_vret hx hb hrt hlocks hS hP hD dX1_load_46
set_option maxHeartbeats 4000000 in
set_option maxRecDepth 100000 in
theorem c_mload_x1_4 (l : Launch) (D : va_G) (cZ : ClassId) (m0 m1 m2 m3 m4 m5 m6 : Nat) (err : Int32) (V S M : Nat → Int32) (O G : Int32) (r : Nat) (hr : r < 16) (i : Int32) (hi : i < 0 ∨ 252 < i) (sg : Bool) : sm_C l yX1_load wsX1_load ({ frames := 5, cells := 0, slots := 0, locals := 140 } : Room) D vwCl [(cZ, .boolean)] [.ref m0, .int (nI r), .int i, .int 4, .int (sm_bI sg)] (sm_wM cZ m0 m1 m2 m3 m4 m5 m6 err (sm_fb V) (sm_fb S) (sm_fo M) (sm_fl M) (sm_fw O) (sm_fw G)) none (sm_wM cZ m0 m1 m2 m3 m4 m5 m6 2 (sm_fb V) (sm_fb S) (sm_fo M) (sm_fl M) (sm_fw O) (sm_fw G)) := by
  refine sm_start (cc := cX1_load) (maxL := 8) (ret := none) (lv := [(0, .ref m0), (1, .int (nI r)), (2, .int i), (3, .int 4), (4, .int (sm_bI sg))]) (by decide) rfl (Nat.le_of_ble_eq_true rfl) rfl ?_
  intro p e s m below meth c hx hb hrt hts hown hlocks hml hin hK hP hD hS hA ls hl
  have hw := sm_hw hts
  refine lv_aload_n hx hb dX1_load_0 rfl (lv_at hl 0 rfl) ?_
  refine lv_iload_n hx hb dX1_load_1 rfl (lv_at hl 3 rfl) ?_
  refine sm_callS (As := [.int 4]) (rest := [.ref m0]) (wr := (sm_wM cZ m0 m1 m2 m3 m4 m5 m6 err (sm_fb V) (sm_fb S) (sm_fo M) (sm_fl M) (sm_fw O) (sm_fw G))) (wn := (sm_wM cZ m0 m1 m2 m3 m4 m5 m6 err (sm_fb V) (sm_fb S) (sm_fo M) (sm_fl M) (sm_fw O) (sm_fw G))) (st1 := [.int (sm_bI false), .ref m0]) ⟨hx, hb, hml, hown, hts⟩ (c_wrong_4 l D) (va_cwS 1 hts (sm_gS (i1 := 311) (i2 := 312) (i4 := 2) (i5 := 313) rfl rfl rfl rfl) rfl rfl rfl (by decide +kernel) ⟨Nat.le_of_ble_eq_true rfl, Nat.le_of_ble_eq_true rfl⟩) hK [] rfl hP hD hS hA [] [0, 1, 2, 3, 4, 5, 6] rfl rfl (by decide) (by decide) (by decide) rfl hl.1 rfl (Nat.le_of_ble_eq_true rfl) dX1_load_2 ⟨Nat.le_of_ble_eq_true rfl, Nat.le_of_ble_eq_true rfl⟩ rfl rfl (fun H locs hP hD hS => ?_)
  refine lv_iconst (v := 1) hx hb dX1_load_5 (by decide) ?_
  refine sm_callV (C := RX1) (As := [.int (sm_bI false), .int 1]) (rest := []) (wr := []) (wn := (sm_wM cZ m0 m1 m2 m3 m4 m5 m6 0 (sm_fb V) (sm_fb S) (sm_fo M) (sm_fl M) (sm_fw O) (sm_fw G))) (st1 := [.int (sm_bI false)]) ⟨hx, hb, hml, hown, hts⟩ (c_fails_f l D cZ m0 m1 m2 m3 m4 m5 m6 err V S M O G 1) (cwV 2 hts (sm_gV (i1 := 266) (i2 := 267) (i3 := 348) (i4 := 2) (i5 := 268) rfl rfl rfl rfl rfl) rfl rfl rfl (by decide +kernel) ⟨Nat.le_of_ble_eq_true rfl, Nat.le_of_ble_eq_true rfl⟩) hK [0] rfl hP hD hS hA 0 rfl rfl [0, 1, 2, 3, 4, 5, 6] [] rfl rfl (by decide) (by decide) (by decide) rfl hl.1 rfl (Nat.le_of_ble_eq_true rfl) dX1_load_6 ⟨Nat.le_of_ble_eq_true rfl, Nat.le_of_ble_eq_true rfl⟩ rfl rfl (fun H locs hP hD hS => ?_)
  refine lv_if_eq (tgt := 13) hx hb dX1_load_9 rfl (fun _ => ?_) (fun z => absurd (by decide) z)
  refine lv_aload_n hx hb dX1_load_13 rfl (lv_at hl 0 rfl) ?_
  refine lv_iload_n hx hb dX1_load_14 rfl (lv_at hl 1 rfl) ?_
  refine sm_callS (As := [.int (nI r)]) (rest := [.ref m0]) (wr := (sm_wM cZ m0 m1 m2 m3 m4 m5 m6 0 (sm_fb V) (sm_fb S) (sm_fo M) (sm_fl M) (sm_fw O) (sm_fw G))) (wn := (sm_wM cZ m0 m1 m2 m3 m4 m5 m6 0 (sm_fb V) (sm_fb S) (sm_fo M) (sm_fl M) (sm_fw O) (sm_fw G))) (st1 := [.int (sm_bI false), .ref m0]) ⟨hx, hb, hml, hown, hts⟩ (c_none_f l D r (by omega)) (va_cwS 1 hts (sm_gS (i1 := 263) (i2 := 264) (i4 := 2) (i5 := 265) rfl rfl rfl rfl) rfl rfl rfl (by decide +kernel) ⟨Nat.le_of_ble_eq_true rfl, Nat.le_of_ble_eq_true rfl⟩) hK [] rfl hP hD hS hA [] [0, 1, 2, 3, 4, 5, 6] rfl rfl (by decide) (by decide) (by decide) rfl hl.1 rfl (Nat.le_of_ble_eq_true rfl) dX1_load_15 ⟨Nat.le_of_ble_eq_true rfl, Nat.le_of_ble_eq_true rfl⟩ rfl rfl (fun H locs hP hD hS => ?_)
  refine lv_if_ne (tgt := 34) hx hb dX1_load_18 rfl (fun z => absurd (by decide) z) (fun _ => ?_)
  refine lv_iload_n hx hb dX1_load_21 rfl (lv_at hl 2 rfl) ?_
  refine lv_if_lt (tgt := 34) hx hb dX1_load_22 rfl (fun h22 => ?_) (fun h22 => ?_)
  · refine lv_iconst (v := 1) hx hb dX1_load_34 (by decide) ?_
    refine lv_goto (tgt := 39) hx hb dX1_load_35 rfl ?_
    refine lv_iconst (v := 2) hx hb dX1_load_39 (by decide) ?_
    refine sm_callV (C := RX1) (As := [.int (sm_bI true), .int 2]) (rest := []) (wr := []) (wn := (sm_wM cZ m0 m1 m2 m3 m4 m5 m6 2 (sm_fb V) (sm_fb S) (sm_fo M) (sm_fl M) (sm_fw O) (sm_fw G))) (st1 := [.int (sm_bI true)]) ⟨hx, hb, hml, hown, hts⟩ (c_fails_t l D cZ m0 m1 m2 m3 m4 m5 m6 0 V S M O G 2) (cwV 2 hts (sm_gV (i1 := 266) (i2 := 267) (i3 := 348) (i4 := 2) (i5 := 268) rfl rfl rfl rfl rfl) rfl rfl rfl (by decide +kernel) ⟨Nat.le_of_ble_eq_true rfl, Nat.le_of_ble_eq_true rfl⟩) hK [0] rfl hP hD hS hA 0 rfl rfl [0, 1, 2, 3, 4, 5, 6] [] rfl rfl (by decide) (by decide) (by decide) rfl hl.1 rfl (Nat.le_of_ble_eq_true rfl) dX1_load_40 ⟨Nat.le_of_ble_eq_true rfl, Nat.le_of_ble_eq_true rfl⟩ rfl rfl (fun H locs hP hD hS => ?_)
    refine lv_if_eq (tgt := 47) hx hb dX1_load_43 rfl (fun z => absurd z (by decide)) (fun _ => ?_)
    exact sm_vret hx hb hrt hlocks hS hP hD dX1_load_46
  · refine lv_iload_n hx hb dX1_load_25 rfl (lv_at hl 2 rfl) ?_
    refine lv_sipush (v := 256) hx hb dX1_load_26 (by decide) ?_
    refine lv_iload_n hx hb dX1_load_29 rfl (lv_at hl 3 rfl) ?_
    refine lv_isub hx hb dX1_load_30 ?_
    refine sm_eqi (y := 252) (by decide) ?_
    refine lv_icmp_le (tgt := 38) hx hb dX1_load_31 rfl (fun z => absurd z (sm_orl hi h22)) (fun _ => ?_)
    refine lv_iconst (v := 1) hx hb dX1_load_34 (by decide) ?_
    refine lv_goto (tgt := 39) hx hb dX1_load_35 rfl ?_
    refine lv_iconst (v := 2) hx hb dX1_load_39 (by decide) ?_
    refine sm_callV (C := RX1) (As := [.int (sm_bI true), .int 2]) (rest := []) (wr := []) (wn := (sm_wM cZ m0 m1 m2 m3 m4 m5 m6 2 (sm_fb V) (sm_fb S) (sm_fo M) (sm_fl M) (sm_fw O) (sm_fw G))) (st1 := [.int (sm_bI true)]) ⟨hx, hb, hml, hown, hts⟩ (c_fails_t l D cZ m0 m1 m2 m3 m4 m5 m6 0 V S M O G 2) (cwV 2 hts (sm_gV (i1 := 266) (i2 := 267) (i3 := 348) (i4 := 2) (i5 := 268) rfl rfl rfl rfl rfl) rfl rfl rfl (by decide +kernel) ⟨Nat.le_of_ble_eq_true rfl, Nat.le_of_ble_eq_true rfl⟩) hK [0] rfl hP hD hS hA 0 rfl rfl [0, 1, 2, 3, 4, 5, 6] [] rfl rfl (by decide) (by decide) (by decide) rfl hl.1 rfl (Nat.le_of_ble_eq_true rfl) dX1_load_40 ⟨Nat.le_of_ble_eq_true rfl, Nat.le_of_ble_eq_true rfl⟩ rfl rfl (fun H locs hP hD hS => ?_)
    refine lv_if_eq (tgt := 47) hx hb dX1_load_43 rfl (fun z => absurd z (by decide)) (fun _ => ?_)
    exact sm_vret hx hb hrt hlocks hS hP hD dX1_load_46
set_option maxHeartbeats 4000000 in
set_option maxRecDepth 100000 in
theorem c_mload_x2_4 (l : Launch) (D : va_G) (cZ : ClassId) (m0 m1 m2 m3 m4 m5 m6 : Nat) (err : Int32) (V S M : Nat → Int32) (O G : Int32) (i : Int32) (hi : i < 0 ∨ 16 ≤ i) (t : Int32) (sg : Bool) : sm_C l yX1_load wsX1_load ({ frames := 5, cells := 0, slots := 0, locals := 140 } : Room) D vwCl [(cZ, .boolean)] [.ref m0, .int i, .int t, .int 4, .int (sm_bI sg)] (sm_wM cZ m0 m1 m2 m3 m4 m5 m6 err (sm_fb V) (sm_fb S) (sm_fo M) (sm_fl M) (sm_fw O) (sm_fw G)) none (sm_wM cZ m0 m1 m2 m3 m4 m5 m6 2 (sm_fb V) (sm_fb S) (sm_fo M) (sm_fl M) (sm_fw O) (sm_fw G)) := by
  refine sm_start (cc := cX1_load) (maxL := 8) (ret := none) (lv := [(0, .ref m0), (1, .int i), (2, .int t), (3, .int 4), (4, .int (sm_bI sg))]) (by decide) rfl (Nat.le_of_ble_eq_true rfl) rfl ?_
  intro p e s m below meth c hx hb hrt hts hown hlocks hml hin hK hP hD hS hA ls hl
  have hw := sm_hw hts
  refine lv_aload_n hx hb dX1_load_0 rfl (lv_at hl 0 rfl) ?_
  refine lv_iload_n hx hb dX1_load_1 rfl (lv_at hl 3 rfl) ?_
  refine sm_callS (As := [.int 4]) (rest := [.ref m0]) (wr := (sm_wM cZ m0 m1 m2 m3 m4 m5 m6 err (sm_fb V) (sm_fb S) (sm_fo M) (sm_fl M) (sm_fw O) (sm_fw G))) (wn := (sm_wM cZ m0 m1 m2 m3 m4 m5 m6 err (sm_fb V) (sm_fb S) (sm_fo M) (sm_fl M) (sm_fw O) (sm_fw G))) (st1 := [.int (sm_bI false), .ref m0]) ⟨hx, hb, hml, hown, hts⟩ (c_wrong_4 l D) (va_cwS 1 hts (sm_gS (i1 := 311) (i2 := 312) (i4 := 2) (i5 := 313) rfl rfl rfl rfl) rfl rfl rfl (by decide +kernel) ⟨Nat.le_of_ble_eq_true rfl, Nat.le_of_ble_eq_true rfl⟩) hK [] rfl hP hD hS hA [] [0, 1, 2, 3, 4, 5, 6] rfl rfl (by decide) (by decide) (by decide) rfl hl.1 rfl (Nat.le_of_ble_eq_true rfl) dX1_load_2 ⟨Nat.le_of_ble_eq_true rfl, Nat.le_of_ble_eq_true rfl⟩ rfl rfl (fun H locs hP hD hS => ?_)
  refine lv_iconst (v := 1) hx hb dX1_load_5 (by decide) ?_
  refine sm_callV (C := RX1) (As := [.int (sm_bI false), .int 1]) (rest := []) (wr := []) (wn := (sm_wM cZ m0 m1 m2 m3 m4 m5 m6 0 (sm_fb V) (sm_fb S) (sm_fo M) (sm_fl M) (sm_fw O) (sm_fw G))) (st1 := [.int (sm_bI false)]) ⟨hx, hb, hml, hown, hts⟩ (c_fails_f l D cZ m0 m1 m2 m3 m4 m5 m6 err V S M O G 1) (cwV 2 hts (sm_gV (i1 := 266) (i2 := 267) (i3 := 348) (i4 := 2) (i5 := 268) rfl rfl rfl rfl rfl) rfl rfl rfl (by decide +kernel) ⟨Nat.le_of_ble_eq_true rfl, Nat.le_of_ble_eq_true rfl⟩) hK [0] rfl hP hD hS hA 0 rfl rfl [0, 1, 2, 3, 4, 5, 6] [] rfl rfl (by decide) (by decide) (by decide) rfl hl.1 rfl (Nat.le_of_ble_eq_true rfl) dX1_load_6 ⟨Nat.le_of_ble_eq_true rfl, Nat.le_of_ble_eq_true rfl⟩ rfl rfl (fun H locs hP hD hS => ?_)
  refine lv_if_eq (tgt := 13) hx hb dX1_load_9 rfl (fun _ => ?_) (fun z => absurd (by decide) z)
  refine lv_aload_n hx hb dX1_load_13 rfl (lv_at hl 0 rfl) ?_
  refine lv_iload_n hx hb dX1_load_14 rfl (lv_at hl 1 rfl) ?_
  refine sm_callS (As := [.int i]) (rest := [.ref m0]) (wr := (sm_wM cZ m0 m1 m2 m3 m4 m5 m6 0 (sm_fb V) (sm_fb S) (sm_fo M) (sm_fl M) (sm_fw O) (sm_fw G))) (wn := (sm_wM cZ m0 m1 m2 m3 m4 m5 m6 0 (sm_fb V) (sm_fb S) (sm_fo M) (sm_fl M) (sm_fw O) (sm_fw G))) (st1 := [.int (sm_bI true), .ref m0]) ⟨hx, hb, hml, hown, hts⟩ (c_none_t l D i hi) (va_cwS 1 hts (sm_gS (i1 := 263) (i2 := 264) (i4 := 2) (i5 := 265) rfl rfl rfl rfl) rfl rfl rfl (by decide +kernel) ⟨Nat.le_of_ble_eq_true rfl, Nat.le_of_ble_eq_true rfl⟩) hK [] rfl hP hD hS hA [] [0, 1, 2, 3, 4, 5, 6] rfl rfl (by decide) (by decide) (by decide) rfl hl.1 rfl (Nat.le_of_ble_eq_true rfl) dX1_load_15 ⟨Nat.le_of_ble_eq_true rfl, Nat.le_of_ble_eq_true rfl⟩ rfl rfl (fun H locs hP hD hS => ?_)
  refine lv_if_ne (tgt := 34) hx hb dX1_load_18 rfl (fun _ => ?_) (fun z => absurd z (by decide))
  refine lv_iconst (v := 1) hx hb dX1_load_34 (by decide) ?_
  refine lv_goto (tgt := 39) hx hb dX1_load_35 rfl ?_
  refine lv_iconst (v := 2) hx hb dX1_load_39 (by decide) ?_
  refine sm_callV (C := RX1) (As := [.int (sm_bI true), .int 2]) (rest := []) (wr := []) (wn := (sm_wM cZ m0 m1 m2 m3 m4 m5 m6 2 (sm_fb V) (sm_fb S) (sm_fo M) (sm_fl M) (sm_fw O) (sm_fw G))) (st1 := [.int (sm_bI true)]) ⟨hx, hb, hml, hown, hts⟩ (c_fails_t l D cZ m0 m1 m2 m3 m4 m5 m6 0 V S M O G 2) (cwV 2 hts (sm_gV (i1 := 266) (i2 := 267) (i3 := 348) (i4 := 2) (i5 := 268) rfl rfl rfl rfl rfl) rfl rfl rfl (by decide +kernel) ⟨Nat.le_of_ble_eq_true rfl, Nat.le_of_ble_eq_true rfl⟩) hK [0] rfl hP hD hS hA 0 rfl rfl [0, 1, 2, 3, 4, 5, 6] [] rfl rfl (by decide) (by decide) (by decide) rfl hl.1 rfl (Nat.le_of_ble_eq_true rfl) dX1_load_40 ⟨Nat.le_of_ble_eq_true rfl, Nat.le_of_ble_eq_true rfl⟩ rfl rfl (fun H locs hP hD hS => ?_)
  refine lv_if_eq (tgt := 47) hx hb dX1_load_43 rfl (fun z => absurd z (by decide)) (fun _ => ?_)
  exact sm_vret hx hb hrt hlocks hS hP hD dX1_load_46
