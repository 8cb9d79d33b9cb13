set_option maxHeartbeats 4000000 in
set_option maxRecDepth 100000 in
theorem c_shift_5 (l : Launch) (D : va_G) (cZ : ClassId) (m0 m1 m2 m3 m4 m5 m6 : Nat) (err : Int32) (V S M : Nat → Int32) (O G : Int32) (a b n : Nat) (ha : a < 16) (hb' : b < 16) (hn : n < 32) : sm_C l yX1_shift wsX1_shift ({ frames := 3, cells := 0, slots := 0, locals := 90 } : Room) D vwCl [(cZ, .boolean)] [.ref m0, .int 5, .int (nI a), .int (nI b), .int (nI n)] (sm_wM cZ m0 m1 m2 m3 m4 m5 m6 err (sm_fb V) (sm_fb S) (sm_fo M) (sm_fl M) (sm_fw O) (sm_fw G)) none (sm_wM cZ m0 m1 m2 m3 m4 m5 m6 err (sm_fb V) (sm_fb S) (sm_fo M) (sm_fl M) (sm_fw (V a <<< (nI n &&& 31))) (sm_fw (if S b &&& 31 = 0 then S a <<< (nI n &&& 31) else (-1)))) := by
  refine sm_start (cc := cX1_shift) (maxL := 8) (ret := none) (lv := [(0, .ref m0), (1, .int 5), (2, .int (nI a)), (3, .int (nI b)), (4, .int (nI n))]) (by decide) rfl (Nat.le_of_ble_eq_true rfl) rfl ?_
  intro p e s m below meth c hx hb hrt hts hown hlocks hml hin hK hP hD hS hA ls hl
  have hw := sm_hw hts
  refine lv_iconst (v := 0) hx hb dX1_shift_0 (by decide) ?_
  refine lv_istore (lv' := [(5, .int 0), (0, .ref m0), (1, .int 5), (2, .int (nI a)), (3, .int (nI b)), (4, .int (nI n))]) hx hb dX1_shift_1 hl (by decide) rfl (fun ls hl => ?_)
  refine sm_loopW (nL := 8) (lv := fun k => [(0, .ref m0), (1, .int 5), (2, .int (nI a)), (3, .int (nI b)), (4, .int (nI n)), (5, .int (nI k))]) (w := fun k => (sm_wM cZ m0 m1 m2 m3 m4 m5 m6 err (sm_fb V) (sm_fb S) (sm_fo M) (sm_fl M) (sm_fill (sm_fw O) (fun i => decide (n ≤ i) && bt (V a) (i - n)) 0 k) (sm_fill (sm_fw G) (fun i => decide (n ≤ i) && bt (S a) (i - n)) 0 k))) 32 (fun H locs ls hl hP hD hS => ?_) (fun k hk ih H locs ls hl hP hD hS => ?_) (lv_sub hl [1, 2, 3, 4, 5, 0] rfl) (sm_cP (by simp only [sm_fill0]) hP) (sm_cD (by simp only [sm_fill0]) hD) hS
  · have hl : lv_has ls 8 [(0, .ref m0), (1, .int 5), (2, .int (nI a)), (3, .int (nI b)), (4, .int (nI n)), (5, .int (nI 32))] := hl
    have hP : va_P D vwCl (sm_wM cZ m0 m1 m2 m3 m4 m5 m6 err (sm_fb V) (sm_fb S) (sm_fo M) (sm_fl M) (sm_fill (sm_fw O) (fun i => decide (n ≤ i) && bt (V a) (i - n)) 0 32) (sm_fill (sm_fw G) (fun i => decide (n ≤ i) && bt (S a) (i - n)) 0 32)) H := hP
    have hD : va_D _ (sm_wM cZ m0 m1 m2 m3 m4 m5 m6 err (sm_fb V) (sm_fb S) (sm_fo M) (sm_fl M) (sm_fill (sm_fw O) (fun i => decide (n ≤ i) && bt (V a) (i - n)) 0 32) (sm_fill (sm_fw G) (fun i => decide (n ≤ i) && bt (S a) (i - n)) 0 32)) := hD
    refine lv_iload hx hb dX1_shift_3 (lv_at hl 5 rfl) ?_
    refine lv_bipush (v := 32) hx hb dX1_shift_5 (by decide) ?_
    refine lv_icmp_ge (tgt := 126) hx hb dX1_shift_7 rfl (fun _ => ?_) (fun z => absurd (by decide) z)
    have hP : va_P D vwCl (sm_wM cZ m0 m1 m2 m3 m4 m5 m6 err (sm_fb V) (sm_fb S) (sm_fo M) (sm_fl M) (sm_fw (V a <<< (nI n &&& 31))) (sm_fw (S a <<< (nI n &&& 31)))) H := sm_cP (by rw [sm_fill_w, sm_fill_w, sm_mkx (x := V a <<< (nI n &&& 31)) (sm_shb5 hn (V a)), sm_mkx (x := S a <<< (nI n &&& 31)) (sm_shb5 hn (S a))]) hP
    have hD : va_D _ (sm_wM cZ m0 m1 m2 m3 m4 m5 m6 err (sm_fb V) (sm_fb S) (sm_fo M) (sm_fl M) (sm_fw (V a <<< (nI n &&& 31))) (sm_fw (S a <<< (nI n &&& 31)))) := sm_cD (by rw [sm_fill_w, sm_fill_w, sm_mkx (x := V a <<< (nI n &&& 31)) (sm_shb5 hn (V a)), sm_mkx (x := S a <<< (nI n &&& 31)) (sm_shb5 hn (S a))]) hD
    refine lv_iconst (v := 1) hx hb dX1_shift_126 (by decide) ?_
    refine lv_istore (lv' := [(5, .int 1), (0, .ref m0), (1, .int 5), (2, .int (nI a)), (3, .int (nI b)), (4, .int (nI n))]) hx hb dX1_shift_127 hl (by decide) rfl (fun ls hl => ?_)
    refine lv_iconst (v := 0) hx hb dX1_shift_129 (by decide) ?_
    refine lv_istore (lv' := [(6, .int 0), (5, .int 1), (0, .ref m0), (1, .int 5), (2, .int (nI a)), (3, .int (nI b)), (4, .int (nI n))]) hx hb dX1_shift_130 hl (by decide) rfl (fun ls hl => ?_)
    refine sm_loopW (nL := 8) (lv := fun k => [(0, .ref m0), (3, .int (nI b)), (5, .int (sm_bI (sm_kn (bt (S b)) k))), (6, .int (nI k))]) (w := fun k => (sm_wM cZ m0 m1 m2 m3 m4 m5 m6 err (sm_fb V) (sm_fb S) (sm_fo M) (sm_fl M) (sm_fw (V a <<< (nI n &&& 31))) (sm_fw (S a <<< (nI n &&& 31))))) 5 (fun H locs ls hl hP hD hS => ?_) (fun k hk ih H locs ls hl hP hD hS => ?_) (lv_sub hl [2, 5, 1, 0] rfl) (sm_cP (rfl) hP) (sm_cD (rfl) hD) hS
    · have hl : lv_has ls 8 [(0, .ref m0), (3, .int (nI b)), (5, .int (sm_bI (sm_kn (bt (S b)) 5))), (6, .int (nI 5))] := hl
      have hP : va_P D vwCl (sm_wM cZ m0 m1 m2 m3 m4 m5 m6 err (sm_fb V) (sm_fb S) (sm_fo M) (sm_fl M) (sm_fw (V a <<< (nI n &&& 31))) (sm_fw (S a <<< (nI n &&& 31)))) H := hP
      have hD : va_D _ (sm_wM cZ m0 m1 m2 m3 m4 m5 m6 err (sm_fb V) (sm_fb S) (sm_fo M) (sm_fl M) (sm_fw (V a <<< (nI n &&& 31))) (sm_fw (S a <<< (nI n &&& 31)))) := hD
      refine lv_iload hx hb dX1_shift_132 (lv_at hl 3 rfl) ?_
      refine lv_iconst (v := 5) hx hb dX1_shift_134 (by decide) ?_
      refine lv_icmp_ge (tgt := 157) hx hb dX1_shift_135 rfl (fun _ => ?_) (fun z => absurd (by decide) z)
      refine lv_iload hx hb dX1_shift_157 (lv_at hl 2 rfl) ?_
      refine sm_ifb_ne (tgt := 167) hx hb dX1_shift_159 rfl (fun h159 => ?_) (fun h159 => ?_)
      · exact sm_vret hx hb hrt hlocks hS (sm_cP (by rw [if_pos (sm_kn5 h159)]) hP) (sm_cD (by rw [if_pos (sm_kn5 h159)]) hD) dX1_shift_167
      · refine lv_aload_n hx hb dX1_shift_162 rfl (lv_at hl 0 rfl) ?_
        refine lv_iconst (v := 0) hx hb dX1_shift_163 (by decide) ?_
        refine sm_callV (C := RX1) (As := [.int (nI 0)]) (rest := []) (wr := []) (wn := (sm_wM cZ m0 m1 m2 m3 m4 m5 m6 err (sm_fb V) (sm_fb S) (sm_fo M) (sm_fl M) (sm_fw (V a <<< (nI n &&& 31))) (sm_fw (sm_fr 0)))) (st1 := []) ⟨hx, hb, hml, hown, hts⟩ (c_from l D cZ m0 m1 m2 m3 m4 m5 m6 err V S M (V a <<< (nI n &&& 31)) (S a <<< (nI n &&& 31)) 0 (by decide)) (cwV 1 hts (sm_gV (i1 := 288) (i2 := 289) (i3 := 354) (i4 := 2) (i5 := 290) rfl rfl rfl rfl rfl) rfl rfl rfl (by decide +kernel) ⟨Nat.le_of_ble_eq_true rfl, Nat.le_of_ble_eq_true rfl⟩) hK [0] rfl hP hD hS hA 0 rfl rfl [0, 1, 2, 3, 4, 5, 6] [] rfl rfl (by decide) (by decide) (by decide) rfl hl.1 rfl (Nat.le_of_ble_eq_true rfl) dX1_shift_164 ⟨Nat.le_of_ble_eq_true rfl, Nat.le_of_ble_eq_true rfl⟩ rfl rfl (fun H locs hP hD hS => ?_)
        exact sm_vret hx hb hrt hlocks hS (sm_cP (by rw [if_neg (sm_kn5n h159), sm_fr_all]) hP) (sm_cD (by rw [if_neg (sm_kn5n h159), sm_fr_all]) hD) dX1_shift_167
    · have hl : lv_has ls 8 [(0, .ref m0), (3, .int (nI b)), (5, .int (sm_bI (sm_kn (bt (S b)) k))), (6, .int (nI k))] := hl
      have hP : va_P D vwCl (sm_wM cZ m0 m1 m2 m3 m4 m5 m6 err (sm_fb V) (sm_fb S) (sm_fo M) (sm_fl M) (sm_fw (V a <<< (nI n &&& 31))) (sm_fw (S a <<< (nI n &&& 31)))) H := hP
      have hD : va_D _ (sm_wM cZ m0 m1 m2 m3 m4 m5 m6 err (sm_fb V) (sm_fb S) (sm_fo M) (sm_fl M) (sm_fw (V a <<< (nI n &&& 31))) (sm_fw (S a <<< (nI n &&& 31)))) := hD
      refine lv_iload hx hb dX1_shift_132 (lv_at hl 3 rfl) ?_
      refine lv_iconst (v := 5) hx hb dX1_shift_134 (by decide) ?_
      refine lv_icmp_ge (tgt := 157) hx hb dX1_shift_135 rfl (fun z => absurd z (nI_ge (b := 5) hk (by decide))) (fun _ => ?_)
      refine lv_aload_n hx hb dX1_shift_138 rfl (lv_at hl 0 rfl) ?_
      refine lv_iload_n hx hb dX1_shift_139 rfl (lv_at hl 1 rfl) ?_
      refine lv_iload hx hb dX1_shift_140 (lv_at hl 3 rfl) ?_
      refine sm_callV (C := RX1) (As := [.int (nI b), .int (nI k)]) (rest := []) (wr := []) (wn := (sm_wM cZ m0 m1 m2 m3 m4 m5 m6 err (sm_fb V) (sm_fb S) (sm_fo M) (sm_fl M) (sm_fw (V a <<< (nI n &&& 31))) (sm_fw (S a <<< (nI n &&& 31))))) (st1 := [.int (sm_bI (bt (S b) k))]) ⟨hx, hb, hml, hown, hts⟩ (c_un l D cZ m0 m1 m2 m3 m4 m5 m6 err (sm_fb V) (sm_fo M) (sm_fl M) (sm_fw (V a <<< (nI n &&& 31))) (sm_fw (S a <<< (nI n &&& 31))) S b k (by omega) (by omega)) (cwV 2 hts (sm_gV (i1 := 285) (i2 := 286) (i3 := 353) (i4 := 2) (i5 := 287) rfl rfl rfl rfl rfl) rfl rfl rfl (by decide +kernel) ⟨Nat.le_of_ble_eq_true rfl, Nat.le_of_ble_eq_true rfl⟩) hK [0] rfl hP hD hS hA 0 rfl rfl [0, 1, 2, 3, 4, 5, 6] [] rfl rfl (by decide) (by decide) (by decide) rfl hl.1 rfl (Nat.le_of_ble_eq_true rfl) dX1_shift_142 ⟨Nat.le_of_ble_eq_true rfl, Nat.le_of_ble_eq_true rfl⟩ rfl rfl (fun H locs hP hD hS => ?_)
      refine sm_ifb_eq (tgt := 151) hx hb dX1_shift_145 rfl (fun h145 => ?_) (fun h145 => ?_)
      · have hl : lv_has ls 8 [(0, .ref m0), (3, .int (nI b)), (5, .int (sm_bI (sm_kn (bt (S b)) (k + 1)))), (6, .int (nI k))] := by rw [sm_kn_n h145]; exact hl
        refine lv_iinc (k := 3) (v := nI (k + 1)) (lv' := [(6, .int (nI (k + 1))), (0, .ref m0), (3, .int (nI b)), (5, .int (sm_bI (sm_kn (bt (S b)) (k + 1))))]) hx hb dX1_shift_151 hl rfl (sm_inc k) (by decide) rfl (fun ls hl => ?_)
        refine lv_goto (tgt := 132) hx hb dX1_shift_154 rfl ?_
        exact ih _ _ _ (lv_sub hl [1, 2, 3, 0] rfl) (sm_cP (rfl) hP) (sm_cD (rfl) hD) hS
      · refine lv_iconst (v := 0) hx hb dX1_shift_148 (by decide) ?_
        refine lv_istore (lv' := [(5, .int 0), (0, .ref m0), (3, .int (nI b)), (6, .int (nI k))]) hx hb dX1_shift_149 hl (by decide) rfl (fun ls hl => ?_)
        have hl : lv_has ls 8 [(5, .int (sm_bI (sm_kn (bt (S b)) (k + 1)))), (0, .ref m0), (3, .int (nI b)), (6, .int (nI k))] := by rw [sm_kn_t h145]; exact hl
        refine lv_iinc (k := 3) (v := nI (k + 1)) (lv' := [(6, .int (nI (k + 1))), (5, .int (sm_bI (sm_kn (bt (S b)) (k + 1)))), (0, .ref m0), (3, .int (nI b))]) hx hb dX1_shift_151 hl rfl (sm_inc k) (by decide) rfl (fun ls hl => ?_)
        refine lv_goto (tgt := 132) hx hb dX1_shift_154 rfl ?_
        exact ih _ _ _ (lv_sub hl [2, 3, 1, 0] rfl) (sm_cP (rfl) hP) (sm_cD (rfl) hD) hS
  · have hl : lv_has ls 8 [(0, .ref m0), (1, .int 5), (2, .int (nI a)), (3, .int (nI b)), (4, .int (nI n)), (5, .int (nI k))] := hl
    have hP : va_P D vwCl (sm_wM cZ m0 m1 m2 m3 m4 m5 m6 err (sm_fb V) (sm_fb S) (sm_fo M) (sm_fl M) (sm_fill (sm_fw O) (fun i => decide (n ≤ i) && bt (V a) (i - n)) 0 k) (sm_fill (sm_fw G) (fun i => decide (n ≤ i) && bt (S a) (i - n)) 0 k)) H := hP
    have hD : va_D _ (sm_wM cZ m0 m1 m2 m3 m4 m5 m6 err (sm_fb V) (sm_fb S) (sm_fo M) (sm_fl M) (sm_fill (sm_fw O) (fun i => decide (n ≤ i) && bt (V a) (i - n)) 0 k) (sm_fill (sm_fw G) (fun i => decide (n ≤ i) && bt (S a) (i - n)) 0 k)) := hD
    refine lv_iload hx hb dX1_shift_3 (lv_at hl 5 rfl) ?_
    refine lv_bipush (v := 32) hx hb dX1_shift_5 (by decide) ?_
    refine lv_icmp_ge (tgt := 126) hx hb dX1_shift_7 rfl (fun z => absurd z (nI_ge (b := 32) hk (by decide))) (fun _ => ?_)
    refine lv_iload_n hx hb dX1_shift_10 rfl (lv_at hl 1 rfl) ?_
    refine lv_iconst (v := 5) hx hb dX1_shift_11 (by decide) ?_
    refine lv_icmp_ne (tgt := 23) hx hb dX1_shift_12 rfl (fun z => absurd (by decide) z) (fun _ => ?_)
    rcases Nat.lt_or_ge k n with hkn | hkn
    · refine lv_iload hx hb dX1_shift_15 (lv_at hl 5 rfl) ?_
      refine lv_iload hx hb dX1_shift_17 (lv_at hl 4 rfl) ?_
      refine lv_isub hx hb dX1_shift_19 ?_
      refine lv_goto (tgt := 28) hx hb dX1_shift_20 rfl ?_
      refine lv_istore (lv' := [(6, .int ((nI k) - (nI n))), (0, .ref m0), (1, .int 5), (2, .int (nI a)), (3, .int (nI b)), (4, .int (nI n)), (5, .int (nI k))]) hx hb dX1_shift_28 hl (by decide) rfl (fun ls hl => ?_)
      refine lv_iload_n hx hb dX1_shift_30 rfl (lv_at hl 2 rfl) ?_
      refine lv_bipush (v := 7) hx hb dX1_shift_31 (by decide) ?_
      refine lv_icmp_ne (tgt := 47) hx hb dX1_shift_33 rfl (fun _ => ?_) (fun z => absurd z (by decide))
      refine lv_iload hx hb dX1_shift_47 (lv_at hl 0 rfl) ?_
      refine lv_if_lt (tgt := 63) hx hb dX1_shift_49 rfl (fun _ => ?_) (fun z => absurd (pk_sneg (by omega) hkn) z)
      refine lv_iconst (v := 0) hx hb dX1_shift_63 (by decide) ?_
      refine lv_istore (lv' := [(7, .int 0), (6, .int ((nI k) - (nI n))), (0, .ref m0), (1, .int 5), (2, .int (nI a)), (3, .int (nI b)), (4, .int (nI n)), (5, .int (nI k))]) hx hb dX1_shift_64 hl (by decide) rfl (fun ls hl => ?_)
      refine lv_aload_n hx hb dX1_shift_66 rfl (lv_at hl 2 rfl) ?_
      refine va_get (D := D) (ci := 1) (v := .ref m5) (C := RX1) (T := TX1) (N := 7) hx hb hts inX1 hown hK hP 0 rfl rfl 5 (by decide) (hw 237 rfl) (fun _ h9 => h9) rfl dX1_shift_67 ?_
      refine lv_iload hx hb dX1_shift_70 (lv_at hl 7 rfl) ?_
      refine lv_iload hx hb dX1_shift_72 (lv_at hl 0 rfl) ?_
      refine lv_if_eq (tgt := 91) hx hb dX1_shift_74 rfl (fun _ => ?_) (fun z => absurd (by decide) z)
      refine lv_iconst (v := 0) hx hb dX1_shift_91 (by decide) ?_
      refine sm_eqi (y := sm_bI (decide (n ≤ k) && bt (V a) (k - n))) (by rw [decide_eq_false (Nat.not_le.mpr hkn)]; rfl) ?_
      refine sm_zast (f' := sm_fill (sm_fw O) (fun i => decide (n ≤ i) && bt (V a) (i - n)) 0 (k + 1)) (ws' := (sm_wM cZ m0 m1 m2 m3 m4 m5 m6 err (sm_fb V) (sm_fb S) (sm_fo M) (sm_fl M) (sm_fill (sm_fw O) (fun i => decide (n ≤ i) && bt (V a) (i - n)) 0 (k + 1)) (sm_fill (sm_fw G) (fun i => decide (n ≤ i) && bt (S a) (i - n)) 0 k))) hx hb hK hP hD hS 5 0 rfl rfl (vp_in_nI (n := k) (by omega) (by decide)) dX1_shift_92 (by rw [nI_clamp (by omega)]; exact sm_fillS0 (sm_fw O) (fun i => decide (n ≤ i) && bt (V a) (i - n)) k) rfl (fun H locs hP hD hS => ?_)
      refine lv_aload_n hx hb dX1_shift_93 rfl (lv_at hl 2 rfl) ?_
      refine va_get (D := D) (ci := 1) (v := .ref m6) (C := RX1) (T := TX1) (N := 7) hx hb hts inX1 hown hK hP 0 rfl rfl 6 (by decide) (hw 238 rfl) (fun _ h9 => h9) rfl dX1_shift_94 ?_
      refine lv_iload hx hb dX1_shift_97 (lv_at hl 7 rfl) ?_
      refine lv_iload hx hb dX1_shift_99 (lv_at hl 0 rfl) ?_
      refine lv_if_eq (tgt := 118) hx hb dX1_shift_101 rfl (fun _ => ?_) (fun z => absurd (by decide) z)
      refine lv_iconst (v := 0) hx hb dX1_shift_118 (by decide) ?_
      refine sm_eqi (y := sm_bI (decide (n ≤ k) && bt (S a) (k - n))) (by rw [decide_eq_false (Nat.not_le.mpr hkn)]; rfl) ?_
      refine sm_zast (f' := sm_fill (sm_fw G) (fun i => decide (n ≤ i) && bt (S a) (i - n)) 0 (k + 1)) (ws' := (sm_wM cZ m0 m1 m2 m3 m4 m5 m6 err (sm_fb V) (sm_fb S) (sm_fo M) (sm_fl M) (sm_fill (sm_fw O) (fun i => decide (n ≤ i) && bt (V a) (i - n)) 0 (k + 1)) (sm_fill (sm_fw G) (fun i => decide (n ≤ i) && bt (S a) (i - n)) 0 (k + 1)))) hx hb hK hP hD hS 6 0 rfl rfl (vp_in_nI (n := k) (by omega) (by decide)) dX1_shift_119 (by rw [nI_clamp (by omega)]; exact sm_fillS0 (sm_fw G) (fun i => decide (n ≤ i) && bt (S a) (i - n)) k) rfl (fun H locs hP hD hS => ?_)
      refine lv_iinc (k := 7) (v := nI (k + 1)) (lv' := [(5, .int (nI (k + 1))), (7, .int 0), (6, .int ((nI k) - (nI n))), (0, .ref m0), (1, .int 5), (2, .int (nI a)), (3, .int (nI b)), (4, .int (nI n))]) hx hb dX1_shift_120 hl rfl (sm_inc k) (by decide) rfl (fun ls hl => ?_)
      refine lv_goto (tgt := 3) hx hb dX1_shift_123 rfl ?_
      exact ih _ _ _ (lv_sub hl [3, 4, 5, 6, 7, 0] rfl) (sm_cP (rfl) hP) (sm_cD (rfl) hD) hS
    · refine lv_iload hx hb dX1_shift_15 (lv_at hl 5 rfl) ?_
      refine lv_iload hx hb dX1_shift_17 (lv_at hl 4 rfl) ?_
      refine lv_isub hx hb dX1_shift_19 ?_
      refine sm_eqi (y := nI (k - n)) (pk_sub hkn) ?_
      refine lv_goto (tgt := 28) hx hb dX1_shift_20 rfl ?_
      refine lv_istore (lv' := [(6, .int (nI (k - n))), (0, .ref m0), (1, .int 5), (2, .int (nI a)), (3, .int (nI b)), (4, .int (nI n)), (5, .int (nI k))]) hx hb dX1_shift_28 hl (by decide) rfl (fun ls hl => ?_)
      refine lv_iload_n hx hb dX1_shift_30 rfl (lv_at hl 2 rfl) ?_
      refine lv_bipush (v := 7) hx hb dX1_shift_31 (by decide) ?_
      refine lv_icmp_ne (tgt := 47) hx hb dX1_shift_33 rfl (fun _ => ?_) (fun z => absurd z (by decide))
      refine lv_iload hx hb dX1_shift_47 (lv_at hl 0 rfl) ?_
      refine lv_if_lt (tgt := 63) hx hb dX1_shift_49 rfl (fun z => absurd z (nI_pos (by omega))) (fun _ => ?_)
      refine lv_iload hx hb dX1_shift_52 (lv_at hl 0 rfl) ?_
      refine lv_bipush (v := 32) hx hb dX1_shift_54 (by decide) ?_
      refine lv_icmp_ge (tgt := 63) hx hb dX1_shift_56 rfl (fun z => absurd z (nI_ge (b := 32) (by omega) (by decide))) (fun _ => ?_)
      refine lv_iconst (v := 1) hx hb dX1_shift_59 (by decide) ?_
      refine lv_goto (tgt := 64) hx hb dX1_shift_60 rfl ?_
      refine lv_istore (lv' := [(7, .int 1), (6, .int (nI (k - n))), (0, .ref m0), (1, .int 5), (2, .int (nI a)), (3, .int (nI b)), (4, .int (nI n)), (5, .int (nI k))]) hx hb dX1_shift_64 hl (by decide) rfl (fun ls hl => ?_)
      refine lv_aload_n hx hb dX1_shift_66 rfl (lv_at hl 2 rfl) ?_
      refine va_get (D := D) (ci := 1) (v := .ref m5) (C := RX1) (T := TX1) (N := 7) hx hb hts inX1 hown hK hP 0 rfl rfl 5 (by decide) (hw 237 rfl) (fun _ h9 => h9) rfl dX1_shift_67 ?_
      refine lv_iload hx hb dX1_shift_70 (lv_at hl 7 rfl) ?_
      refine lv_iload hx hb dX1_shift_72 (lv_at hl 0 rfl) ?_
      refine lv_if_eq (tgt := 91) hx hb dX1_shift_74 rfl (fun z => absurd z (by decide)) (fun _ => ?_)
      refine lv_aload_n hx hb dX1_shift_77 rfl (lv_at hl 2 rfl) ?_
      refine lv_iload_n hx hb dX1_shift_78 rfl (lv_at hl 4 rfl) ?_
      refine lv_iload hx hb dX1_shift_79 (lv_at hl 1 rfl) ?_
      refine sm_callV (C := RX1) (As := [.int (nI a), .int (nI (k - n))]) (rest := [.int (nI k), .ref m5]) (wr := []) (wn := (sm_wM cZ m0 m1 m2 m3 m4 m5 m6 err (sm_fb V) (sm_fb S) (sm_fo M) (sm_fl M) (sm_fill (sm_fw O) (fun i => decide (n ≤ i) && bt (V a) (i - n)) 0 k) (sm_fill (sm_fw G) (fun i => decide (n ≤ i) && bt (S a) (i - n)) 0 k))) (st1 := [.int (sm_bI (bt (V a) (k - n))), .int (nI k), .ref m5]) ⟨hx, hb, hml, hown, hts⟩ (c_is l D cZ m0 m1 m2 m3 m4 m5 m6 err (sm_fb S) (sm_fo M) (sm_fl M) (sm_fill (sm_fw O) (fun i => decide (n ≤ i) && bt (V a) (i - n)) 0 k) (sm_fill (sm_fw G) (fun i => decide (n ≤ i) && bt (S a) (i - n)) 0 k) V a (k - n) (by omega) (by omega)) (cwV 2 hts (sm_gV (i1 := 291) (i2 := 292) (i3 := 355) (i4 := 2) (i5 := 293) rfl rfl rfl rfl rfl) rfl rfl rfl (by decide +kernel) ⟨Nat.le_of_ble_eq_true rfl, Nat.le_of_ble_eq_true rfl⟩) hK [0] rfl hP hD hS hA 0 rfl rfl [0, 1, 2, 3, 4, 5, 6] [] rfl rfl (by decide) (by decide) (by decide) rfl hl.1 rfl (Nat.le_of_ble_eq_true rfl) dX1_shift_81 ⟨Nat.le_of_ble_eq_true rfl, Nat.le_of_ble_eq_true rfl⟩ rfl rfl (fun H locs hP hD hS => ?_)
      refine sm_ifb_eq (tgt := 91) hx hb dX1_shift_84 rfl (fun h84 => ?_) (fun h84 => ?_)
      · refine lv_iconst (v := 0) hx hb dX1_shift_91 (by decide) ?_
        refine sm_eqi (y := sm_bI (decide (n ≤ k) && bt (V a) (k - n))) (by rw [decide_eq_true hkn]; simp [sm_bI, h84]) ?_
        refine sm_zast (f' := sm_fill (sm_fw O) (fun i => decide (n ≤ i) && bt (V a) (i - n)) 0 (k + 1)) (ws' := (sm_wM cZ m0 m1 m2 m3 m4 m5 m6 err (sm_fb V) (sm_fb S) (sm_fo M) (sm_fl M) (sm_fill (sm_fw O) (fun i => decide (n ≤ i) && bt (V a) (i - n)) 0 (k + 1)) (sm_fill (sm_fw G) (fun i => decide (n ≤ i) && bt (S a) (i - n)) 0 k))) hx hb hK hP hD hS 5 0 rfl rfl (vp_in_nI (n := k) (by omega) (by decide)) dX1_shift_92 (by rw [nI_clamp (by omega)]; exact sm_fillS0 (sm_fw O) (fun i => decide (n ≤ i) && bt (V a) (i - n)) k) rfl (fun H locs hP hD hS => ?_)
        refine lv_aload_n hx hb dX1_shift_93 rfl (lv_at hl 2 rfl) ?_
        refine va_get (D := D) (ci := 1) (v := .ref m6) (C := RX1) (T := TX1) (N := 7) hx hb hts inX1 hown hK hP 0 rfl rfl 6 (by decide) (hw 238 rfl) (fun _ h9 => h9) rfl dX1_shift_94 ?_
        refine lv_iload hx hb dX1_shift_97 (lv_at hl 7 rfl) ?_
        refine lv_iload hx hb dX1_shift_99 (lv_at hl 0 rfl) ?_
        refine lv_if_eq (tgt := 118) hx hb dX1_shift_101 rfl (fun z => absurd z (by decide)) (fun _ => ?_)
        refine lv_aload_n hx hb dX1_shift_104 rfl (lv_at hl 2 rfl) ?_
        refine lv_iload_n hx hb dX1_shift_105 rfl (lv_at hl 4 rfl) ?_
        refine lv_iload hx hb dX1_shift_106 (lv_at hl 1 rfl) ?_
        refine sm_callV (C := RX1) (As := [.int (nI a), .int (nI (k - n))]) (rest := [.int (nI k), .ref m6]) (wr := []) (wn := (sm_wM cZ m0 m1 m2 m3 m4 m5 m6 err (sm_fb V) (sm_fb S) (sm_fo M) (sm_fl M) (sm_fill (sm_fw O) (fun i => decide (n ≤ i) && bt (V a) (i - n)) 0 (k + 1)) (sm_fill (sm_fw G) (fun i => decide (n ≤ i) && bt (S a) (i - n)) 0 k))) (st1 := [.int (sm_bI (bt (S a) (k - n))), .int (nI k), .ref m6]) ⟨hx, hb, hml, hown, hts⟩ (c_un l D cZ m0 m1 m2 m3 m4 m5 m6 err (sm_fb V) (sm_fo M) (sm_fl M) (sm_fill (sm_fw O) (fun i => decide (n ≤ i) && bt (V a) (i - n)) 0 (k + 1)) (sm_fill (sm_fw G) (fun i => decide (n ≤ i) && bt (S a) (i - n)) 0 k) S a (k - n) (by omega) (by omega)) (cwV 2 hts (sm_gV (i1 := 285) (i2 := 286) (i3 := 353) (i4 := 2) (i5 := 287) rfl rfl rfl rfl rfl) rfl rfl rfl (by decide +kernel) ⟨Nat.le_of_ble_eq_true rfl, Nat.le_of_ble_eq_true rfl⟩) hK [0] rfl hP hD hS hA 0 rfl rfl [0, 1, 2, 3, 4, 5, 6] [] rfl rfl (by decide) (by decide) (by decide) rfl hl.1 rfl (Nat.le_of_ble_eq_true rfl) dX1_shift_108 ⟨Nat.le_of_ble_eq_true rfl, Nat.le_of_ble_eq_true rfl⟩ rfl rfl (fun H locs hP hD hS => ?_)
        refine sm_ifb_eq (tgt := 118) hx hb dX1_shift_111 rfl (fun h111 => ?_) (fun h111 => ?_)
        · refine lv_iconst (v := 0) hx hb dX1_shift_118 (by decide) ?_
          refine sm_eqi (y := sm_bI (decide (n ≤ k) && bt (S a) (k - n))) (by rw [decide_eq_true hkn]; simp [sm_bI, h111]) ?_
          refine sm_zast (f' := sm_fill (sm_fw G) (fun i => decide (n ≤ i) && bt (S a) (i - n)) 0 (k + 1)) (ws' := (sm_wM cZ m0 m1 m2 m3 m4 m5 m6 err (sm_fb V) (sm_fb S) (sm_fo M) (sm_fl M) (sm_fill (sm_fw O) (fun i => decide (n ≤ i) && bt (V a) (i - n)) 0 (k + 1)) (sm_fill (sm_fw G) (fun i => decide (n ≤ i) && bt (S a) (i - n)) 0 (k + 1)))) hx hb hK hP hD hS 6 0 rfl rfl (vp_in_nI (n := k) (by omega) (by decide)) dX1_shift_119 (by rw [nI_clamp (by omega)]; exact sm_fillS0 (sm_fw G) (fun i => decide (n ≤ i) && bt (S a) (i - n)) k) rfl (fun H locs hP hD hS => ?_)
          refine lv_iinc (k := 7) (v := nI (k + 1)) (lv' := [(5, .int (nI (k + 1))), (7, .int 1), (6, .int (nI (k - n))), (0, .ref m0), (1, .int 5), (2, .int (nI a)), (3, .int (nI b)), (4, .int (nI n))]) hx hb dX1_shift_120 hl rfl (sm_inc k) (by decide) rfl (fun ls hl => ?_)
          refine lv_goto (tgt := 3) hx hb dX1_shift_123 rfl ?_
          exact ih _ _ _ (lv_sub hl [3, 4, 5, 6, 7, 0] rfl) (sm_cP (rfl) hP) (sm_cD (rfl) hD) hS
        · refine lv_iconst (v := 1) hx hb dX1_shift_114 (by decide) ?_
          refine lv_goto (tgt := 119) hx hb dX1_shift_115 rfl ?_
          refine sm_eqi (y := sm_bI (decide (n ≤ k) && bt (S a) (k - n))) (by rw [decide_eq_true hkn]; simp [sm_bI, h111]) ?_
          refine sm_zast (f' := sm_fill (sm_fw G) (fun i => decide (n ≤ i) && bt (S a) (i - n)) 0 (k + 1)) (ws' := (sm_wM cZ m0 m1 m2 m3 m4 m5 m6 err (sm_fb V) (sm_fb S) (sm_fo M) (sm_fl M) (sm_fill (sm_fw O) (fun i => decide (n ≤ i) && bt (V a) (i - n)) 0 (k + 1)) (sm_fill (sm_fw G) (fun i => decide (n ≤ i) && bt (S a) (i - n)) 0 (k + 1)))) hx hb hK hP hD hS 6 0 rfl rfl (vp_in_nI (n := k) (by omega) (by decide)) dX1_shift_119 (by rw [nI_clamp (by omega)]; exact sm_fillS0 (sm_fw G) (fun i => decide (n ≤ i) && bt (S a) (i - n)) k) rfl (fun H locs hP hD hS => ?_)
          refine lv_iinc (k := 7) (v := nI (k + 1)) (lv' := [(5, .int (nI (k + 1))), (7, .int 1), (6, .int (nI (k - n))), (0, .ref m0), (1, .int 5), (2, .int (nI a)), (3, .int (nI b)), (4, .int (nI n))]) hx hb dX1_shift_120 hl rfl (sm_inc k) (by decide) rfl (fun ls hl => ?_)
          refine lv_goto (tgt := 3) hx hb dX1_shift_123 rfl ?_
          exact ih _ _ _ (lv_sub hl [3, 4, 5, 6, 7, 0] rfl) (sm_cP (rfl) hP) (sm_cD (rfl) hD) hS
      · refine lv_iconst (v := 1) hx hb dX1_shift_87 (by decide) ?_
        refine lv_goto (tgt := 92) hx hb dX1_shift_88 rfl ?_
        refine sm_eqi (y := sm_bI (decide (n ≤ k) && bt (V a) (k - n))) (by rw [decide_eq_true hkn]; simp [sm_bI, h84]) ?_
        refine sm_zast (f' := sm_fill (sm_fw O) (fun i => decide (n ≤ i) && bt (V a) (i - n)) 0 (k + 1)) (ws' := (sm_wM cZ m0 m1 m2 m3 m4 m5 m6 err (sm_fb V) (sm_fb S) (sm_fo M) (sm_fl M) (sm_fill (sm_fw O) (fun i => decide (n ≤ i) && bt (V a) (i - n)) 0 (k + 1)) (sm_fill (sm_fw G) (fun i => decide (n ≤ i) && bt (S a) (i - n)) 0 k))) hx hb hK hP hD hS 5 0 rfl rfl (vp_in_nI (n := k) (by omega) (by decide)) dX1_shift_92 (by rw [nI_clamp (by omega)]; exact sm_fillS0 (sm_fw O) (fun i => decide (n ≤ i) && bt (V a) (i - n)) k) rfl (fun H locs hP hD hS => ?_)
        refine lv_aload_n hx hb dX1_shift_93 rfl (lv_at hl 2 rfl) ?_
        refine va_get (D := D) (ci := 1) (v := .ref m6) (C := RX1) (T := TX1) (N := 7) hx hb hts inX1 hown hK hP 0 rfl rfl 6 (by decide) (hw 238 rfl) (fun _ h9 => h9) rfl dX1_shift_94 ?_
        refine lv_iload hx hb dX1_shift_97 (lv_at hl 7 rfl) ?_
        refine lv_iload hx hb dX1_shift_99 (lv_at hl 0 rfl) ?_
        refine lv_if_eq (tgt := 118) hx hb dX1_shift_101 rfl (fun z => absurd z (by decide)) (fun _ => ?_)
        refine lv_aload_n hx hb dX1_shift_104 rfl (lv_at hl 2 rfl) ?_
        refine lv_iload_n hx hb dX1_shift_105 rfl (lv_at hl 4 rfl) ?_
        refine lv_iload hx hb dX1_shift_106 (lv_at hl 1 rfl) ?_
        refine sm_callV (C := RX1) (As := [.int (nI a), .int (nI (k - n))]) (rest := [.int (nI k), .ref m6]) (wr := []) (wn := (sm_wM cZ m0 m1 m2 m3 m4 m5 m6 err (sm_fb V) (sm_fb S) (sm_fo M) (sm_fl M) (sm_fill (sm_fw O) (fun i => decide (n ≤ i) && bt (V a) (i - n)) 0 (k + 1)) (sm_fill (sm_fw G) (fun i => decide (n ≤ i) && bt (S a) (i - n)) 0 k))) (st1 := [.int (sm_bI (bt (S a) (k - n))), .int (nI k), .ref m6]) ⟨hx, hb, hml, hown, hts⟩ (c_un l D cZ m0 m1 m2 m3 m4 m5 m6 err (sm_fb V) (sm_fo M) (sm_fl M) (sm_fill (sm_fw O) (fun i => decide (n ≤ i) && bt (V a) (i - n)) 0 (k + 1)) (sm_fill (sm_fw G) (fun i => decide (n ≤ i) && bt (S a) (i - n)) 0 k) S a (k - n) (by omega) (by omega)) (cwV 2 hts (sm_gV (i1 := 285) (i2 := 286) (i3 := 353) (i4 := 2) (i5 := 287) rfl rfl rfl rfl rfl) rfl rfl rfl (by decide +kernel) ⟨Nat.le_of_ble_eq_true rfl, Nat.le_of_ble_eq_true rfl⟩) hK [0] rfl hP hD hS hA 0 rfl rfl [0, 1, 2, 3, 4, 5, 6] [] rfl rfl (by decide) (by decide) (by decide) rfl hl.1 rfl (Nat.le_of_ble_eq_true rfl) dX1_shift_108 ⟨Nat.le_of_ble_eq_true rfl, Nat.le_of_ble_eq_true rfl⟩ rfl rfl (fun H locs hP hD hS => ?_)
        refine sm_ifb_eq (tgt := 118) hx hb dX1_shift_111 rfl (fun h111 => ?_) (fun h111 => ?_)
        · refine lv_iconst (v := 0) hx hb dX1_shift_118 (by decide) ?_
          refine sm_eqi (y := sm_bI (decide (n ≤ k) && bt (S a) (k - n))) (by rw [decide_eq_true hkn]; simp [sm_bI, h111]) ?_
          refine sm_zast (f' := sm_fill (sm_fw G) (fun i => decide (n ≤ i) && bt (S a) (i - n)) 0 (k + 1)) (ws' := (sm_wM cZ m0 m1 m2 m3 m4 m5 m6 err (sm_fb V) (sm_fb S) (sm_fo M) (sm_fl M) (sm_fill (sm_fw O) (fun i => decide (n ≤ i) && bt (V a) (i - n)) 0 (k + 1)) (sm_fill (sm_fw G) (fun i => decide (n ≤ i) && bt (S a) (i - n)) 0 (k + 1)))) hx hb hK hP hD hS 6 0 rfl rfl (vp_in_nI (n := k) (by omega) (by decide)) dX1_shift_119 (by rw [nI_clamp (by omega)]; exact sm_fillS0 (sm_fw G) (fun i => decide (n ≤ i) && bt (S a) (i - n)) k) rfl (fun H locs hP hD hS => ?_)
          refine lv_iinc (k := 7) (v := nI (k + 1)) (lv' := [(5, .int (nI (k + 1))), (7, .int 1), (6, .int (nI (k - n))), (0, .ref m0), (1, .int 5), (2, .int (nI a)), (3, .int (nI b)), (4, .int (nI n))]) hx hb dX1_shift_120 hl rfl (sm_inc k) (by decide) rfl (fun ls hl => ?_)
          refine lv_goto (tgt := 3) hx hb dX1_shift_123 rfl ?_
          exact ih _ _ _ (lv_sub hl [3, 4, 5, 6, 7, 0] rfl) (sm_cP (rfl) hP) (sm_cD (rfl) hD) hS
        · refine lv_iconst (v := 1) hx hb dX1_shift_114 (by decide) ?_
          refine lv_goto (tgt := 119) hx hb dX1_shift_115 rfl ?_
          refine sm_eqi (y := sm_bI (decide (n ≤ k) && bt (S a) (k - n))) (by rw [decide_eq_true hkn]; simp [sm_bI, h111]) ?_
          refine sm_zast (f' := sm_fill (sm_fw G) (fun i => decide (n ≤ i) && bt (S a) (i - n)) 0 (k + 1)) (ws' := (sm_wM cZ m0 m1 m2 m3 m4 m5 m6 err (sm_fb V) (sm_fb S) (sm_fo M) (sm_fl M) (sm_fill (sm_fw O) (fun i => decide (n ≤ i) && bt (V a) (i - n)) 0 (k + 1)) (sm_fill (sm_fw G) (fun i => decide (n ≤ i) && bt (S a) (i - n)) 0 (k + 1)))) hx hb hK hP hD hS 6 0 rfl rfl (vp_in_nI (n := k) (by omega) (by decide)) dX1_shift_119 (by rw [nI_clamp (by omega)]; exact sm_fillS0 (sm_fw G) (fun i => decide (n ≤ i) && bt (S a) (i - n)) k) rfl (fun H locs hP hD hS => ?_)
          refine lv_iinc (k := 7) (v := nI (k + 1)) (lv' := [(5, .int (nI (k + 1))), (7, .int 1), (6, .int (nI (k - n))), (0, .ref m0), (1, .int 5), (2, .int (nI a)), (3, .int (nI b)), (4, .int (nI n))]) hx hb dX1_shift_120 hl rfl (sm_inc k) (by decide) rfl (fun ls hl => ?_)
          refine lv_goto (tgt := 3) hx hb dX1_shift_123 rfl ?_
          exact ih _ _ _ (lv_sub hl [3, 4, 5, 6, 7, 0] rfl) (sm_cP (rfl) hP) (sm_cD (rfl) hD) hS
set_option maxHeartbeats 4000000 in
set_option maxRecDepth 100000 in
theorem c_shift_6 (l : Launch) (D : va_G) (cZ : ClassId) (m0 m1 m2 m3 m4 m5 m6 : Nat) (err : Int32) (V S M : Nat → Int32) (O G : Int32) (a b n : Nat) (ha : a < 16) (hb' : b < 16) (hn : n < 32) : sm_C l yX1_shift wsX1_shift ({ frames := 3, cells := 0, slots := 0, locals := 90 } : Room) D vwCl [(cZ, .boolean)] [.ref m0, .int 6, .int (nI a), .int (nI b), .int (nI n)] (sm_wM cZ m0 m1 m2 m3 m4 m5 m6 err (sm_fb V) (sm_fb S) (sm_fo M) (sm_fl M) (sm_fw O) (sm_fw G)) none (sm_wM cZ m0 m1 m2 m3 m4 m5 m6 err (sm_fb V) (sm_fb S) (sm_fo M) (sm_fl M) (sm_fw (sm_ushr (V a) (nI n))) (sm_fw (if S b &&& 31 = 0 then sm_ushr (S a) (nI n) else (-1)))) := by
  refine sm_start (cc := cX1_shift) (maxL := 8) (ret := none) (lv := [(0, .ref m0), (1, .int 6), (2, .int (nI a)), (3, .int (nI b)), (4, .int (nI n))]) (by decide) rfl (Nat.le_of_ble_eq_true rfl) rfl ?_
  intro p e s m below meth c hx hb hrt hts hown hlocks hml hin hK hP hD hS hA ls hl
  have hw := sm_hw hts
  refine lv_iconst (v := 0) hx hb dX1_shift_0 (by decide) ?_
  refine lv_istore (lv' := [(5, .int 0), (0, .ref m0), (1, .int 6), (2, .int (nI a)), (3, .int (nI b)), (4, .int (nI n))]) hx hb dX1_shift_1 hl (by decide) rfl (fun ls hl => ?_)
  refine sm_loopW (nL := 8) (lv := fun k => [(0, .ref m0), (1, .int 6), (2, .int (nI a)), (3, .int (nI b)), (4, .int (nI n)), (5, .int (nI k))]) (w := fun k => (sm_wM cZ m0 m1 m2 m3 m4 m5 m6 err (sm_fb V) (sm_fb S) (sm_fo M) (sm_fl M) (sm_fill (sm_fw O) (fun i => bt (V a) (n + i)) 0 k) (sm_fill (sm_fw G) (fun i => bt (S a) (n + i)) 0 k))) 32 (fun H locs ls hl hP hD hS => ?_) (fun k hk ih H locs ls hl hP hD hS => ?_) (lv_sub hl [1, 2, 3, 4, 5, 0] rfl) (sm_cP (by simp only [sm_fill0]) hP) (sm_cD (by simp only [sm_fill0]) hD) hS
  · have hl : lv_has ls 8 [(0, .ref m0), (1, .int 6), (2, .int (nI a)), (3, .int (nI b)), (4, .int (nI n)), (5, .int (nI 32))] := hl
    have hP : va_P D vwCl (sm_wM cZ m0 m1 m2 m3 m4 m5 m6 err (sm_fb V) (sm_fb S) (sm_fo M) (sm_fl M) (sm_fill (sm_fw O) (fun i => bt (V a) (n + i)) 0 32) (sm_fill (sm_fw G) (fun i => bt (S a) (n + i)) 0 32)) H := hP
    have hD : va_D _ (sm_wM cZ m0 m1 m2 m3 m4 m5 m6 err (sm_fb V) (sm_fb S) (sm_fo M) (sm_fl M) (sm_fill (sm_fw O) (fun i => bt (V a) (n + i)) 0 32) (sm_fill (sm_fw G) (fun i => bt (S a) (n + i)) 0 32)) := hD
    refine lv_iload hx hb dX1_shift_3 (lv_at hl 5 rfl) ?_
    refine lv_bipush (v := 32) hx hb dX1_shift_5 (by decide) ?_
    refine lv_icmp_ge (tgt := 126) hx hb dX1_shift_7 rfl (fun _ => ?_) (fun z => absurd (by decide) z)
    have hP : va_P D vwCl (sm_wM cZ m0 m1 m2 m3 m4 m5 m6 err (sm_fb V) (sm_fb S) (sm_fo M) (sm_fl M) (sm_fw (sm_ushr (V a) (nI n))) (sm_fw (sm_ushr (S a) (nI n)))) H := sm_cP (by rw [sm_fill_w, sm_fill_w, sm_mkx (x := sm_ushr (V a) (nI n)) (sm_shb6 hn (V a)), sm_mkx (x := sm_ushr (S a) (nI n)) (sm_shb6 hn (S a))]) hP
    have hD : va_D _ (sm_wM cZ m0 m1 m2 m3 m4 m5 m6 err (sm_fb V) (sm_fb S) (sm_fo M) (sm_fl M) (sm_fw (sm_ushr (V a) (nI n))) (sm_fw (sm_ushr (S a) (nI n)))) := sm_cD (by rw [sm_fill_w, sm_fill_w, sm_mkx (x := sm_ushr (V a) (nI n)) (sm_shb6 hn (V a)), sm_mkx (x := sm_ushr (S a) (nI n)) (sm_shb6 hn (S a))]) hD
    refine lv_iconst (v := 1) hx hb dX1_shift_126 (by decide) ?_
    refine lv_istore (lv' := [(5, .int 1), (0, .ref m0), (1, .int 6), (2, .int (nI a)), (3, .int (nI b)), (4, .int (nI n))]) hx hb dX1_shift_127 hl (by decide) rfl (fun ls hl => ?_)
    refine lv_iconst (v := 0) hx hb dX1_shift_129 (by decide) ?_
    refine lv_istore (lv' := [(6, .int 0), (5, .int 1), (0, .ref m0), (1, .int 6), (2, .int (nI a)), (3, .int (nI b)), (4, .int (nI n))]) hx hb dX1_shift_130 hl (by decide) rfl (fun ls hl => ?_)
    refine sm_loopW (nL := 8) (lv := fun k => [(0, .ref m0), (3, .int (nI b)), (5, .int (sm_bI (sm_kn (bt (S b)) k))), (6, .int (nI k))]) (w := fun k => (sm_wM cZ m0 m1 m2 m3 m4 m5 m6 err (sm_fb V) (sm_fb S) (sm_fo M) (sm_fl M) (sm_fw (sm_ushr (V a) (nI n))) (sm_fw (sm_ushr (S a) (nI n))))) 5 (fun H locs ls hl hP hD hS => ?_) (fun k hk ih H locs ls hl hP hD hS => ?_) (lv_sub hl [2, 5, 1, 0] rfl) (sm_cP (rfl) hP) (sm_cD (rfl) hD) hS
    · have hl : lv_has ls 8 [(0, .ref m0), (3, .int (nI b)), (5, .int (sm_bI (sm_kn (bt (S b)) 5))), (6, .int (nI 5))] := hl
      have hP : va_P D vwCl (sm_wM cZ m0 m1 m2 m3 m4 m5 m6 err (sm_fb V) (sm_fb S) (sm_fo M) (sm_fl M) (sm_fw (sm_ushr (V a) (nI n))) (sm_fw (sm_ushr (S a) (nI n)))) H := hP
      have hD : va_D _ (sm_wM cZ m0 m1 m2 m3 m4 m5 m6 err (sm_fb V) (sm_fb S) (sm_fo M) (sm_fl M) (sm_fw (sm_ushr (V a) (nI n))) (sm_fw (sm_ushr (S a) (nI n)))) := hD
      refine lv_iload hx hb dX1_shift_132 (lv_at hl 3 rfl) ?_
      refine lv_iconst (v := 5) hx hb dX1_shift_134 (by decide) ?_
      refine lv_icmp_ge (tgt := 157) hx hb dX1_shift_135 rfl (fun _ => ?_) (fun z => absurd (by decide) z)
      refine lv_iload hx hb dX1_shift_157 (lv_at hl 2 rfl) ?_
      refine sm_ifb_ne (tgt := 167) hx hb dX1_shift_159 rfl (fun h159 => ?_) (fun h159 => ?_)
      · exact sm_vret hx hb hrt hlocks hS (sm_cP (by rw [if_pos (sm_kn5 h159)]) hP) (sm_cD (by rw [if_pos (sm_kn5 h159)]) hD) dX1_shift_167
      · refine lv_aload_n hx hb dX1_shift_162 rfl (lv_at hl 0 rfl) ?_
        refine lv_iconst (v := 0) hx hb dX1_shift_163 (by decide) ?_
        refine sm_callV (C := RX1) (As := [.int (nI 0)]) (rest := []) (wr := []) (wn := (sm_wM cZ m0 m1 m2 m3 m4 m5 m6 err (sm_fb V) (sm_fb S) (sm_fo M) (sm_fl M) (sm_fw (sm_ushr (V a) (nI n))) (sm_fw (sm_fr 0)))) (st1 := []) ⟨hx, hb, hml, hown, hts⟩ (c_from l D cZ m0 m1 m2 m3 m4 m5 m6 err V S M (sm_ushr (V a) (nI n)) (sm_ushr (S a) (nI n)) 0 (by decide)) (cwV 1 hts (sm_gV (i1 := 288) (i2 := 289) (i3 := 354) (i4 := 2) (i5 := 290) rfl rfl rfl rfl rfl) rfl rfl rfl (by decide +kernel) ⟨Nat.le_of_ble_eq_true rfl, Nat.le_of_ble_eq_true rfl⟩) hK [0] rfl hP hD hS hA 0 rfl rfl [0, 1, 2, 3, 4, 5, 6] [] rfl rfl (by decide) (by decide) (by decide) rfl hl.1 rfl (Nat.le_of_ble_eq_true rfl) dX1_shift_164 ⟨Nat.le_of_ble_eq_true rfl, Nat.le_of_ble_eq_true rfl⟩ rfl rfl (fun H locs hP hD hS => ?_)
        exact sm_vret hx hb hrt hlocks hS (sm_cP (by rw [if_neg (sm_kn5n h159), sm_fr_all]) hP) (sm_cD (by rw [if_neg (sm_kn5n h159), sm_fr_all]) hD) dX1_shift_167
    · have hl : lv_has ls 8 [(0, .ref m0), (3, .int (nI b)), (5, .int (sm_bI (sm_kn (bt (S b)) k))), (6, .int (nI k))] := hl
      have hP : va_P D vwCl (sm_wM cZ m0 m1 m2 m3 m4 m5 m6 err (sm_fb V) (sm_fb S) (sm_fo M) (sm_fl M) (sm_fw (sm_ushr (V a) (nI n))) (sm_fw (sm_ushr (S a) (nI n)))) H := hP
      have hD : va_D _ (sm_wM cZ m0 m1 m2 m3 m4 m5 m6 err (sm_fb V) (sm_fb S) (sm_fo M) (sm_fl M) (sm_fw (sm_ushr (V a) (nI n))) (sm_fw (sm_ushr (S a) (nI n)))) := hD
      refine lv_iload hx hb dX1_shift_132 (lv_at hl 3 rfl) ?_
      refine lv_iconst (v := 5) hx hb dX1_shift_134 (by decide) ?_
      refine lv_icmp_ge (tgt := 157) hx hb dX1_shift_135 rfl (fun z => absurd z (nI_ge (b := 5) hk (by decide))) (fun _ => ?_)
      refine lv_aload_n hx hb dX1_shift_138 rfl (lv_at hl 0 rfl) ?_
      refine lv_iload_n hx hb dX1_shift_139 rfl (lv_at hl 1 rfl) ?_
      refine lv_iload hx hb dX1_shift_140 (lv_at hl 3 rfl) ?_
      refine sm_callV (C := RX1) (As := [.int (nI b), .int (nI k)]) (rest := []) (wr := []) (wn := (sm_wM cZ m0 m1 m2 m3 m4 m5 m6 err (sm_fb V) (sm_fb S) (sm_fo M) (sm_fl M) (sm_fw (sm_ushr (V a) (nI n))) (sm_fw (sm_ushr (S a) (nI n))))) (st1 := [.int (sm_bI (bt (S b) k))]) ⟨hx, hb, hml, hown, hts⟩ (c_un l D cZ m0 m1 m2 m3 m4 m5 m6 err (sm_fb V) (sm_fo M) (sm_fl M) (sm_fw (sm_ushr (V a) (nI n))) (sm_fw (sm_ushr (S a) (nI n))) S b k (by omega) (by omega)) (cwV 2 hts (sm_gV (i1 := 285) (i2 := 286) (i3 := 353) (i4 := 2) (i5 := 287) rfl rfl rfl rfl rfl) rfl rfl rfl (by decide +kernel) ⟨Nat.le_of_ble_eq_true rfl, Nat.le_of_ble_eq_true rfl⟩) hK [0] rfl hP hD hS hA 0 rfl rfl [0, 1, 2, 3, 4, 5, 6] [] rfl rfl (by decide) (by decide) (by decide) rfl hl.1 rfl (Nat.le_of_ble_eq_true rfl) dX1_shift_142 ⟨Nat.le_of_ble_eq_true rfl, Nat.le_of_ble_eq_true rfl⟩ rfl rfl (fun H locs hP hD hS => ?_)
      refine sm_ifb_eq (tgt := 151) hx hb dX1_shift_145 rfl (fun h145 => ?_) (fun h145 => ?_)
      · have hl : lv_has ls 8 [(0, .ref m0), (3, .int (nI b)), (5, .int (sm_bI (sm_kn (bt (S b)) (k + 1)))), (6, .int (nI k))] := by rw [sm_kn_n h145]; exact hl
        refine lv_iinc (k := 3) (v := nI (k + 1)) (lv' := [(6, .int (nI (k + 1))), (0, .ref m0), (3, .int (nI b)), (5, .int (sm_bI (sm_kn (bt (S b)) (k + 1))))]) hx hb dX1_shift_151 hl rfl (sm_inc k) (by decide) rfl (fun ls hl => ?_)
        refine lv_goto (tgt := 132) hx hb dX1_shift_154 rfl ?_
        exact ih _ _ _ (lv_sub hl [1, 2, 3, 0] rfl) (sm_cP (rfl) hP) (sm_cD (rfl) hD) hS
      · refine lv_iconst (v := 0) hx hb dX1_shift_148 (by decide) ?_
        refine lv_istore (lv' := [(5, .int 0), (0, .ref m0), (3, .int (nI b)), (6, .int (nI k))]) hx hb dX1_shift_149 hl (by decide) rfl (fun ls hl => ?_)
        have hl : lv_has ls 8 [(5, .int (sm_bI (sm_kn (bt (S b)) (k + 1)))), (0, .ref m0), (3, .int (nI b)), (6, .int (nI k))] := by rw [sm_kn_t h145]; exact hl
        refine lv_iinc (k := 3) (v := nI (k + 1)) (lv' := [(6, .int (nI (k + 1))), (5, .int (sm_bI (sm_kn (bt (S b)) (k + 1)))), (0, .ref m0), (3, .int (nI b))]) hx hb dX1_shift_151 hl rfl (sm_inc k) (by decide) rfl (fun ls hl => ?_)
        refine lv_goto (tgt := 132) hx hb dX1_shift_154 rfl ?_
        exact ih _ _ _ (lv_sub hl [2, 3, 1, 0] rfl) (sm_cP (rfl) hP) (sm_cD (rfl) hD) hS
  · have hl : lv_has ls 8 [(0, .ref m0), (1, .int 6), (2, .int (nI a)), (3, .int (nI b)), (4, .int (nI n)), (5, .int (nI k))] := hl
    have hP : va_P D vwCl (sm_wM cZ m0 m1 m2 m3 m4 m5 m6 err (sm_fb V) (sm_fb S) (sm_fo M) (sm_fl M) (sm_fill (sm_fw O) (fun i => bt (V a) (n + i)) 0 k) (sm_fill (sm_fw G) (fun i => bt (S a) (n + i)) 0 k)) H := hP
    have hD : va_D _ (sm_wM cZ m0 m1 m2 m3 m4 m5 m6 err (sm_fb V) (sm_fb S) (sm_fo M) (sm_fl M) (sm_fill (sm_fw O) (fun i => bt (V a) (n + i)) 0 k) (sm_fill (sm_fw G) (fun i => bt (S a) (n + i)) 0 k)) := hD
    refine lv_iload hx hb dX1_shift_3 (lv_at hl 5 rfl) ?_
    refine lv_bipush (v := 32) hx hb dX1_shift_5 (by decide) ?_
    refine lv_icmp_ge (tgt := 126) hx hb dX1_shift_7 rfl (fun z => absurd z (nI_ge (b := 32) hk (by decide))) (fun _ => ?_)
    refine lv_iload_n hx hb dX1_shift_10 rfl (lv_at hl 1 rfl) ?_
    refine lv_iconst (v := 5) hx hb dX1_shift_11 (by decide) ?_
    refine lv_icmp_ne (tgt := 23) hx hb dX1_shift_12 rfl (fun _ => ?_) (fun z => absurd z (by decide))
    rcases Nat.lt_or_ge (n + k) 32 with hkn | hkn
    · refine lv_iload hx hb dX1_shift_23 (lv_at hl 5 rfl) ?_
      refine lv_iload hx hb dX1_shift_25 (lv_at hl 4 rfl) ?_
      refine lv_iadd hx hb dX1_shift_27 ?_
      refine sm_eqi (y := nI (k + n)) (nI_add k n) ?_
      refine sm_eqi (y := nI (n + k)) (by rw [Nat.add_comm]) ?_
      refine lv_istore (lv' := [(6, .int (nI (n + k))), (0, .ref m0), (1, .int 6), (2, .int (nI a)), (3, .int (nI b)), (4, .int (nI n)), (5, .int (nI k))]) hx hb dX1_shift_28 hl (by decide) rfl (fun ls hl => ?_)
      refine lv_iload_n hx hb dX1_shift_30 rfl (lv_at hl 2 rfl) ?_
      refine lv_bipush (v := 7) hx hb dX1_shift_31 (by decide) ?_
      refine lv_icmp_ne (tgt := 47) hx hb dX1_shift_33 rfl (fun _ => ?_) (fun z => absurd z (by decide))
      refine lv_iload hx hb dX1_shift_47 (lv_at hl 0 rfl) ?_
      refine lv_if_lt (tgt := 63) hx hb dX1_shift_49 rfl (fun z => absurd z (nI_pos (by omega))) (fun _ => ?_)
      refine lv_iload hx hb dX1_shift_52 (lv_at hl 0 rfl) ?_
      refine lv_bipush (v := 32) hx hb dX1_shift_54 (by decide) ?_
      refine lv_icmp_ge (tgt := 63) hx hb dX1_shift_56 rfl (fun z => absurd z (nI_ge (b := 32) (by omega) (by decide))) (fun _ => ?_)
      refine lv_iconst (v := 1) hx hb dX1_shift_59 (by decide) ?_
      refine lv_goto (tgt := 64) hx hb dX1_shift_60 rfl ?_
      refine lv_istore (lv' := [(7, .int 1), (6, .int (nI (n + k))), (0, .ref m0), (1, .int 6), (2, .int (nI a)), (3, .int (nI b)), (4, .int (nI n)), (5, .int (nI k))]) hx hb dX1_shift_64 hl (by decide) rfl (fun ls hl => ?_)
      refine lv_aload_n hx hb dX1_shift_66 rfl (lv_at hl 2 rfl) ?_
      refine va_get (D := D) (ci := 1) (v := .ref m5) (C := RX1) (T := TX1) (N := 7) hx hb hts inX1 hown hK hP 0 rfl rfl 5 (by decide) (hw 237 rfl) (fun _ h9 => h9) rfl dX1_shift_67 ?_
      refine lv_iload hx hb dX1_shift_70 (lv_at hl 7 rfl) ?_
      refine lv_iload hx hb dX1_shift_72 (lv_at hl 0 rfl) ?_
      refine lv_if_eq (tgt := 91) hx hb dX1_shift_74 rfl (fun z => absurd z (by decide)) (fun _ => ?_)
      refine lv_aload_n hx hb dX1_shift_77 rfl (lv_at hl 2 rfl) ?_
      refine lv_iload_n hx hb dX1_shift_78 rfl (lv_at hl 4 rfl) ?_
      refine lv_iload hx hb dX1_shift_79 (lv_at hl 1 rfl) ?_
      refine sm_callV (C := RX1) (As := [.int (nI a), .int (nI (n + k))]) (rest := [.int (nI k), .ref m5]) (wr := []) (wn := (sm_wM cZ m0 m1 m2 m3 m4 m5 m6 err (sm_fb V) (sm_fb S) (sm_fo M) (sm_fl M) (sm_fill (sm_fw O) (fun i => bt (V a) (n + i)) 0 k) (sm_fill (sm_fw G) (fun i => bt (S a) (n + i)) 0 k))) (st1 := [.int (sm_bI (bt (V a) (n + k))), .int (nI k), .ref m5]) ⟨hx, hb, hml, hown, hts⟩ (c_is l D cZ m0 m1 m2 m3 m4 m5 m6 err (sm_fb S) (sm_fo M) (sm_fl M) (sm_fill (sm_fw O) (fun i => bt (V a) (n + i)) 0 k) (sm_fill (sm_fw G) (fun i => bt (S a) (n + i)) 0 k) V a (n + k) (by omega) (by omega)) (cwV 2 hts (sm_gV (i1 := 291) (i2 := 292) (i3 := 355) (i4 := 2) (i5 := 293) rfl rfl rfl rfl rfl) rfl rfl rfl (by decide +kernel) ⟨Nat.le_of_ble_eq_true rfl, Nat.le_of_ble_eq_true rfl⟩) hK [0] rfl hP hD hS hA 0 rfl rfl [0, 1, 2, 3, 4, 5, 6] [] rfl rfl (by decide) (by decide) (by decide) rfl hl.1 rfl (Nat.le_of_ble_eq_true rfl) dX1_shift_81 ⟨Nat.le_of_ble_eq_true rfl, Nat.le_of_ble_eq_true rfl⟩ rfl rfl (fun H locs hP hD hS => ?_)
      refine sm_ifb_eq (tgt := 91) hx hb dX1_shift_84 rfl (fun h84 => ?_) (fun h84 => ?_)
      · refine lv_iconst (v := 0) hx hb dX1_shift_91 (by decide) ?_
        refine sm_eqi (y := sm_bI (bt (V a) (n + k))) (by simp [sm_bI, hkn, h84]) ?_
        refine sm_zast (f' := sm_fill (sm_fw O) (fun i => bt (V a) (n + i)) 0 (k + 1)) (ws' := (sm_wM cZ m0 m1 m2 m3 m4 m5 m6 err (sm_fb V) (sm_fb S) (sm_fo M) (sm_fl M) (sm_fill (sm_fw O) (fun i => bt (V a) (n + i)) 0 (k + 1)) (sm_fill (sm_fw G) (fun i => bt (S a) (n + i)) 0 k))) hx hb hK hP hD hS 5 0 rfl rfl (vp_in_nI (n := k) (by omega) (by decide)) dX1_shift_92 (by rw [nI_clamp (by omega)]; exact sm_fillS0 (sm_fw O) (fun i => bt (V a) (n + i)) k) rfl (fun H locs hP hD hS => ?_)
        refine lv_aload_n hx hb dX1_shift_93 rfl (lv_at hl 2 rfl) ?_
        refine va_get (D := D) (ci := 1) (v := .ref m6) (C := RX1) (T := TX1) (N := 7) hx hb hts inX1 hown hK hP 0 rfl rfl 6 (by decide) (hw 238 rfl) (fun _ h9 => h9) rfl dX1_shift_94 ?_
        refine lv_iload hx hb dX1_shift_97 (lv_at hl 7 rfl) ?_
        refine lv_iload hx hb dX1_shift_99 (lv_at hl 0 rfl) ?_
        refine lv_if_eq (tgt := 118) hx hb dX1_shift_101 rfl (fun z => absurd z (by decide)) (fun _ => ?_)
        refine lv_aload_n hx hb dX1_shift_104 rfl (lv_at hl 2 rfl) ?_
        refine lv_iload_n hx hb dX1_shift_105 rfl (lv_at hl 4 rfl) ?_
        refine lv_iload hx hb dX1_shift_106 (lv_at hl 1 rfl) ?_
        refine sm_callV (C := RX1) (As := [.int (nI a), .int (nI (n + k))]) (rest := [.int (nI k), .ref m6]) (wr := []) (wn := (sm_wM cZ m0 m1 m2 m3 m4 m5 m6 err (sm_fb V) (sm_fb S) (sm_fo M) (sm_fl M) (sm_fill (sm_fw O) (fun i => bt (V a) (n + i)) 0 (k + 1)) (sm_fill (sm_fw G) (fun i => bt (S a) (n + i)) 0 k))) (st1 := [.int (sm_bI (bt (S a) (n + k))), .int (nI k), .ref m6]) ⟨hx, hb, hml, hown, hts⟩ (c_un l D cZ m0 m1 m2 m3 m4 m5 m6 err (sm_fb V) (sm_fo M) (sm_fl M) (sm_fill (sm_fw O) (fun i => bt (V a) (n + i)) 0 (k + 1)) (sm_fill (sm_fw G) (fun i => bt (S a) (n + i)) 0 k) S a (n + k) (by omega) (by omega)) (cwV 2 hts (sm_gV (i1 := 285) (i2 := 286) (i3 := 353) (i4 := 2) (i5 := 287) rfl rfl rfl rfl rfl) rfl rfl rfl (by decide +kernel) ⟨Nat.le_of_ble_eq_true rfl, Nat.le_of_ble_eq_true rfl⟩) hK [0] rfl hP hD hS hA 0 rfl rfl [0, 1, 2, 3, 4, 5, 6] [] rfl rfl (by decide) (by decide) (by decide) rfl hl.1 rfl (Nat.le_of_ble_eq_true rfl) dX1_shift_108 ⟨Nat.le_of_ble_eq_true rfl, Nat.le_of_ble_eq_true rfl⟩ rfl rfl (fun H locs hP hD hS => ?_)
        refine sm_ifb_eq (tgt := 118) hx hb dX1_shift_111 rfl (fun h111 => ?_) (fun h111 => ?_)
        · refine lv_iconst (v := 0) hx hb dX1_shift_118 (by decide) ?_
          refine sm_eqi (y := sm_bI (bt (S a) (n + k))) (by simp [sm_bI, hkn, h84, h111]) ?_
          refine sm_zast (f' := sm_fill (sm_fw G) (fun i => bt (S a) (n + i)) 0 (k + 1)) (ws' := (sm_wM cZ m0 m1 m2 m3 m4 m5 m6 err (sm_fb V) (sm_fb S) (sm_fo M) (sm_fl M) (sm_fill (sm_fw O) (fun i => bt (V a) (n + i)) 0 (k + 1)) (sm_fill (sm_fw G) (fun i => bt (S a) (n + i)) 0 (k + 1)))) hx hb hK hP hD hS 6 0 rfl rfl (vp_in_nI (n := k) (by omega) (by decide)) dX1_shift_119 (by rw [nI_clamp (by omega)]; exact sm_fillS0 (sm_fw G) (fun i => bt (S a) (n + i)) k) rfl (fun H locs hP hD hS => ?_)
          refine lv_iinc (k := 7) (v := nI (k + 1)) (lv' := [(5, .int (nI (k + 1))), (7, .int 1), (6, .int (nI (n + k))), (0, .ref m0), (1, .int 6), (2, .int (nI a)), (3, .int (nI b)), (4, .int (nI n))]) hx hb dX1_shift_120 hl rfl (sm_inc k) (by decide) rfl (fun ls hl => ?_)
          refine lv_goto (tgt := 3) hx hb dX1_shift_123 rfl ?_
          exact ih _ _ _ (lv_sub hl [3, 4, 5, 6, 7, 0] rfl) (sm_cP (rfl) hP) (sm_cD (rfl) hD) hS
        · refine lv_iconst (v := 1) hx hb dX1_shift_114 (by decide) ?_
          refine lv_goto (tgt := 119) hx hb dX1_shift_115 rfl ?_
          refine sm_eqi (y := sm_bI (bt (S a) (n + k))) (by simp [sm_bI, hkn, h84, h111]) ?_
          refine sm_zast (f' := sm_fill (sm_fw G) (fun i => bt (S a) (n + i)) 0 (k + 1)) (ws' := (sm_wM cZ m0 m1 m2 m3 m4 m5 m6 err (sm_fb V) (sm_fb S) (sm_fo M) (sm_fl M) (sm_fill (sm_fw O) (fun i => bt (V a) (n + i)) 0 (k + 1)) (sm_fill (sm_fw G) (fun i => bt (S a) (n + i)) 0 (k + 1)))) hx hb hK hP hD hS 6 0 rfl rfl (vp_in_nI (n := k) (by omega) (by decide)) dX1_shift_119 (by rw [nI_clamp (by omega)]; exact sm_fillS0 (sm_fw G) (fun i => bt (S a) (n + i)) k) rfl (fun H locs hP hD hS => ?_)
          refine lv_iinc (k := 7) (v := nI (k + 1)) (lv' := [(5, .int (nI (k + 1))), (7, .int 1), (6, .int (nI (n + k))), (0, .ref m0), (1, .int 6), (2, .int (nI a)), (3, .int (nI b)), (4, .int (nI n))]) hx hb dX1_shift_120 hl rfl (sm_inc k) (by decide) rfl (fun ls hl => ?_)
          refine lv_goto (tgt := 3) hx hb dX1_shift_123 rfl ?_
          exact ih _ _ _ (lv_sub hl [3, 4, 5, 6, 7, 0] rfl) (sm_cP (rfl) hP) (sm_cD (rfl) hD) hS
      · refine lv_iconst (v := 1) hx hb dX1_shift_87 (by decide) ?_
        refine lv_goto (tgt := 92) hx hb dX1_shift_88 rfl ?_
        refine sm_eqi (y := sm_bI (bt (V a) (n + k))) (by simp [sm_bI, hkn, h84]) ?_
        refine sm_zast (f' := sm_fill (sm_fw O) (fun i => bt (V a) (n + i)) 0 (k + 1)) (ws' := (sm_wM cZ m0 m1 m2 m3 m4 m5 m6 err (sm_fb V) (sm_fb S) (sm_fo M) (sm_fl M) (sm_fill (sm_fw O) (fun i => bt (V a) (n + i)) 0 (k + 1)) (sm_fill (sm_fw G) (fun i => bt (S a) (n + i)) 0 k))) hx hb hK hP hD hS 5 0 rfl rfl (vp_in_nI (n := k) (by omega) (by decide)) dX1_shift_92 (by rw [nI_clamp (by omega)]; exact sm_fillS0 (sm_fw O) (fun i => bt (V a) (n + i)) k) rfl (fun H locs hP hD hS => ?_)
        refine lv_aload_n hx hb dX1_shift_93 rfl (lv_at hl 2 rfl) ?_
        refine va_get (D := D) (ci := 1) (v := .ref m6) (C := RX1) (T := TX1) (N := 7) hx hb hts inX1 hown hK hP 0 rfl rfl 6 (by decide) (hw 238 rfl) (fun _ h9 => h9) rfl dX1_shift_94 ?_
        refine lv_iload hx hb dX1_shift_97 (lv_at hl 7 rfl) ?_
        refine lv_iload hx hb dX1_shift_99 (lv_at hl 0 rfl) ?_
        refine lv_if_eq (tgt := 118) hx hb dX1_shift_101 rfl (fun z => absurd z (by decide)) (fun _ => ?_)
        refine lv_aload_n hx hb dX1_shift_104 rfl (lv_at hl 2 rfl) ?_
        refine lv_iload_n hx hb dX1_shift_105 rfl (lv_at hl 4 rfl) ?_
        refine lv_iload hx hb dX1_shift_106 (lv_at hl 1 rfl) ?_
        refine sm_callV (C := RX1) (As := [.int (nI a), .int (nI (n + k))]) (rest := [.int (nI k), .ref m6]) (wr := []) (wn := (sm_wM cZ m0 m1 m2 m3 m4 m5 m6 err (sm_fb V) (sm_fb S) (sm_fo M) (sm_fl M) (sm_fill (sm_fw O) (fun i => bt (V a) (n + i)) 0 (k + 1)) (sm_fill (sm_fw G) (fun i => bt (S a) (n + i)) 0 k))) (st1 := [.int (sm_bI (bt (S a) (n + k))), .int (nI k), .ref m6]) ⟨hx, hb, hml, hown, hts⟩ (c_un l D cZ m0 m1 m2 m3 m4 m5 m6 err (sm_fb V) (sm_fo M) (sm_fl M) (sm_fill (sm_fw O) (fun i => bt (V a) (n + i)) 0 (k + 1)) (sm_fill (sm_fw G) (fun i => bt (S a) (n + i)) 0 k) S a (n + k) (by omega) (by omega)) (cwV 2 hts (sm_gV (i1 := 285) (i2 := 286) (i3 := 353) (i4 := 2) (i5 := 287) rfl rfl rfl rfl rfl) rfl rfl rfl (by decide +kernel) ⟨Nat.le_of_ble_eq_true rfl, Nat.le_of_ble_eq_true rfl⟩) hK [0] rfl hP hD hS hA 0 rfl rfl [0, 1, 2, 3, 4, 5, 6] [] rfl rfl (by decide) (by decide) (by decide) rfl hl.1 rfl (Nat.le_of_ble_eq_true rfl) dX1_shift_108 ⟨Nat.le_of_ble_eq_true rfl, Nat.le_of_ble_eq_true rfl⟩ rfl rfl (fun H locs hP hD hS => ?_)
        refine sm_ifb_eq (tgt := 118) hx hb dX1_shift_111 rfl (fun h111 => ?_) (fun h111 => ?_)
        · refine lv_iconst (v := 0) hx hb dX1_shift_118 (by decide) ?_
          refine sm_eqi (y := sm_bI (bt (S a) (n + k))) (by simp [sm_bI, hkn, h84, h111]) ?_
          refine sm_zast (f' := sm_fill (sm_fw G) (fun i => bt (S a) (n + i)) 0 (k + 1)) (ws' := (sm_wM cZ m0 m1 m2 m3 m4 m5 m6 err (sm_fb V) (sm_fb S) (sm_fo M) (sm_fl M) (sm_fill (sm_fw O) (fun i => bt (V a) (n + i)) 0 (k + 1)) (sm_fill (sm_fw G) (fun i => bt (S a) (n + i)) 0 (k + 1)))) hx hb hK hP hD hS 6 0 rfl rfl (vp_in_nI (n := k) (by omega) (by decide)) dX1_shift_119 (by rw [nI_clamp (by omega)]; exact sm_fillS0 (sm_fw G) (fun i => bt (S a) (n + i)) k) rfl (fun H locs hP hD hS => ?_)
          refine lv_iinc (k := 7) (v := nI (k + 1)) (lv' := [(5, .int (nI (k + 1))), (7, .int 1), (6, .int (nI (n + k))), (0, .ref m0), (1, .int 6), (2, .int (nI a)), (3, .int (nI b)), (4, .int (nI n))]) hx hb dX1_shift_120 hl rfl (sm_inc k) (by decide) rfl (fun ls hl => ?_)
          refine lv_goto (tgt := 3) hx hb dX1_shift_123 rfl ?_
          exact ih _ _ _ (lv_sub hl [3, 4, 5, 6, 7, 0] rfl) (sm_cP (rfl) hP) (sm_cD (rfl) hD) hS
        · refine lv_iconst (v := 1) hx hb dX1_shift_114 (by decide) ?_
          refine lv_goto (tgt := 119) hx hb dX1_shift_115 rfl ?_
          refine sm_eqi (y := sm_bI (bt (S a) (n + k))) (by simp [sm_bI, hkn, h84, h111]) ?_
          refine sm_zast (f' := sm_fill (sm_fw G) (fun i => bt (S a) (n + i)) 0 (k + 1)) (ws' := (sm_wM cZ m0 m1 m2 m3 m4 m5 m6 err (sm_fb V) (sm_fb S) (sm_fo M) (sm_fl M) (sm_fill (sm_fw O) (fun i => bt (V a) (n + i)) 0 (k + 1)) (sm_fill (sm_fw G) (fun i => bt (S a) (n + i)) 0 (k + 1)))) hx hb hK hP hD hS 6 0 rfl rfl (vp_in_nI (n := k) (by omega) (by decide)) dX1_shift_119 (by rw [nI_clamp (by omega)]; exact sm_fillS0 (sm_fw G) (fun i => bt (S a) (n + i)) k) rfl (fun H locs hP hD hS => ?_)
          refine lv_iinc (k := 7) (v := nI (k + 1)) (lv' := [(5, .int (nI (k + 1))), (7, .int 1), (6, .int (nI (n + k))), (0, .ref m0), (1, .int 6), (2, .int (nI a)), (3, .int (nI b)), (4, .int (nI n))]) hx hb dX1_shift_120 hl rfl (sm_inc k) (by decide) rfl (fun ls hl => ?_)
          refine lv_goto (tgt := 3) hx hb dX1_shift_123 rfl ?_
          exact ih _ _ _ (lv_sub hl [3, 4, 5, 6, 7, 0] rfl) (sm_cP (rfl) hP) (sm_cD (rfl) hD) hS
    · refine lv_iload hx hb dX1_shift_23 (lv_at hl 5 rfl) ?_
      refine lv_iload hx hb dX1_shift_25 (lv_at hl 4 rfl) ?_
      refine lv_iadd hx hb dX1_shift_27 ?_
      refine sm_eqi (y := nI (k + n)) (nI_add k n) ?_
      refine sm_eqi (y := nI (n + k)) (by rw [Nat.add_comm]) ?_
      refine lv_istore (lv' := [(6, .int (nI (n + k))), (0, .ref m0), (1, .int 6), (2, .int (nI a)), (3, .int (nI b)), (4, .int (nI n)), (5, .int (nI k))]) hx hb dX1_shift_28 hl (by decide) rfl (fun ls hl => ?_)
      refine lv_iload_n hx hb dX1_shift_30 rfl (lv_at hl 2 rfl) ?_
      refine lv_bipush (v := 7) hx hb dX1_shift_31 (by decide) ?_
      refine lv_icmp_ne (tgt := 47) hx hb dX1_shift_33 rfl (fun _ => ?_) (fun z => absurd z (by decide))
      refine lv_iload hx hb dX1_shift_47 (lv_at hl 0 rfl) ?_
      refine lv_if_lt (tgt := 63) hx hb dX1_shift_49 rfl (fun z => absurd z (nI_pos (by omega))) (fun _ => ?_)
      refine lv_iload hx hb dX1_shift_52 (lv_at hl 0 rfl) ?_
      refine lv_bipush (v := 32) hx hb dX1_shift_54 (by decide) ?_
      refine lv_icmp_ge (tgt := 63) hx hb dX1_shift_56 rfl (fun _ => ?_) (fun z => absurd (nI_le (a := 32) (by omega) (by omega)) z)
      refine lv_iconst (v := 0) hx hb dX1_shift_63 (by decide) ?_
      refine lv_istore (lv' := [(7, .int 0), (6, .int (nI (n + k))), (0, .ref m0), (1, .int 6), (2, .int (nI a)), (3, .int (nI b)), (4, .int (nI n)), (5, .int (nI k))]) hx hb dX1_shift_64 hl (by decide) rfl (fun ls hl => ?_)
      refine lv_aload_n hx hb dX1_shift_66 rfl (lv_at hl 2 rfl) ?_
      refine va_get (D := D) (ci := 1) (v := .ref m5) (C := RX1) (T := TX1) (N := 7) hx hb hts inX1 hown hK hP 0 rfl rfl 5 (by decide) (hw 237 rfl) (fun _ h9 => h9) rfl dX1_shift_67 ?_
      refine lv_iload hx hb dX1_shift_70 (lv_at hl 7 rfl) ?_
      refine lv_iload hx hb dX1_shift_72 (lv_at hl 0 rfl) ?_
      refine lv_if_eq (tgt := 91) hx hb dX1_shift_74 rfl (fun _ => ?_) (fun z => absurd (by decide) z)
      refine lv_iconst (v := 0) hx hb dX1_shift_91 (by decide) ?_
      refine sm_eqi (y := sm_bI (bt (V a) (n + k))) (sm_shz hkn) ?_
      refine sm_zast (f' := sm_fill (sm_fw O) (fun i => bt (V a) (n + i)) 0 (k + 1)) (ws' := (sm_wM cZ m0 m1 m2 m3 m4 m5 m6 err (sm_fb V) (sm_fb S) (sm_fo M) (sm_fl M) (sm_fill (sm_fw O) (fun i => bt (V a) (n + i)) 0 (k + 1)) (sm_fill (sm_fw G) (fun i => bt (S a) (n + i)) 0 k))) hx hb hK hP hD hS 5 0 rfl rfl (vp_in_nI (n := k) (by omega) (by decide)) dX1_shift_92 (by rw [nI_clamp (by omega)]; exact sm_fillS0 (sm_fw O) (fun i => bt (V a) (n + i)) k) rfl (fun H locs hP hD hS => ?_)
      refine lv_aload_n hx hb dX1_shift_93 rfl (lv_at hl 2 rfl) ?_
      refine va_get (D := D) (ci := 1) (v := .ref m6) (C := RX1) (T := TX1) (N := 7) hx hb hts inX1 hown hK hP 0 rfl rfl 6 (by decide) (hw 238 rfl) (fun _ h9 => h9) rfl dX1_shift_94 ?_
      refine lv_iload hx hb dX1_shift_97 (lv_at hl 7 rfl) ?_
      refine lv_iload hx hb dX1_shift_99 (lv_at hl 0 rfl) ?_
      refine lv_if_eq (tgt := 118) hx hb dX1_shift_101 rfl (fun _ => ?_) (fun z => absurd (by decide) z)
      refine lv_iconst (v := 0) hx hb dX1_shift_118 (by decide) ?_
      refine sm_eqi (y := sm_bI (bt (S a) (n + k))) (sm_shz hkn) ?_
      refine sm_zast (f' := sm_fill (sm_fw G) (fun i => bt (S a) (n + i)) 0 (k + 1)) (ws' := (sm_wM cZ m0 m1 m2 m3 m4 m5 m6 err (sm_fb V) (sm_fb S) (sm_fo M) (sm_fl M) (sm_fill (sm_fw O) (fun i => bt (V a) (n + i)) 0 (k + 1)) (sm_fill (sm_fw G) (fun i => bt (S a) (n + i)) 0 (k + 1)))) hx hb hK hP hD hS 6 0 rfl rfl (vp_in_nI (n := k) (by omega) (by decide)) dX1_shift_119 (by rw [nI_clamp (by omega)]; exact sm_fillS0 (sm_fw G) (fun i => bt (S a) (n + i)) k) rfl (fun H locs hP hD hS => ?_)
      refine lv_iinc (k := 7) (v := nI (k + 1)) (lv' := [(5, .int (nI (k + 1))), (7, .int 0), (6, .int (nI (n + k))), (0, .ref m0), (1, .int 6), (2, .int (nI a)), (3, .int (nI b)), (4, .int (nI n))]) hx hb dX1_shift_120 hl rfl (sm_inc k) (by decide) rfl (fun ls hl => ?_)
      refine lv_goto (tgt := 3) hx hb dX1_shift_123 rfl ?_
      exact ih _ _ _ (lv_sub hl [3, 4, 5, 6, 7, 0] rfl) (sm_cP (rfl) hP) (sm_cD (rfl) hD) hS
set_option maxHeartbeats 4000000 in
set_option maxRecDepth 100000 in
theorem c_shift_7 (l : Launch) (D : va_G) (cZ : ClassId) (m0 m1 m2 m3 m4 m5 m6 : Nat) (err : Int32) (V S M : Nat → Int32) (O G : Int32) (a b n : Nat) (ha : a < 16) (hb' : b < 16) (hn : n < 32) : sm_C l yX1_shift wsX1_shift ({ frames := 3, cells := 0, slots := 0, locals := 90 } : Room) D vwCl [(cZ, .boolean)] [.ref m0, .int 7, .int (nI a), .int (nI b), .int (nI n)] (sm_wM cZ m0 m1 m2 m3 m4 m5 m6 err (sm_fb V) (sm_fb S) (sm_fo M) (sm_fl M) (sm_fw O) (sm_fw G)) none (sm_wM cZ m0 m1 m2 m3 m4 m5 m6 err (sm_fb V) (sm_fb S) (sm_fo M) (sm_fl M) (sm_fw (V a >>> (nI n &&& 31))) (sm_fw (if S b &&& 31 = 0 then S a >>> (nI n &&& 31) else (-1)))) := by
  refine sm_start (cc := cX1_shift) (maxL := 8) (ret := none) (lv := [(0, .ref m0), (1, .int 7), (2, .int (nI a)), (3, .int (nI b)), (4, .int (nI n))]) (by decide) rfl (Nat.le_of_ble_eq_true rfl) rfl ?_
  intro p e s m below meth c hx hb hrt hts hown hlocks hml hin hK hP hD hS hA ls hl
  have hw := sm_hw hts
  refine lv_iconst (v := 0) hx hb dX1_shift_0 (by decide) ?_
  refine lv_istore (lv' := [(5, .int 0), (0, .ref m0), (1, .int 7), (2, .int (nI a)), (3, .int (nI b)), (4, .int (nI n))]) hx hb dX1_shift_1 hl (by decide) rfl (fun ls hl => ?_)
  refine sm_loopW (nL := 8) (lv := fun k => [(0, .ref m0), (1, .int 7), (2, .int (nI a)), (3, .int (nI b)), (4, .int (nI n)), (5, .int (nI k))]) (w := fun k => (sm_wM cZ m0 m1 m2 m3 m4 m5 m6 err (sm_fb V) (sm_fb S) (sm_fo M) (sm_fl M) (sm_fill (sm_fw O) (fun i => if n + i < 32 then bt (V a) (n + i) else bt (V a) 31) 0 k) (sm_fill (sm_fw G) (fun i => if n + i < 32 then bt (S a) (n + i) else bt (S a) 31) 0 k))) 32 (fun H locs ls hl hP hD hS => ?_) (fun k hk ih H locs ls hl hP hD hS => ?_) (lv_sub hl [1, 2, 3, 4, 5, 0] rfl) (sm_cP (by simp only [sm_fill0]) hP) (sm_cD (by simp only [sm_fill0]) hD) hS
  · have hl : lv_has ls 8 [(0, .ref m0), (1, .int 7), (2, .int (nI a)), (3, .int (nI b)), (4, .int (nI n)), (5, .int (nI 32))] := hl
    have hP : va_P D vwCl (sm_wM cZ m0 m1 m2 m3 m4 m5 m6 err (sm_fb V) (sm_fb S) (sm_fo M) (sm_fl M) (sm_fill (sm_fw O) (fun i => if n + i < 32 then bt (V a) (n + i) else bt (V a) 31) 0 32) (sm_fill (sm_fw G) (fun i => if n + i < 32 then bt (S a) (n + i) else bt (S a) 31) 0 32)) H := hP
    have hD : va_D _ (sm_wM cZ m0 m1 m2 m3 m4 m5 m6 err (sm_fb V) (sm_fb S) (sm_fo M) (sm_fl M) (sm_fill (sm_fw O) (fun i => if n + i < 32 then bt (V a) (n + i) else bt (V a) 31) 0 32) (sm_fill (sm_fw G) (fun i => if n + i < 32 then bt (S a) (n + i) else bt (S a) 31) 0 32)) := hD
    refine lv_iload hx hb dX1_shift_3 (lv_at hl 5 rfl) ?_
    refine lv_bipush (v := 32) hx hb dX1_shift_5 (by decide) ?_
    refine lv_icmp_ge (tgt := 126) hx hb dX1_shift_7 rfl (fun _ => ?_) (fun z => absurd (by decide) z)
    have hP : va_P D vwCl (sm_wM cZ m0 m1 m2 m3 m4 m5 m6 err (sm_fb V) (sm_fb S) (sm_fo M) (sm_fl M) (sm_fw (V a >>> (nI n &&& 31))) (sm_fw (S a >>> (nI n &&& 31)))) H := sm_cP (by rw [sm_fill_w, sm_fill_w, sm_mkx (x := V a >>> (nI n &&& 31)) (sm_shb7 hn (V a)), sm_mkx (x := S a >>> (nI n &&& 31)) (sm_shb7 hn (S a))]) hP
    have hD : va_D _ (sm_wM cZ m0 m1 m2 m3 m4 m5 m6 err (sm_fb V) (sm_fb S) (sm_fo M) (sm_fl M) (sm_fw (V a >>> (nI n &&& 31))) (sm_fw (S a >>> (nI n &&& 31)))) := sm_cD (by rw [sm_fill_w, sm_fill_w, sm_mkx (x := V a >>> (nI n &&& 31)) (sm_shb7 hn (V a)), sm_mkx (x := S a >>> (nI n &&& 31)) (sm_shb7 hn (S a))]) hD
    refine lv_iconst (v := 1) hx hb dX1_shift_126 (by decide) ?_
    refine lv_istore (lv' := [(5, .int 1), (0, .ref m0), (1, .int 7), (2, .int (nI a)), (3, .int (nI b)), (4, .int (nI n))]) hx hb dX1_shift_127 hl (by decide) rfl (fun ls hl => ?_)
    refine lv_iconst (v := 0) hx hb dX1_shift_129 (by decide) ?_
    refine lv_istore (lv' := [(6, .int 0), (5, .int 1), (0, .ref m0), (1, .int 7), (2, .int (nI a)), (3, .int (nI b)), (4, .int (nI n))]) hx hb dX1_shift_130 hl (by decide) rfl (fun ls hl => ?_)
    refine sm_loopW (nL := 8) (lv := fun k => [(0, .ref m0), (3, .int (nI b)), (5, .int (sm_bI (sm_kn (bt (S b)) k))), (6, .int (nI k))]) (w := fun k => (sm_wM cZ m0 m1 m2 m3 m4 m5 m6 err (sm_fb V) (sm_fb S) (sm_fo M) (sm_fl M) (sm_fw (V a >>> (nI n &&& 31))) (sm_fw (S a >>> (nI n &&& 31))))) 5 (fun H locs ls hl hP hD hS => ?_) (fun k hk ih H locs ls hl hP hD hS => ?_) (lv_sub hl [2, 5, 1, 0] rfl) (sm_cP (rfl) hP) (sm_cD (rfl) hD) hS
    · have hl : lv_has ls 8 [(0, .ref m0), (3, .int (nI b)), (5, .int (sm_bI (sm_kn (bt (S b)) 5))), (6, .int (nI 5))] := hl
      have hP : va_P D vwCl (sm_wM cZ m0 m1 m2 m3 m4 m5 m6 err (sm_fb V) (sm_fb S) (sm_fo M) (sm_fl M) (sm_fw (V a >>> (nI n &&& 31))) (sm_fw (S a >>> (nI n &&& 31)))) H := hP
      have hD : va_D _ (sm_wM cZ m0 m1 m2 m3 m4 m5 m6 err (sm_fb V) (sm_fb S) (sm_fo M) (sm_fl M) (sm_fw (V a >>> (nI n &&& 31))) (sm_fw (S a >>> (nI n &&& 31)))) := hD
      refine lv_iload hx hb dX1_shift_132 (lv_at hl 3 rfl) ?_
      refine lv_iconst (v := 5) hx hb dX1_shift_134 (by decide) ?_
      refine lv_icmp_ge (tgt := 157) hx hb dX1_shift_135 rfl (fun _ => ?_) (fun z => absurd (by decide) z)
      refine lv_iload hx hb dX1_shift_157 (lv_at hl 2 rfl) ?_
      refine sm_ifb_ne (tgt := 167) hx hb dX1_shift_159 rfl (fun h159 => ?_) (fun h159 => ?_)
      · exact sm_vret hx hb hrt hlocks hS (sm_cP (by rw [if_pos (sm_kn5 h159)]) hP) (sm_cD (by rw [if_pos (sm_kn5 h159)]) hD) dX1_shift_167
      · refine lv_aload_n hx hb dX1_shift_162 rfl (lv_at hl 0 rfl) ?_
        refine lv_iconst (v := 0) hx hb dX1_shift_163 (by decide) ?_
        refine sm_callV (C := RX1) (As := [.int (nI 0)]) (rest := []) (wr := []) (wn := (sm_wM cZ m0 m1 m2 m3 m4 m5 m6 err (sm_fb V) (sm_fb S) (sm_fo M) (sm_fl M) (sm_fw (V a >>> (nI n &&& 31))) (sm_fw (sm_fr 0)))) (st1 := []) ⟨hx, hb, hml, hown, hts⟩ (c_from l D cZ m0 m1 m2 m3 m4 m5 m6 err V S M (V a >>> (nI n &&& 31)) (S a >>> (nI n &&& 31)) 0 (by decide)) (cwV 1 hts (sm_gV (i1 := 288) (i2 := 289) (i3 := 354) (i4 := 2) (i5 := 290) rfl rfl rfl rfl rfl) rfl rfl rfl (by decide +kernel) ⟨Nat.le_of_ble_eq_true rfl, Nat.le_of_ble_eq_true rfl⟩) hK [0] rfl hP hD hS hA 0 rfl rfl [0, 1, 2, 3, 4, 5, 6] [] rfl rfl (by decide) (by decide) (by decide) rfl hl.1 rfl (Nat.le_of_ble_eq_true rfl) dX1_shift_164 ⟨Nat.le_of_ble_eq_true rfl, Nat.le_of_ble_eq_true rfl⟩ rfl rfl (fun H locs hP hD hS => ?_)
        exact sm_vret hx hb hrt hlocks hS (sm_cP (by rw [if_neg (sm_kn5n h159), sm_fr_all]) hP) (sm_cD (by rw [if_neg (sm_kn5n h159), sm_fr_all]) hD) dX1_shift_167
    · have hl : lv_has ls 8 [(0, .ref m0), (3, .int (nI b)), (5, .int (sm_bI (sm_kn (bt (S b)) k))), (6, .int (nI k))] := hl
      have hP : va_P D vwCl (sm_wM cZ m0 m1 m2 m3 m4 m5 m6 err (sm_fb V) (sm_fb S) (sm_fo M) (sm_fl M) (sm_fw (V a >>> (nI n &&& 31))) (sm_fw (S a >>> (nI n &&& 31)))) H := hP
      have hD : va_D _ (sm_wM cZ m0 m1 m2 m3 m4 m5 m6 err (sm_fb V) (sm_fb S) (sm_fo M) (sm_fl M) (sm_fw (V a >>> (nI n &&& 31))) (sm_fw (S a >>> (nI n &&& 31)))) := hD
      refine lv_iload hx hb dX1_shift_132 (lv_at hl 3 rfl) ?_
      refine lv_iconst (v := 5) hx hb dX1_shift_134 (by decide) ?_
      refine lv_icmp_ge (tgt := 157) hx hb dX1_shift_135 rfl (fun z => absurd z (nI_ge (b := 5) hk (by decide))) (fun _ => ?_)
      refine lv_aload_n hx hb dX1_shift_138 rfl (lv_at hl 0 rfl) ?_
      refine lv_iload_n hx hb dX1_shift_139 rfl (lv_at hl 1 rfl) ?_
      refine lv_iload hx hb dX1_shift_140 (lv_at hl 3 rfl) ?_
      refine sm_callV (C := RX1) (As := [.int (nI b), .int (nI k)]) (rest := []) (wr := []) (wn := (sm_wM cZ m0 m1 m2 m3 m4 m5 m6 err (sm_fb V) (sm_fb S) (sm_fo M) (sm_fl M) (sm_fw (V a >>> (nI n &&& 31))) (sm_fw (S a >>> (nI n &&& 31))))) (st1 := [.int (sm_bI (bt (S b) k))]) ⟨hx, hb, hml, hown, hts⟩ (c_un l D cZ m0 m1 m2 m3 m4 m5 m6 err (sm_fb V) (sm_fo M) (sm_fl M) (sm_fw (V a >>> (nI n &&& 31))) (sm_fw (S a >>> (nI n &&& 31))) S b k (by omega) (by omega)) (cwV 2 hts (sm_gV (i1 := 285) (i2 := 286) (i3 := 353) (i4 := 2) (i5 := 287) rfl rfl rfl rfl rfl) rfl rfl rfl (by decide +kernel) ⟨Nat.le_of_ble_eq_true rfl, Nat.le_of_ble_eq_true rfl⟩) hK [0] rfl hP hD hS hA 0 rfl rfl [0, 1, 2, 3, 4, 5, 6] [] rfl rfl (by decide) (by decide) (by decide) rfl hl.1 rfl (Nat.le_of_ble_eq_true rfl) dX1_shift_142 ⟨Nat.le_of_ble_eq_true rfl, Nat.le_of_ble_eq_true rfl⟩ rfl rfl (fun H locs hP hD hS => ?_)
      refine sm_ifb_eq (tgt := 151) hx hb dX1_shift_145 rfl (fun h145 => ?_) (fun h145 => ?_)
      · have hl : lv_has ls 8 [(0, .ref m0), (3, .int (nI b)), (5, .int (sm_bI (sm_kn (bt (S b)) (k + 1)))), (6, .int (nI k))] := by rw [sm_kn_n h145]; exact hl
        refine lv_iinc (k := 3) (v := nI (k + 1)) (lv' := [(6, .int (nI (k + 1))), (0, .ref m0), (3, .int (nI b)), (5, .int (sm_bI (sm_kn (bt (S b)) (k + 1))))]) hx hb dX1_shift_151 hl rfl (sm_inc k) (by decide) rfl (fun ls hl => ?_)
        refine lv_goto (tgt := 132) hx hb dX1_shift_154 rfl ?_
        exact ih _ _ _ (lv_sub hl [1, 2, 3, 0] rfl) (sm_cP (rfl) hP) (sm_cD (rfl) hD) hS
      · refine lv_iconst (v := 0) hx hb dX1_shift_148 (by decide) ?_
        refine lv_istore (lv' := [(5, .int 0), (0, .ref m0), (3, .int (nI b)), (6, .int (nI k))]) hx hb dX1_shift_149 hl (by decide) rfl (fun ls hl => ?_)
        have hl : lv_has ls 8 [(5, .int (sm_bI (sm_kn (bt (S b)) (k + 1)))), (0, .ref m0), (3, .int (nI b)), (6, .int (nI k))] := by rw [sm_kn_t h145]; exact hl
        refine lv_iinc (k := 3) (v := nI (k + 1)) (lv' := [(6, .int (nI (k + 1))), (5, .int (sm_bI (sm_kn (bt (S b)) (k + 1)))), (0, .ref m0), (3, .int (nI b))]) hx hb dX1_shift_151 hl rfl (sm_inc k) (by decide) rfl (fun ls hl => ?_)
        refine lv_goto (tgt := 132) hx hb dX1_shift_154 rfl ?_
        exact ih _ _ _ (lv_sub hl [2, 3, 1, 0] rfl) (sm_cP (rfl) hP) (sm_cD (rfl) hD) hS
  · have hl : lv_has ls 8 [(0, .ref m0), (1, .int 7), (2, .int (nI a)), (3, .int (nI b)), (4, .int (nI n)), (5, .int (nI k))] := hl
    have hP : va_P D vwCl (sm_wM cZ m0 m1 m2 m3 m4 m5 m6 err (sm_fb V) (sm_fb S) (sm_fo M) (sm_fl M) (sm_fill (sm_fw O) (fun i => if n + i < 32 then bt (V a) (n + i) else bt (V a) 31) 0 k) (sm_fill (sm_fw G) (fun i => if n + i < 32 then bt (S a) (n + i) else bt (S a) 31) 0 k)) H := hP
    have hD : va_D _ (sm_wM cZ m0 m1 m2 m3 m4 m5 m6 err (sm_fb V) (sm_fb S) (sm_fo M) (sm_fl M) (sm_fill (sm_fw O) (fun i => if n + i < 32 then bt (V a) (n + i) else bt (V a) 31) 0 k) (sm_fill (sm_fw G) (fun i => if n + i < 32 then bt (S a) (n + i) else bt (S a) 31) 0 k)) := hD
    refine lv_iload hx hb dX1_shift_3 (lv_at hl 5 rfl) ?_
    refine lv_bipush (v := 32) hx hb dX1_shift_5 (by decide) ?_
    refine lv_icmp_ge (tgt := 126) hx hb dX1_shift_7 rfl (fun z => absurd z (nI_ge (b := 32) hk (by decide))) (fun _ => ?_)
    refine lv_iload_n hx hb dX1_shift_10 rfl (lv_at hl 1 rfl) ?_
    refine lv_iconst (v := 5) hx hb dX1_shift_11 (by decide) ?_
    refine lv_icmp_ne (tgt := 23) hx hb dX1_shift_12 rfl (fun _ => ?_) (fun z => absurd z (by decide))
    rcases Nat.lt_or_ge (n + k) 32 with hkn | hkn
    · refine lv_iload hx hb dX1_shift_23 (lv_at hl 5 rfl) ?_
      refine lv_iload hx hb dX1_shift_25 (lv_at hl 4 rfl) ?_
      refine lv_iadd hx hb dX1_shift_27 ?_
      refine sm_eqi (y := nI (k + n)) (nI_add k n) ?_
      refine sm_eqi (y := nI (n + k)) (by rw [Nat.add_comm]) ?_
      refine lv_istore (lv' := [(6, .int (nI (n + k))), (0, .ref m0), (1, .int 7), (2, .int (nI a)), (3, .int (nI b)), (4, .int (nI n)), (5, .int (nI k))]) hx hb dX1_shift_28 hl (by decide) rfl (fun ls hl => ?_)
      refine lv_iload_n hx hb dX1_shift_30 rfl (lv_at hl 2 rfl) ?_
      refine lv_bipush (v := 7) hx hb dX1_shift_31 (by decide) ?_
      refine lv_icmp_ne (tgt := 47) hx hb dX1_shift_33 rfl (fun z => absurd (by decide) z) (fun _ => ?_)
      refine lv_iload hx hb dX1_shift_36 (lv_at hl 0 rfl) ?_
      refine lv_bipush (v := 31) hx hb dX1_shift_38 (by decide) ?_
      refine lv_icmp_le (tgt := 47) hx hb dX1_shift_40 rfl (fun _ => ?_) (fun z => absurd (nI_le (b := 31) (by omega) (by decide)) z)
      refine lv_iload hx hb dX1_shift_47 (lv_at hl 0 rfl) ?_
      refine lv_if_lt (tgt := 63) hx hb dX1_shift_49 rfl (fun z => absurd z (nI_pos (by omega))) (fun _ => ?_)
      refine lv_iload hx hb dX1_shift_52 (lv_at hl 0 rfl) ?_
      refine lv_bipush (v := 32) hx hb dX1_shift_54 (by decide) ?_
      refine lv_icmp_ge (tgt := 63) hx hb dX1_shift_56 rfl (fun z => absurd z (nI_ge (b := 32) (by omega) (by decide))) (fun _ => ?_)
      refine lv_iconst (v := 1) hx hb dX1_shift_59 (by decide) ?_
      refine lv_goto (tgt := 64) hx hb dX1_shift_60 rfl ?_
      refine lv_istore (lv' := [(7, .int 1), (6, .int (nI (n + k))), (0, .ref m0), (1, .int 7), (2, .int (nI a)), (3, .int (nI b)), (4, .int (nI n)), (5, .int (nI k))]) hx hb dX1_shift_64 hl (by decide) rfl (fun ls hl => ?_)
      refine lv_aload_n hx hb dX1_shift_66 rfl (lv_at hl 2 rfl) ?_
      refine va_get (D := D) (ci := 1) (v := .ref m5) (C := RX1) (T := TX1) (N := 7) hx hb hts inX1 hown hK hP 0 rfl rfl 5 (by decide) (hw 237 rfl) (fun _ h9 => h9) rfl dX1_shift_67 ?_
      refine lv_iload hx hb dX1_shift_70 (lv_at hl 7 rfl) ?_
      refine lv_iload hx hb dX1_shift_72 (lv_at hl 0 rfl) ?_
      refine lv_if_eq (tgt := 91) hx hb dX1_shift_74 rfl (fun z => absurd z (by decide)) (fun _ => ?_)
      refine lv_aload_n hx hb dX1_shift_77 rfl (lv_at hl 2 rfl) ?_
      refine lv_iload_n hx hb dX1_shift_78 rfl (lv_at hl 4 rfl) ?_
      refine lv_iload hx hb dX1_shift_79 (lv_at hl 1 rfl) ?_
      refine sm_callV (C := RX1) (As := [.int (nI a), .int (nI (n + k))]) (rest := [.int (nI k), .ref m5]) (wr := []) (wn := (sm_wM cZ m0 m1 m2 m3 m4 m5 m6 err (sm_fb V) (sm_fb S) (sm_fo M) (sm_fl M) (sm_fill (sm_fw O) (fun i => if n + i < 32 then bt (V a) (n + i) else bt (V a) 31) 0 k) (sm_fill (sm_fw G) (fun i => if n + i < 32 then bt (S a) (n + i) else bt (S a) 31) 0 k))) (st1 := [.int (sm_bI (bt (V a) (n + k))), .int (nI k), .ref m5]) ⟨hx, hb, hml, hown, hts⟩ (c_is l D cZ m0 m1 m2 m3 m4 m5 m6 err (sm_fb S) (sm_fo M) (sm_fl M) (sm_fill (sm_fw O) (fun i => if n + i < 32 then bt (V a) (n + i) else bt (V a) 31) 0 k) (sm_fill (sm_fw G) (fun i => if n + i < 32 then bt (S a) (n + i) else bt (S a) 31) 0 k) V a (n + k) (by omega) (by omega)) (cwV 2 hts (sm_gV (i1 := 291) (i2 := 292) (i3 := 355) (i4 := 2) (i5 := 293) rfl rfl rfl rfl rfl) rfl rfl rfl (by decide +kernel) ⟨Nat.le_of_ble_eq_true rfl, Nat.le_of_ble_eq_true rfl⟩) hK [0] rfl hP hD hS hA 0 rfl rfl [0, 1, 2, 3, 4, 5, 6] [] rfl rfl (by decide) (by decide) (by decide) rfl hl.1 rfl (Nat.le_of_ble_eq_true rfl) dX1_shift_81 ⟨Nat.le_of_ble_eq_true rfl, Nat.le_of_ble_eq_true rfl⟩ rfl rfl (fun H locs hP hD hS => ?_)
      refine sm_ifb_eq (tgt := 91) hx hb dX1_shift_84 rfl (fun h84 => ?_) (fun h84 => ?_)
      · refine lv_iconst (v := 0) hx hb dX1_shift_91 (by decide) ?_
        refine sm_eqi (y := sm_bI (if n + k < 32 then bt (V a) (n + k) else bt (V a) 31)) (by rw [if_pos hkn]; simp [sm_bI, h84]) ?_
        refine sm_zast (f' := sm_fill (sm_fw O) (fun i => if n + i < 32 then bt (V a) (n + i) else bt (V a) 31) 0 (k + 1)) (ws' := (sm_wM cZ m0 m1 m2 m3 m4 m5 m6 err (sm_fb V) (sm_fb S) (sm_fo M) (sm_fl M) (sm_fill (sm_fw O) (fun i => if n + i < 32 then bt (V a) (n + i) else bt (V a) 31) 0 (k + 1)) (sm_fill (sm_fw G) (fun i => if n + i < 32 then bt (S a) (n + i) else bt (S a) 31) 0 k))) hx hb hK hP hD hS 5 0 rfl rfl (vp_in_nI (n := k) (by omega) (by decide)) dX1_shift_92 (by rw [nI_clamp (by omega)]; exact sm_fillS0 (sm_fw O) (fun i => if n + i < 32 then bt (V a) (n + i) else bt (V a) 31) k) rfl (fun H locs hP hD hS => ?_)
        refine lv_aload_n hx hb dX1_shift_93 rfl (lv_at hl 2 rfl) ?_
        refine va_get (D := D) (ci := 1) (v := .ref m6) (C := RX1) (T := TX1) (N := 7) hx hb hts inX1 hown hK hP 0 rfl rfl 6 (by decide) (hw 238 rfl) (fun _ h9 => h9) rfl dX1_shift_94 ?_
        refine lv_iload hx hb dX1_shift_97 (lv_at hl 7 rfl) ?_
        refine lv_iload hx hb dX1_shift_99 (lv_at hl 0 rfl) ?_
        refine lv_if_eq (tgt := 118) hx hb dX1_shift_101 rfl (fun z => absurd z (by decide)) (fun _ => ?_)
        refine lv_aload_n hx hb dX1_shift_104 rfl (lv_at hl 2 rfl) ?_
        refine lv_iload_n hx hb dX1_shift_105 rfl (lv_at hl 4 rfl) ?_
        refine lv_iload hx hb dX1_shift_106 (lv_at hl 1 rfl) ?_
        refine sm_callV (C := RX1) (As := [.int (nI a), .int (nI (n + k))]) (rest := [.int (nI k), .ref m6]) (wr := []) (wn := (sm_wM cZ m0 m1 m2 m3 m4 m5 m6 err (sm_fb V) (sm_fb S) (sm_fo M) (sm_fl M) (sm_fill (sm_fw O) (fun i => if n + i < 32 then bt (V a) (n + i) else bt (V a) 31) 0 (k + 1)) (sm_fill (sm_fw G) (fun i => if n + i < 32 then bt (S a) (n + i) else bt (S a) 31) 0 k))) (st1 := [.int (sm_bI (bt (S a) (n + k))), .int (nI k), .ref m6]) ⟨hx, hb, hml, hown, hts⟩ (c_un l D cZ m0 m1 m2 m3 m4 m5 m6 err (sm_fb V) (sm_fo M) (sm_fl M) (sm_fill (sm_fw O) (fun i => if n + i < 32 then bt (V a) (n + i) else bt (V a) 31) 0 (k + 1)) (sm_fill (sm_fw G) (fun i => if n + i < 32 then bt (S a) (n + i) else bt (S a) 31) 0 k) S a (n + k) (by omega) (by omega)) (cwV 2 hts (sm_gV (i1 := 285) (i2 := 286) (i3 := 353) (i4 := 2) (i5 := 287) rfl rfl rfl rfl rfl) rfl rfl rfl (by decide +kernel) ⟨Nat.le_of_ble_eq_true rfl, Nat.le_of_ble_eq_true rfl⟩) hK [0] rfl hP hD hS hA 0 rfl rfl [0, 1, 2, 3, 4, 5, 6] [] rfl rfl (by decide) (by decide) (by decide) rfl hl.1 rfl (Nat.le_of_ble_eq_true rfl) dX1_shift_108 ⟨Nat.le_of_ble_eq_true rfl, Nat.le_of_ble_eq_true rfl⟩ rfl rfl (fun H locs hP hD hS => ?_)
        refine sm_ifb_eq (tgt := 118) hx hb dX1_shift_111 rfl (fun h111 => ?_) (fun h111 => ?_)
        · refine lv_iconst (v := 0) hx hb dX1_shift_118 (by decide) ?_
          refine sm_eqi (y := sm_bI (if n + k < 32 then bt (S a) (n + k) else bt (S a) 31)) (by rw [if_pos hkn]; simp [sm_bI, h111]) ?_
          refine sm_zast (f' := sm_fill (sm_fw G) (fun i => if n + i < 32 then bt (S a) (n + i) else bt (S a) 31) 0 (k + 1)) (ws' := (sm_wM cZ m0 m1 m2 m3 m4 m5 m6 err (sm_fb V) (sm_fb S) (sm_fo M) (sm_fl M) (sm_fill (sm_fw O) (fun i => if n + i < 32 then bt (V a) (n + i) else bt (V a) 31) 0 (k + 1)) (sm_fill (sm_fw G) (fun i => if n + i < 32 then bt (S a) (n + i) else bt (S a) 31) 0 (k + 1)))) hx hb hK hP hD hS 6 0 rfl rfl (vp_in_nI (n := k) (by omega) (by decide)) dX1_shift_119 (by rw [nI_clamp (by omega)]; exact sm_fillS0 (sm_fw G) (fun i => if n + i < 32 then bt (S a) (n + i) else bt (S a) 31) k) rfl (fun H locs hP hD hS => ?_)
          refine lv_iinc (k := 7) (v := nI (k + 1)) (lv' := [(5, .int (nI (k + 1))), (7, .int 1), (6, .int (nI (n + k))), (0, .ref m0), (1, .int 7), (2, .int (nI a)), (3, .int (nI b)), (4, .int (nI n))]) hx hb dX1_shift_120 hl rfl (sm_inc k) (by decide) rfl (fun ls hl => ?_)
          refine lv_goto (tgt := 3) hx hb dX1_shift_123 rfl ?_
          exact ih _ _ _ (lv_sub hl [3, 4, 5, 6, 7, 0] rfl) (sm_cP (rfl) hP) (sm_cD (rfl) hD) hS
        · refine lv_iconst (v := 1) hx hb dX1_shift_114 (by decide) ?_
          refine lv_goto (tgt := 119) hx hb dX1_shift_115 rfl ?_
          refine sm_eqi (y := sm_bI (if n + k < 32 then bt (S a) (n + k) else bt (S a) 31)) (by rw [if_pos hkn]; simp [sm_bI, h111]) ?_
          refine sm_zast (f' := sm_fill (sm_fw G) (fun i => if n + i < 32 then bt (S a) (n + i) else bt (S a) 31) 0 (k + 1)) (ws' := (sm_wM cZ m0 m1 m2 m3 m4 m5 m6 err (sm_fb V) (sm_fb S) (sm_fo M) (sm_fl M) (sm_fill (sm_fw O) (fun i => if n + i < 32 then bt (V a) (n + i) else bt (V a) 31) 0 (k + 1)) (sm_fill (sm_fw G) (fun i => if n + i < 32 then bt (S a) (n + i) else bt (S a) 31) 0 (k + 1)))) hx hb hK hP hD hS 6 0 rfl rfl (vp_in_nI (n := k) (by omega) (by decide)) dX1_shift_119 (by rw [nI_clamp (by omega)]; exact sm_fillS0 (sm_fw G) (fun i => if n + i < 32 then bt (S a) (n + i) else bt (S a) 31) k) rfl (fun H locs hP hD hS => ?_)
          refine lv_iinc (k := 7) (v := nI (k + 1)) (lv' := [(5, .int (nI (k + 1))), (7, .int 1), (6, .int (nI (n + k))), (0, .ref m0), (1, .int 7), (2, .int (nI a)), (3, .int (nI b)), (4, .int (nI n))]) hx hb dX1_shift_120 hl rfl (sm_inc k) (by decide) rfl (fun ls hl => ?_)
          refine lv_goto (tgt := 3) hx hb dX1_shift_123 rfl ?_
          exact ih _ _ _ (lv_sub hl [3, 4, 5, 6, 7, 0] rfl) (sm_cP (rfl) hP) (sm_cD (rfl) hD) hS
      · refine lv_iconst (v := 1) hx hb dX1_shift_87 (by decide) ?_
        refine lv_goto (tgt := 92) hx hb dX1_shift_88 rfl ?_
        refine sm_eqi (y := sm_bI (if n + k < 32 then bt (V a) (n + k) else bt (V a) 31)) (by rw [if_pos hkn]; simp [sm_bI, h84]) ?_
        refine sm_zast (f' := sm_fill (sm_fw O) (fun i => if n + i < 32 then bt (V a) (n + i) else bt (V a) 31) 0 (k + 1)) (ws' := (sm_wM cZ m0 m1 m2 m3 m4 m5 m6 err (sm_fb V) (sm_fb S) (sm_fo M) (sm_fl M) (sm_fill (sm_fw O) (fun i => if n + i < 32 then bt (V a) (n + i) else bt (V a) 31) 0 (k + 1)) (sm_fill (sm_fw G) (fun i => if n + i < 32 then bt (S a) (n + i) else bt (S a) 31) 0 k))) hx hb hK hP hD hS 5 0 rfl rfl (vp_in_nI (n := k) (by omega) (by decide)) dX1_shift_92 (by rw [nI_clamp (by omega)]; exact sm_fillS0 (sm_fw O) (fun i => if n + i < 32 then bt (V a) (n + i) else bt (V a) 31) k) rfl (fun H locs hP hD hS => ?_)
        refine lv_aload_n hx hb dX1_shift_93 rfl (lv_at hl 2 rfl) ?_
        refine va_get (D := D) (ci := 1) (v := .ref m6) (C := RX1) (T := TX1) (N := 7) hx hb hts inX1 hown hK hP 0 rfl rfl 6 (by decide) (hw 238 rfl) (fun _ h9 => h9) rfl dX1_shift_94 ?_
        refine lv_iload hx hb dX1_shift_97 (lv_at hl 7 rfl) ?_
        refine lv_iload hx hb dX1_shift_99 (lv_at hl 0 rfl) ?_
        refine lv_if_eq (tgt := 118) hx hb dX1_shift_101 rfl (fun z => absurd z (by decide)) (fun _ => ?_)
        refine lv_aload_n hx hb dX1_shift_104 rfl (lv_at hl 2 rfl) ?_
        refine lv_iload_n hx hb dX1_shift_105 rfl (lv_at hl 4 rfl) ?_
        refine lv_iload hx hb dX1_shift_106 (lv_at hl 1 rfl) ?_
        refine sm_callV (C := RX1) (As := [.int (nI a), .int (nI (n + k))]) (rest := [.int (nI k), .ref m6]) (wr := []) (wn := (sm_wM cZ m0 m1 m2 m3 m4 m5 m6 err (sm_fb V) (sm_fb S) (sm_fo M) (sm_fl M) (sm_fill (sm_fw O) (fun i => if n + i < 32 then bt (V a) (n + i) else bt (V a) 31) 0 (k + 1)) (sm_fill (sm_fw G) (fun i => if n + i < 32 then bt (S a) (n + i) else bt (S a) 31) 0 k))) (st1 := [.int (sm_bI (bt (S a) (n + k))), .int (nI k), .ref m6]) ⟨hx, hb, hml, hown, hts⟩ (c_un l D cZ m0 m1 m2 m3 m4 m5 m6 err (sm_fb V) (sm_fo M) (sm_fl M) (sm_fill (sm_fw O) (fun i => if n + i < 32 then bt (V a) (n + i) else bt (V a) 31) 0 (k + 1)) (sm_fill (sm_fw G) (fun i => if n + i < 32 then bt (S a) (n + i) else bt (S a) 31) 0 k) S a (n + k) (by omega) (by omega)) (cwV 2 hts (sm_gV (i1 := 285) (i2 := 286) (i3 := 353) (i4 := 2) (i5 := 287) rfl rfl rfl rfl rfl) rfl rfl rfl (by decide +kernel) ⟨Nat.le_of_ble_eq_true rfl, Nat.le_of_ble_eq_true rfl⟩) hK [0] rfl hP hD hS hA 0 rfl rfl [0, 1, 2, 3, 4, 5, 6] [] rfl rfl (by decide) (by decide) (by decide) rfl hl.1 rfl (Nat.le_of_ble_eq_true rfl) dX1_shift_108 ⟨Nat.le_of_ble_eq_true rfl, Nat.le_of_ble_eq_true rfl⟩ rfl rfl (fun H locs hP hD hS => ?_)
        refine sm_ifb_eq (tgt := 118) hx hb dX1_shift_111 rfl (fun h111 => ?_) (fun h111 => ?_)
        · refine lv_iconst (v := 0) hx hb dX1_shift_118 (by decide) ?_
          refine sm_eqi (y := sm_bI (if n + k < 32 then bt (S a) (n + k) else bt (S a) 31)) (by rw [if_pos hkn]; simp [sm_bI, h111]) ?_
          refine sm_zast (f' := sm_fill (sm_fw G) (fun i => if n + i < 32 then bt (S a) (n + i) else bt (S a) 31) 0 (k + 1)) (ws' := (sm_wM cZ m0 m1 m2 m3 m4 m5 m6 err (sm_fb V) (sm_fb S) (sm_fo M) (sm_fl M) (sm_fill (sm_fw O) (fun i => if n + i < 32 then bt (V a) (n + i) else bt (V a) 31) 0 (k + 1)) (sm_fill (sm_fw G) (fun i => if n + i < 32 then bt (S a) (n + i) else bt (S a) 31) 0 (k + 1)))) hx hb hK hP hD hS 6 0 rfl rfl (vp_in_nI (n := k) (by omega) (by decide)) dX1_shift_119 (by rw [nI_clamp (by omega)]; exact sm_fillS0 (sm_fw G) (fun i => if n + i < 32 then bt (S a) (n + i) else bt (S a) 31) k) rfl (fun H locs hP hD hS => ?_)
          refine lv_iinc (k := 7) (v := nI (k + 1)) (lv' := [(5, .int (nI (k + 1))), (7, .int 1), (6, .int (nI (n + k))), (0, .ref m0), (1, .int 7), (2, .int (nI a)), (3, .int (nI b)), (4, .int (nI n))]) hx hb dX1_shift_120 hl rfl (sm_inc k) (by decide) rfl (fun ls hl => ?_)
          refine lv_goto (tgt := 3) hx hb dX1_shift_123 rfl ?_
          exact ih _ _ _ (lv_sub hl [3, 4, 5, 6, 7, 0] rfl) (sm_cP (rfl) hP) (sm_cD (rfl) hD) hS
        · refine lv_iconst (v := 1) hx hb dX1_shift_114 (by decide) ?_
          refine lv_goto (tgt := 119) hx hb dX1_shift_115 rfl ?_
          refine sm_eqi (y := sm_bI (if n + k < 32 then bt (S a) (n + k) else bt (S a) 31)) (by rw [if_pos hkn]; simp [sm_bI, h111]) ?_
          refine sm_zast (f' := sm_fill (sm_fw G) (fun i => if n + i < 32 then bt (S a) (n + i) else bt (S a) 31) 0 (k + 1)) (ws' := (sm_wM cZ m0 m1 m2 m3 m4 m5 m6 err (sm_fb V) (sm_fb S) (sm_fo M) (sm_fl M) (sm_fill (sm_fw O) (fun i => if n + i < 32 then bt (V a) (n + i) else bt (V a) 31) 0 (k + 1)) (sm_fill (sm_fw G) (fun i => if n + i < 32 then bt (S a) (n + i) else bt (S a) 31) 0 (k + 1)))) hx hb hK hP hD hS 6 0 rfl rfl (vp_in_nI (n := k) (by omega) (by decide)) dX1_shift_119 (by rw [nI_clamp (by omega)]; exact sm_fillS0 (sm_fw G) (fun i => if n + i < 32 then bt (S a) (n + i) else bt (S a) 31) k) rfl (fun H locs hP hD hS => ?_)
          refine lv_iinc (k := 7) (v := nI (k + 1)) (lv' := [(5, .int (nI (k + 1))), (7, .int 1), (6, .int (nI (n + k))), (0, .ref m0), (1, .int 7), (2, .int (nI a)), (3, .int (nI b)), (4, .int (nI n))]) hx hb dX1_shift_120 hl rfl (sm_inc k) (by decide) rfl (fun ls hl => ?_)
          refine lv_goto (tgt := 3) hx hb dX1_shift_123 rfl ?_
          exact ih _ _ _ (lv_sub hl [3, 4, 5, 6, 7, 0] rfl) (sm_cP (rfl) hP) (sm_cD (rfl) hD) hS
    · refine lv_iload hx hb dX1_shift_23 (lv_at hl 5 rfl) ?_
      refine lv_iload hx hb dX1_shift_25 (lv_at hl 4 rfl) ?_
      refine lv_iadd hx hb dX1_shift_27 ?_
      refine sm_eqi (y := nI (k + n)) (nI_add k n) ?_
      refine sm_eqi (y := nI (n + k)) (by rw [Nat.add_comm]) ?_
      refine lv_istore (lv' := [(6, .int (nI (n + k))), (0, .ref m0), (1, .int 7), (2, .int (nI a)), (3, .int (nI b)), (4, .int (nI n)), (5, .int (nI k))]) hx hb dX1_shift_28 hl (by decide) rfl (fun ls hl => ?_)
      refine lv_iload_n hx hb dX1_shift_30 rfl (lv_at hl 2 rfl) ?_
      refine lv_bipush (v := 7) hx hb dX1_shift_31 (by decide) ?_
      refine lv_icmp_ne (tgt := 47) hx hb dX1_shift_33 rfl (fun z => absurd (by decide) z) (fun _ => ?_)
      refine lv_iload hx hb dX1_shift_36 (lv_at hl 0 rfl) ?_
      refine lv_bipush (v := 31) hx hb dX1_shift_38 (by decide) ?_
      refine lv_icmp_le (tgt := 47) hx hb dX1_shift_40 rfl (fun z => absurd z (nI_ge (a := 31) (by omega) (by omega))) (fun _ => ?_)
      refine lv_bipush (v := 31) hx hb dX1_shift_43 (by decide) ?_
      refine lv_istore (lv' := [(6, .int 31), (0, .ref m0), (1, .int 7), (2, .int (nI a)), (3, .int (nI b)), (4, .int (nI n)), (5, .int (nI k))]) hx hb dX1_shift_45 hl (by decide) rfl (fun ls hl => ?_)
      refine lv_iload hx hb dX1_shift_47 (lv_at hl 0 rfl) ?_
      refine lv_if_lt (tgt := 63) hx hb dX1_shift_49 rfl (fun z => absurd z (by decide)) (fun _ => ?_)
      refine lv_iload hx hb dX1_shift_52 (lv_at hl 0 rfl) ?_
      refine lv_bipush (v := 32) hx hb dX1_shift_54 (by decide) ?_
      refine lv_icmp_ge (tgt := 63) hx hb dX1_shift_56 rfl (fun z => absurd z (by decide)) (fun _ => ?_)
      refine lv_iconst (v := 1) hx hb dX1_shift_59 (by decide) ?_
      refine lv_goto (tgt := 64) hx hb dX1_shift_60 rfl ?_
      refine lv_istore (lv' := [(7, .int 1), (6, .int 31), (0, .ref m0), (1, .int 7), (2, .int (nI a)), (3, .int (nI b)), (4, .int (nI n)), (5, .int (nI k))]) hx hb dX1_shift_64 hl (by decide) rfl (fun ls hl => ?_)
      refine lv_aload_n hx hb dX1_shift_66 rfl (lv_at hl 2 rfl) ?_
      refine va_get (D := D) (ci := 1) (v := .ref m5) (C := RX1) (T := TX1) (N := 7) hx hb hts inX1 hown hK hP 0 rfl rfl 5 (by decide) (hw 237 rfl) (fun _ h9 => h9) rfl dX1_shift_67 ?_
      refine lv_iload hx hb dX1_shift_70 (lv_at hl 7 rfl) ?_
      refine lv_iload hx hb dX1_shift_72 (lv_at hl 0 rfl) ?_
      refine lv_if_eq (tgt := 91) hx hb dX1_shift_74 rfl (fun z => absurd z (by decide)) (fun _ => ?_)
      refine lv_aload_n hx hb dX1_shift_77 rfl (lv_at hl 2 rfl) ?_
      refine lv_iload_n hx hb dX1_shift_78 rfl (lv_at hl 4 rfl) ?_
      refine lv_iload hx hb dX1_shift_79 (lv_at hl 1 rfl) ?_
      refine sm_callV (C := RX1) (As := [.int (nI a), .int (nI 31)]) (rest := [.int (nI k), .ref m5]) (wr := []) (wn := (sm_wM cZ m0 m1 m2 m3 m4 m5 m6 err (sm_fb V) (sm_fb S) (sm_fo M) (sm_fl M) (sm_fill (sm_fw O) (fun i => if n + i < 32 then bt (V a) (n + i) else bt (V a) 31) 0 k) (sm_fill (sm_fw G) (fun i => if n + i < 32 then bt (S a) (n + i) else bt (S a) 31) 0 k))) (st1 := [.int (sm_bI (bt (V a) 31)), .int (nI k), .ref m5]) ⟨hx, hb, hml, hown, hts⟩ (c_is l D cZ m0 m1 m2 m3 m4 m5 m6 err (sm_fb S) (sm_fo M) (sm_fl M) (sm_fill (sm_fw O) (fun i => if n + i < 32 then bt (V a) (n + i) else bt (V a) 31) 0 k) (sm_fill (sm_fw G) (fun i => if n + i < 32 then bt (S a) (n + i) else bt (S a) 31) 0 k) V a 31 (by omega) (by omega)) (cwV 2 hts (sm_gV (i1 := 291) (i2 := 292) (i3 := 355) (i4 := 2) (i5 := 293) rfl rfl rfl rfl rfl) rfl rfl rfl (by decide +kernel) ⟨Nat.le_of_ble_eq_true rfl, Nat.le_of_ble_eq_true rfl⟩) hK [0] rfl hP hD hS hA 0 rfl rfl [0, 1, 2, 3, 4, 5, 6] [] rfl rfl (by decide) (by decide) (by decide) rfl hl.1 rfl (Nat.le_of_ble_eq_true rfl) dX1_shift_81 ⟨Nat.le_of_ble_eq_true rfl, Nat.le_of_ble_eq_true rfl⟩ rfl rfl (fun H locs hP hD hS => ?_)
      refine sm_ifb_eq (tgt := 91) hx hb dX1_shift_84 rfl (fun h84 => ?_) (fun h84 => ?_)
      · refine lv_iconst (v := 0) hx hb dX1_shift_91 (by decide) ?_
        refine sm_eqi (y := sm_bI (if n + k < 32 then bt (V a) (n + k) else bt (V a) 31)) (by rw [if_neg (Nat.not_lt.mpr hkn)]; simp [sm_bI, h84]) ?_
        refine sm_zast (f' := sm_fill (sm_fw O) (fun i => if n + i < 32 then bt (V a) (n + i) else bt (V a) 31) 0 (k + 1)) (ws' := (sm_wM cZ m0 m1 m2 m3 m4 m5 m6 err (sm_fb V) (sm_fb S) (sm_fo M) (sm_fl M) (sm_fill (sm_fw O) (fun i => if n + i < 32 then bt (V a) (n + i) else bt (V a) 31) 0 (k + 1)) (sm_fill (sm_fw G) (fun i => if n + i < 32 then bt (S a) (n + i) else bt (S a) 31) 0 k))) hx hb hK hP hD hS 5 0 rfl rfl (vp_in_nI (n := k) (by omega) (by decide)) dX1_shift_92 (by rw [nI_clamp (by omega)]; exact sm_fillS0 (sm_fw O) (fun i => if n + i < 32 then bt (V a) (n + i) else bt (V a) 31) k) rfl (fun H locs hP hD hS => ?_)
        refine lv_aload_n hx hb dX1_shift_93 rfl (lv_at hl 2 rfl) ?_
        refine va_get (D := D) (ci := 1) (v := .ref m6) (C := RX1) (T := TX1) (N := 7) hx hb hts inX1 hown hK hP 0 rfl rfl 6 (by decide) (hw 238 rfl) (fun _ h9 => h9) rfl dX1_shift_94 ?_
        refine lv_iload hx hb dX1_shift_97 (lv_at hl 7 rfl) ?_
        refine lv_iload hx hb dX1_shift_99 (lv_at hl 0 rfl) ?_
        refine lv_if_eq (tgt := 118) hx hb dX1_shift_101 rfl (fun z => absurd z (by decide)) (fun _ => ?_)
        refine lv_aload_n hx hb dX1_shift_104 rfl (lv_at hl 2 rfl) ?_
        refine lv_iload_n hx hb dX1_shift_105 rfl (lv_at hl 4 rfl) ?_
        refine lv_iload hx hb dX1_shift_106 (lv_at hl 1 rfl) ?_
        refine sm_callV (C := RX1) (As := [.int (nI a), .int (nI 31)]) (rest := [.int (nI k), .ref m6]) (wr := []) (wn := (sm_wM cZ m0 m1 m2 m3 m4 m5 m6 err (sm_fb V) (sm_fb S) (sm_fo M) (sm_fl M) (sm_fill (sm_fw O) (fun i => if n + i < 32 then bt (V a) (n + i) else bt (V a) 31) 0 (k + 1)) (sm_fill (sm_fw G) (fun i => if n + i < 32 then bt (S a) (n + i) else bt (S a) 31) 0 k))) (st1 := [.int (sm_bI (bt (S a) 31)), .int (nI k), .ref m6]) ⟨hx, hb, hml, hown, hts⟩ (c_un l D cZ m0 m1 m2 m3 m4 m5 m6 err (sm_fb V) (sm_fo M) (sm_fl M) (sm_fill (sm_fw O) (fun i => if n + i < 32 then bt (V a) (n + i) else bt (V a) 31) 0 (k + 1)) (sm_fill (sm_fw G) (fun i => if n + i < 32 then bt (S a) (n + i) else bt (S a) 31) 0 k) S a 31 (by omega) (by omega)) (cwV 2 hts (sm_gV (i1 := 285) (i2 := 286) (i3 := 353) (i4 := 2) (i5 := 287) rfl rfl rfl rfl rfl) rfl rfl rfl (by decide +kernel) ⟨Nat.le_of_ble_eq_true rfl, Nat.le_of_ble_eq_true rfl⟩) hK [0] rfl hP hD hS hA 0 rfl rfl [0, 1, 2, 3, 4, 5, 6] [] rfl rfl (by decide) (by decide) (by decide) rfl hl.1 rfl (Nat.le_of_ble_eq_true rfl) dX1_shift_108 ⟨Nat.le_of_ble_eq_true rfl, Nat.le_of_ble_eq_true rfl⟩ rfl rfl (fun H locs hP hD hS => ?_)
        refine sm_ifb_eq (tgt := 118) hx hb dX1_shift_111 rfl (fun h111 => ?_) (fun h111 => ?_)
        · refine lv_iconst (v := 0) hx hb dX1_shift_118 (by decide) ?_
          refine sm_eqi (y := sm_bI (if n + k < 32 then bt (S a) (n + k) else bt (S a) 31)) (by rw [if_neg (Nat.not_lt.mpr hkn)]; simp [sm_bI, h111]) ?_
          refine sm_zast (f' := sm_fill (sm_fw G) (fun i => if n + i < 32 then bt (S a) (n + i) else bt (S a) 31) 0 (k + 1)) (ws' := (sm_wM cZ m0 m1 m2 m3 m4 m5 m6 err (sm_fb V) (sm_fb S) (sm_fo M) (sm_fl M) (sm_fill (sm_fw O) (fun i => if n + i < 32 then bt (V a) (n + i) else bt (V a) 31) 0 (k + 1)) (sm_fill (sm_fw G) (fun i => if n + i < 32 then bt (S a) (n + i) else bt (S a) 31) 0 (k + 1)))) hx hb hK hP hD hS 6 0 rfl rfl (vp_in_nI (n := k) (by omega) (by decide)) dX1_shift_119 (by rw [nI_clamp (by omega)]; exact sm_fillS0 (sm_fw G) (fun i => if n + i < 32 then bt (S a) (n + i) else bt (S a) 31) k) rfl (fun H locs hP hD hS => ?_)
          refine lv_iinc (k := 7) (v := nI (k + 1)) (lv' := [(5, .int (nI (k + 1))), (7, .int 1), (6, .int 31), (0, .ref m0), (1, .int 7), (2, .int (nI a)), (3, .int (nI b)), (4, .int (nI n))]) hx hb dX1_shift_120 hl rfl (sm_inc k) (by decide) rfl (fun ls hl => ?_)
          refine lv_goto (tgt := 3) hx hb dX1_shift_123 rfl ?_
          exact ih _ _ _ (lv_sub hl [3, 4, 5, 6, 7, 0] rfl) (sm_cP (rfl) hP) (sm_cD (rfl) hD) hS
        · refine lv_iconst (v := 1) hx hb dX1_shift_114 (by decide) ?_
          refine lv_goto (tgt := 119) hx hb dX1_shift_115 rfl ?_
          refine sm_eqi (y := sm_bI (if n + k < 32 then bt (S a) (n + k) else bt (S a) 31)) (by rw [if_neg (Nat.not_lt.mpr hkn)]; simp [sm_bI, h111]) ?_
          refine sm_zast (f' := sm_fill (sm_fw G) (fun i => if n + i < 32 then bt (S a) (n + i) else bt (S a) 31) 0 (k + 1)) (ws' := (sm_wM cZ m0 m1 m2 m3 m4 m5 m6 err (sm_fb V) (sm_fb S) (sm_fo M) (sm_fl M) (sm_fill (sm_fw O) (fun i => if n + i < 32 then bt (V a) (n + i) else bt (V a) 31) 0 (k + 1)) (sm_fill (sm_fw G) (fun i => if n + i < 32 then bt (S a) (n + i) else bt (S a) 31) 0 (k + 1)))) hx hb hK hP hD hS 6 0 rfl rfl (vp_in_nI (n := k) (by omega) (by decide)) dX1_shift_119 (by rw [nI_clamp (by omega)]; exact sm_fillS0 (sm_fw G) (fun i => if n + i < 32 then bt (S a) (n + i) else bt (S a) 31) k) rfl (fun H locs hP hD hS => ?_)
          refine lv_iinc (k := 7) (v := nI (k + 1)) (lv' := [(5, .int (nI (k + 1))), (7, .int 1), (6, .int 31), (0, .ref m0), (1, .int 7), (2, .int (nI a)), (3, .int (nI b)), (4, .int (nI n))]) hx hb dX1_shift_120 hl rfl (sm_inc k) (by decide) rfl (fun ls hl => ?_)
          refine lv_goto (tgt := 3) hx hb dX1_shift_123 rfl ?_
          exact ih _ _ _ (lv_sub hl [3, 4, 5, 6, 7, 0] rfl) (sm_cP (rfl) hP) (sm_cD (rfl) hD) hS
      · refine lv_iconst (v := 1) hx hb dX1_shift_87 (by decide) ?_
        refine lv_goto (tgt := 92) hx hb dX1_shift_88 rfl ?_
        refine sm_eqi (y := sm_bI (if n + k < 32 then bt (V a) (n + k) else bt (V a) 31)) (by rw [if_neg (Nat.not_lt.mpr hkn)]; simp [sm_bI, h84]) ?_
        refine sm_zast (f' := sm_fill (sm_fw O) (fun i => if n + i < 32 then bt (V a) (n + i) else bt (V a) 31) 0 (k + 1)) (ws' := (sm_wM cZ m0 m1 m2 m3 m4 m5 m6 err (sm_fb V) (sm_fb S) (sm_fo M) (sm_fl M) (sm_fill (sm_fw O) (fun i => if n + i < 32 then bt (V a) (n + i) else bt (V a) 31) 0 (k + 1)) (sm_fill (sm_fw G) (fun i => if n + i < 32 then bt (S a) (n + i) else bt (S a) 31) 0 k))) hx hb hK hP hD hS 5 0 rfl rfl (vp_in_nI (n := k) (by omega) (by decide)) dX1_shift_92 (by rw [nI_clamp (by omega)]; exact sm_fillS0 (sm_fw O) (fun i => if n + i < 32 then bt (V a) (n + i) else bt (V a) 31) k) rfl (fun H locs hP hD hS => ?_)
        refine lv_aload_n hx hb dX1_shift_93 rfl (lv_at hl 2 rfl) ?_
        refine va_get (D := D) (ci := 1) (v := .ref m6) (C := RX1) (T := TX1) (N := 7) hx hb hts inX1 hown hK hP 0 rfl rfl 6 (by decide) (hw 238 rfl) (fun _ h9 => h9) rfl dX1_shift_94 ?_
        refine lv_iload hx hb dX1_shift_97 (lv_at hl 7 rfl) ?_
        refine lv_iload hx hb dX1_shift_99 (lv_at hl 0 rfl) ?_
        refine lv_if_eq (tgt := 118) hx hb dX1_shift_101 rfl (fun z => absurd z (by decide)) (fun _ => ?_)
        refine lv_aload_n hx hb dX1_shift_104 rfl (lv_at hl 2 rfl) ?_
        refine lv_iload_n hx hb dX1_shift_105 rfl (lv_at hl 4 rfl) ?_
        refine lv_iload hx hb dX1_shift_106 (lv_at hl 1 rfl) ?_
        refine sm_callV (C := RX1) (As := [.int (nI a), .int (nI 31)]) (rest := [.int (nI k), .ref m6]) (wr := []) (wn := (sm_wM cZ m0 m1 m2 m3 m4 m5 m6 err (sm_fb V) (sm_fb S) (sm_fo M) (sm_fl M) (sm_fill (sm_fw O) (fun i => if n + i < 32 then bt (V a) (n + i) else bt (V a) 31) 0 (k + 1)) (sm_fill (sm_fw G) (fun i => if n + i < 32 then bt (S a) (n + i) else bt (S a) 31) 0 k))) (st1 := [.int (sm_bI (bt (S a) 31)), .int (nI k), .ref m6]) ⟨hx, hb, hml, hown, hts⟩ (c_un l D cZ m0 m1 m2 m3 m4 m5 m6 err (sm_fb V) (sm_fo M) (sm_fl M) (sm_fill (sm_fw O) (fun i => if n + i < 32 then bt (V a) (n + i) else bt (V a) 31) 0 (k + 1)) (sm_fill (sm_fw G) (fun i => if n + i < 32 then bt (S a) (n + i) else bt (S a) 31) 0 k) S a 31 (by omega) (by omega)) (cwV 2 hts (sm_gV (i1 := 285) (i2 := 286) (i3 := 353) (i4 := 2) (i5 := 287) rfl rfl rfl rfl rfl) rfl rfl rfl (by decide +kernel) ⟨Nat.le_of_ble_eq_true rfl, Nat.le_of_ble_eq_true rfl⟩) hK [0] rfl hP hD hS hA 0 rfl rfl [0, 1, 2, 3, 4, 5, 6] [] rfl rfl (by decide) (by decide) (by decide) rfl hl.1 rfl (Nat.le_of_ble_eq_true rfl) dX1_shift_108 ⟨Nat.le_of_ble_eq_true rfl, Nat.le_of_ble_eq_true rfl⟩ rfl rfl (fun H locs hP hD hS => ?_)
        refine sm_ifb_eq (tgt := 118) hx hb dX1_shift_111 rfl (fun h111 => ?_) (fun h111 => ?_)
        · refine lv_iconst (v := 0) hx hb dX1_shift_118 (by decide) ?_
          refine sm_eqi (y := sm_bI (if n + k < 32 then bt (S a) (n + k) else bt (S a) 31)) (by rw [if_neg (Nat.not_lt.mpr hkn)]; simp [sm_bI, h111]) ?_
          refine sm_zast (f' := sm_fill (sm_fw G) (fun i => if n + i < 32 then bt (S a) (n + i) else bt (S a) 31) 0 (k + 1)) (ws' := (sm_wM cZ m0 m1 m2 m3 m4 m5 m6 err (sm_fb V) (sm_fb S) (sm_fo M) (sm_fl M) (sm_fill (sm_fw O) (fun i => if n + i < 32 then bt (V a) (n + i) else bt (V a) 31) 0 (k + 1)) (sm_fill (sm_fw G) (fun i => if n + i < 32 then bt (S a) (n + i) else bt (S a) 31) 0 (k + 1)))) hx hb hK hP hD hS 6 0 rfl rfl (vp_in_nI (n := k) (by omega) (by decide)) dX1_shift_119 (by rw [nI_clamp (by omega)]; exact sm_fillS0 (sm_fw G) (fun i => if n + i < 32 then bt (S a) (n + i) else bt (S a) 31) k) rfl (fun H locs hP hD hS => ?_)
          refine lv_iinc (k := 7) (v := nI (k + 1)) (lv' := [(5, .int (nI (k + 1))), (7, .int 1), (6, .int 31), (0, .ref m0), (1, .int 7), (2, .int (nI a)), (3, .int (nI b)), (4, .int (nI n))]) hx hb dX1_shift_120 hl rfl (sm_inc k) (by decide) rfl (fun ls hl => ?_)
          refine lv_goto (tgt := 3) hx hb dX1_shift_123 rfl ?_
          exact ih _ _ _ (lv_sub hl [3, 4, 5, 6, 7, 0] rfl) (sm_cP (rfl) hP) (sm_cD (rfl) hD) hS
        · refine lv_iconst (v := 1) hx hb dX1_shift_114 (by decide) ?_
          refine lv_goto (tgt := 119) hx hb dX1_shift_115 rfl ?_
          refine sm_eqi (y := sm_bI (if n + k < 32 then bt (S a) (n + k) else bt (S a) 31)) (by rw [if_neg (Nat.not_lt.mpr hkn)]; simp [sm_bI, h111]) ?_
          refine sm_zast (f' := sm_fill (sm_fw G) (fun i => if n + i < 32 then bt (S a) (n + i) else bt (S a) 31) 0 (k + 1)) (ws' := (sm_wM cZ m0 m1 m2 m3 m4 m5 m6 err (sm_fb V) (sm_fb S) (sm_fo M) (sm_fl M) (sm_fill (sm_fw O) (fun i => if n + i < 32 then bt (V a) (n + i) else bt (V a) 31) 0 (k + 1)) (sm_fill (sm_fw G) (fun i => if n + i < 32 then bt (S a) (n + i) else bt (S a) 31) 0 (k + 1)))) hx hb hK hP hD hS 6 0 rfl rfl (vp_in_nI (n := k) (by omega) (by decide)) dX1_shift_119 (by rw [nI_clamp (by omega)]; exact sm_fillS0 (sm_fw G) (fun i => if n + i < 32 then bt (S a) (n + i) else bt (S a) 31) k) rfl (fun H locs hP hD hS => ?_)
          refine lv_iinc (k := 7) (v := nI (k + 1)) (lv' := [(5, .int (nI (k + 1))), (7, .int 1), (6, .int 31), (0, .ref m0), (1, .int 7), (2, .int (nI a)), (3, .int (nI b)), (4, .int (nI n))]) hx hb dX1_shift_120 hl rfl (sm_inc k) (by decide) rfl (fun ls hl => ?_)
          refine lv_goto (tgt := 3) hx hb dX1_shift_123 rfl ?_
          exact ih _ _ _ (lv_sub hl [3, 4, 5, 6, 7, 0] rfl) (sm_cP (rfl) hP) (sm_cD (rfl) hD) hS
