abbrev lx_T : List Cond := Cond.initialized "ShadowMath" :: smW
abbrev lx_A (s : State) : Nat → Prop := fun q => s.heap.size ≤ q
abbrev lx_l (b x0 m0 o0 i : Nat) : List (Nat × Value) := [(0, .ref b), (1, .ref x0), (2, .ref m0), (3, .ref o0), (4, .int (nI i))]
abbrev lx_w (cI cZ cJ : ClassId) (x0 x1 x2 x3 o0 m0 m1 m2 m3 m4 m5 m6 : Nat) (V S M : Nat → Int32) (U : Nat → Int64) (err O G : Int32) : va_W := (o0, .inl (cJ, 1, .inr (.inl U))) :: ((sm_wX cI x0 x1 x2 x3 V S M) ++ (sm_wM cZ m0 m1 m2 m3 m4 m5 m6 err (sm_fb V) (sm_fb S) (sm_fo M) (sm_fl M) (sm_fw O) (sm_fw G)))
/-- what stands all along the law -/
def lx_F (p : Program) (s : State) (m : MethodId) (c : Code) (b L : Nat) (xs : Nat → Int32) (D : va_G) (cI cZ cJ : ClassId) : Prop :=
  p.tables.exec = Jvm.exec ∧ c.code = cL_law ∧ c.maxLocals = 7 ∧ s.vm.findClass RL = some m.cls ∧ (∀ w ∈ lx_T, w.before #[Value.ref b] s = true) ∧ va_X b L xs s s.heap ∧ b < s.heap.size ∧ sm_Z (lx_A s) s s.heap ∧ va_Nc sm_IO sm_IA s ∧ va_K D vwCl [(cI, .int), (cZ, .boolean), (cJ, .long)] s
theorem lx_cmp {x y : Int64} (h : x = y) : lg_cmp x y = 0 := by
  subst h
  unfold lg_cmp
  rw [if_neg (Int64.lt_irrefl), if_pos rfl]
section LXS
variable {p : Program} {l : Launch} {e : Env} {R : Room} {s : State} {m : MethodId} {args : Array Value} {below : List Frame} {meth : Method} {c : Code} {H : Heap} {locs : List Loc} {cells slots : Nat} {Q : State → Prop}
variable {cc : ByteArray} {pc : Nat} {ls : Array Slot} {rest : List Value} {A : Nat → Prop}
/-- an int of the script -/
theorem lx_sc (hx : p.tables.exec = Jvm.exec) (hb : c.code = cc) {b L : Nat} {xs : Nat → Int32} (hX : va_X b L xs s s.heap) (hbl : b < s.heap.size) (hbA : ¬ A b) (hS : va_S A s.heap H locs) {i k : Nat} {kI : Int} (g0 : ls[0]? = some (.val (.ref b))) (g4 : ls[4]? = some (.val (.int (nI i)))) (hk : Int32.ofInt kI = nI k) (hik : i + k < L) (hL : L < 2 ^ 31)
    (d0 : decode cc pc = .ok (.aload_n 0, 1)) (d1 : decode cc (pc + 1) = .ok (.iload 4, 2)) (d3 : decode cc (pc + 3) = .ok (.iconst kI, 1)) (d4 : decode cc (pc + 4) = .ok (.iadd, 1)) (d5 : decode cc (pc + 5) = .ok (.iaload, 1))
    (kk : W p l e R s m args below meth c H locs cells slots Q (F0 m (pc + 6) ls (.int (xs (i + k)) :: rest))) : W p l e R s m args below meth c H locs cells slots Q (F0 m pc ls rest) := by
  refine lv_aload_n hx hb d0 rfl g0 ?_
  refine lv_iload hx hb d1 g4 ?_
  refine lv_iconst (v := nI k) hx hb d3 hk ?_
  refine lv_iadd hx hb d4 ?_
  refine sm_eqi (nI_add i k) ?_
  refine va_sld hx hb hX hbl hbA hS (vp_in_nI hik hL) d5 ?_
  rw [nI_clamp (by omega)]
  exact kk
end LXS
set_option maxHeartbeats 4000000 in
set_option maxRecDepth 100000 in
theorem lx_set {p : Program} {l : Launch} {e : Env} {s : State} {m : MethodId} {below : List Frame} {meth : Method} {c : Code} {H : Heap} {locs : List Loc} {cells slots : Nat} {Q : State → Prop} {b L : Nat} {xs : Nat → Int32} {D : va_G} {cI cZ cJ : ClassId} {x0 x1 x2 x3 o0 m0 m1 m2 m3 m4 m5 m6 : Nat} {ls : Array Slot} {i : Nat} (hlt : l.stackTraces = false) (F : lx_F p s m c b L xs D cI cZ cJ) (hi : i + 5 ≤ L) (hL : L ≤ 2560) (hcl : cells + 1 ≤ 1041) (hsl : slots + 6 ≤ 13705) (V S M : Nat → Int32) (U : Nat → Int64) (err O G : Int32) (hM : ∀ a, M a = M a &&& 65535) (hl : lv_has ls 7 (lx_l b x0 m0 o0 i)) (hP : va_P D vwCl (lx_w cI cZ cJ x0 x1 x2 x3 o0 m0 m1 m2 m3 m4 m5 m6 V S M U err O G) H) (hD : va_D (lx_A s) (lx_w cI cZ cJ x0 x1 x2 x3 o0 m0 m1 m2 m3 m4 m5 m6 V S M U err O G)) (hS : va_S (lx_A s) s.heap H locs) (K : ∀ (V S M : Nat → Int32) (U : Nat → Int64) (err O G : Int32) (H : Heap) (locs : List Loc) (ls : Array Slot), (∀ a, M a = M a &&& 65535) → lv_has ls 7 (lx_l b x0 m0 o0 i) → va_P D vwCl (lx_w cI cZ cJ x0 x1 x2 x3 o0 m0 m1 m2 m3 m4 m5 m6 V S M U err O G) H → va_D (lx_A s) (lx_w cI cZ cJ x0 x1 x2 x3 o0 m0 m1 m2 m3 m4 m5 m6 V S M U err O G) → va_S (lx_A s) s.heap H locs → W p l e room_1 s m #[Value.ref b] below meth c H locs (cells + 1) (slots + 6) Q (F0 m 665 ls [])) : W p l e room_1 s m #[Value.ref b] below meth c H locs cells slots Q (F0 m 92 ls []) := by
  obtain ⟨hx, hb, hml, hown, hts, hX, hbl, hZ, hN, hK⟩ := F
  have hbA : ¬ lx_A s b := Nat.not_le.mpr hbl
  have hA : ∀ q : Nat, s.heap.size ≤ q → lx_A s q := fun _ h => h
  have g0 : ls[0]? = some (.val (.ref b)) := lv_at hl 0 rfl
  have g4 : ls[4]? = some (.val (.int (nI i))) := lv_at hl 4 rfl
  refine lv_aload_n hx hb dL_law_92 rfl (lv_at hl 1 rfl) ?_
  refine lx_sc (k := 1) hx hb hX hbl hbA hS g0 g4 (by decide +kernel) (by omega) (by omega) dL_law_93 dL_law_94 dL_law_96 dL_law_97 dL_law_98 ?_
  refine lx_sc (k := 2) hx hb hX hbl hbA hS g0 g4 (by decide +kernel) (by omega) (by omega) dL_law_99 dL_law_100 dL_law_102 dL_law_103 dL_law_104 ?_
  refine lx_sc (k := 3) hx hb hX hbl hbA hS g0 g4 (by decide +kernel) (by omega) (by omega) dL_law_105 dL_law_106 dL_law_108 dL_law_109 dL_law_110 ?_
  obtain ⟨k, V', S', M', hM', h1, h2⟩ := s_set l hlt D cI cJ cZ x0 x1 x2 x3 o0 m0 m1 m2 m3 m4 m5 m6 V S M hM (xs (i + 1)) (xs (i + 2)) (xs (i + 3))
  refine sm_callSZ (n := 4) (As := [.ref x0, .int (xs (i + 1)), .int (xs (i + 2)), .int (xs (i + 3))]) (rest := []) (wr := ((o0, .inl (cJ, 1, .inr (.inl U))) :: (sm_wM cZ m0 m1 m2 m3 m4 m5 m6 err (sm_fb V) (sm_fb S) (sm_fo M) (sm_fl M) (sm_fw O) (sm_fw G)))) (wn := ((o0, .inl (cJ, 1, .inr (.inl U))) :: (sm_wM cZ m0 m1 m2 m3 m4 m5 m6 err (sm_fb V) (sm_fb S) (sm_fo M) (sm_fl M) (sm_fw O) (sm_fw G))) ++ (sm_wX cI x0 x1 x2 x3 V' S' M')) (st1 := [.int k]) ⟨hx, hb, hml, hown, hts⟩ h1 (sm_gS (i1 := 39) (i2 := 40) (i4 := 0) (i5 := 41) rfl rfl rfl rfl) rfl (by decide +kernel) ⟨Nat.le_of_ble_eq_true rfl, Nat.le_of_ble_eq_true rfl⟩ hK [0] rfl hZ hN hP hD hS hA [1, 2, 3, 4] [0, 5, 6, 7, 8, 9, 10, 11] rfl rfl (by decide) (by decide) (by decide) rfl hl.1 rfl (Nat.le_of_ble_eq_true rfl) dL_law_111 ⟨hcl, hsl⟩ rfl rfl (fun H locs hP hD hS => ?_)
  refine lv_istore (lv' := (5, .int k) :: lx_l b x0 m0 o0 i) hx hb dL_law_114 hl (by decide) rfl (fun ls hl => ?_)
  have g0 : ls[0]? = some (.val (.ref b)) := lv_at hl 1 rfl
  have g4 : ls[4]? = some (.val (.int (nI i))) := lv_at hl 5 rfl
  refine lv_aload_n hx hb dL_law_116 rfl (lv_at hl 3 rfl) ?_
  refine lx_sc (k := 1) hx hb hX hbl hbA hS g0 g4 (by decide +kernel) (by omega) (by omega) dL_law_117 dL_law_118 dL_law_120 dL_law_121 dL_law_122 ?_
  refine lx_sc (k := 2) hx hb hX hbl hbA hS g0 g4 (by decide +kernel) (by omega) (by omega) dL_law_123 dL_law_124 dL_law_126 dL_law_127 dL_law_128 ?_
  refine lx_sc (k := 3) hx hb hX hbl hbA hS g0 g4 (by decide +kernel) (by omega) (by omega) dL_law_129 dL_law_130 dL_law_132 dL_law_133 dL_law_134 ?_
  obtain ⟨O', G', h3⟩ := h2 err O G
  refine sm_callV (C := RX1) (b := m0) (As := [.int (xs (i + 1)), .int (xs (i + 2)), .int (xs (i + 3))]) (rest := []) (wr := ((o0, .inl (cJ, 1, .inr (.inl U))) :: (sm_wX cI x0 x1 x2 x3 V' S' M'))) (wn := (lx_w cI cZ cJ x0 x1 x2 x3 o0 m0 m1 m2 m3 m4 m5 m6 V' S' M' U k O' G')) (st1 := []) ⟨hx, hb, hml, hown, hts⟩ (h3) (cwV 3 hts (sm_gV (i1 := 259) (i2 := 260) (i3 := 261) (i4 := 2) (i5 := 262) rfl rfl rfl rfl rfl) rfl rfl rfl (by decide +kernel) ⟨Nat.le_of_ble_eq_true rfl, Nat.le_of_ble_eq_true rfl⟩) hK [1] rfl hP hD hS hA 1 rfl rfl [1, 2, 3, 4, 5, 6, 7] [0, 8, 9, 10, 11] rfl rfl (by decide) (by decide) (by decide) rfl hl.1 rfl (Nat.le_of_ble_eq_true rfl) dL_law_135 ⟨hcl, hsl⟩ rfl rfl (fun H locs hP hD hS => ?_)
  refine lv_aload_n hx hb dL_law_138 rfl (lv_at hl 3 rfl) ?_
  refine sm_callV (C := RX1) (b := m0) (As := []) (rest := []) (wr := ((o0, .inl (cJ, 1, .inr (.inl U))) :: (sm_wX cI x0 x1 x2 x3 V' S' M'))) (wn := (lx_w cI cZ cJ x0 x1 x2 x3 o0 m0 m1 m2 m3 m4 m5 m6 V' S' M' U k O' G')) (st1 := [.int k]) ⟨hx, hb, hml, hown, hts⟩ (c_thrown l D cZ m0 m1 m2 m3 m4 m5 m6 k V' S' M' O' G') (cwV 0 hts (sm_gV (i1 := 255) (i2 := 256) (i3 := 257) (i4 := 2) (i5 := 258) rfl rfl rfl rfl rfl) rfl rfl rfl (by decide +kernel) ⟨Nat.le_of_ble_eq_true rfl, Nat.le_of_ble_eq_true rfl⟩) hK [1] rfl hP hD hS hA 5 rfl rfl [5, 6, 7, 8, 9, 10, 11] [0, 1, 2, 3, 4] rfl rfl (by decide) (by decide) (by decide) rfl hl.1 rfl (Nat.le_of_ble_eq_true rfl) dL_law_139 ⟨hcl, hsl⟩ rfl rfl (fun H locs hP hD hS => ?_)
  refine lv_iload hx hb dL_law_142 (lv_at hl 0 rfl) ?_
  refine lv_icmp_eq (tgt := 149) hx hb dL_law_144 rfl (fun _ => ?_) (fun h => absurd rfl h)
  refine lv_goto (tgt := 665) hx hb dL_law_149 rfl ?_
  exact K V' S' M' U k O' G' H locs ls hM' (lv_sub hl [1, 2, 3, 4, 5] rfl) hP hD hS
set_option maxHeartbeats 4000000 in
set_option maxRecDepth 100000 in
theorem lx_op {p : Program} {l : Launch} {e : Env} {s : State} {m : MethodId} {below : List Frame} {meth : Method} {c : Code} {H : Heap} {locs : List Loc} {cells slots : Nat} {Q : State → Prop} {b L : Nat} {xs : Nat → Int32} {D : va_G} {cI cZ cJ : ClassId} {x0 x1 x2 x3 o0 m0 m1 m2 m3 m4 m5 m6 : Nat} {ls : Array Slot} {i : Nat} (hlt : l.stackTraces = false) (F : lx_F p s m c b L xs D cI cZ cJ) (hi : i + 5 ≤ L) (hL : L ≤ 2560) (hcl : cells + 1 ≤ 1041) (hsl : slots + 6 ≤ 13705) (V S M : Nat → Int32) (U : Nat → Int64) (err O G : Int32) (hM : ∀ a, M a = M a &&& 65535) (hl : lv_has ls 7 (lx_l b x0 m0 o0 i)) (hP : va_P D vwCl (lx_w cI cZ cJ x0 x1 x2 x3 o0 m0 m1 m2 m3 m4 m5 m6 V S M U err O G) H) (hD : va_D (lx_A s) (lx_w cI cZ cJ x0 x1 x2 x3 o0 m0 m1 m2 m3 m4 m5 m6 V S M U err O G)) (hS : va_S (lx_A s) s.heap H locs) (K : ∀ (V S M : Nat → Int32) (U : Nat → Int64) (err O G : Int32) (H : Heap) (locs : List Loc) (ls : Array Slot), (∀ a, M a = M a &&& 65535) → lv_has ls 7 (lx_l b x0 m0 o0 i) → va_P D vwCl (lx_w cI cZ cJ x0 x1 x2 x3 o0 m0 m1 m2 m3 m4 m5 m6 V S M U err O G) H → va_D (lx_A s) (lx_w cI cZ cJ x0 x1 x2 x3 o0 m0 m1 m2 m3 m4 m5 m6 V S M U err O G) → va_S (lx_A s) s.heap H locs → W p l e room_1 s m #[Value.ref b] below meth c H locs (cells + 1) (slots + 6) Q (F0 m 665 ls [])) : W p l e room_1 s m #[Value.ref b] below meth c H locs cells slots Q (F0 m 152 ls []) := by
  obtain ⟨hx, hb, hml, hown, hts, hX, hbl, hZ, hN, hK⟩ := F
  have hbA : ¬ lx_A s b := Nat.not_le.mpr hbl
  have hA : ∀ q : Nat, s.heap.size ≤ q → lx_A s q := fun _ h => h
  have g0 : ls[0]? = some (.val (.ref b)) := lv_at hl 0 rfl
  have g4 : ls[4]? = some (.val (.int (nI i))) := lv_at hl 4 rfl
  refine lv_aload_n hx hb dL_law_152 rfl (lv_at hl 1 rfl) ?_
  refine lx_sc (k := 1) hx hb hX hbl hbA hS g0 g4 (by decide +kernel) (by omega) (by omega) dL_law_153 dL_law_154 dL_law_156 dL_law_157 dL_law_158 ?_
  refine lx_sc (k := 2) hx hb hX hbl hbA hS g0 g4 (by decide +kernel) (by omega) (by omega) dL_law_159 dL_law_160 dL_law_162 dL_law_163 dL_law_164 ?_
  refine lx_sc (k := 3) hx hb hX hbl hbA hS g0 g4 (by decide +kernel) (by omega) (by omega) dL_law_165 dL_law_166 dL_law_168 dL_law_169 dL_law_170 ?_
  refine lx_sc (k := 4) hx hb hX hbl hbA hS g0 g4 (by decide +kernel) (by omega) (by omega) dL_law_171 dL_law_172 dL_law_174 dL_law_175 dL_law_176 ?_
  obtain ⟨k, V', S', M', hM', h1, h2⟩ := s_op l hlt D cI cJ cZ x0 x1 x2 x3 o0 m0 m1 m2 m3 m4 m5 m6 V S M hM (xs (i + 1)) (xs (i + 2)) (xs (i + 3)) (xs (i + 4))
  refine sm_callSZ (n := 5) (As := [.ref x0, .int (xs (i + 1)), .int (xs (i + 2)), .int (xs (i + 3)), .int (xs (i + 4))]) (rest := []) (wr := ((o0, .inl (cJ, 1, .inr (.inl U))) :: (sm_wM cZ m0 m1 m2 m3 m4 m5 m6 err (sm_fb V) (sm_fb S) (sm_fo M) (sm_fl M) (sm_fw O) (sm_fw G)))) (wn := ((o0, .inl (cJ, 1, .inr (.inl U))) :: (sm_wM cZ m0 m1 m2 m3 m4 m5 m6 err (sm_fb V) (sm_fb S) (sm_fo M) (sm_fl M) (sm_fw O) (sm_fw G))) ++ (sm_wX cI x0 x1 x2 x3 V' S' M')) (st1 := [.int k]) ⟨hx, hb, hml, hown, hts⟩ h1 (sm_gS (i1 := 101) (i2 := 102) (i4 := 0) (i5 := 103) rfl rfl rfl rfl) rfl (by decide +kernel) ⟨Nat.le_of_ble_eq_true rfl, Nat.le_of_ble_eq_true rfl⟩ hK [0] rfl hZ hN hP hD hS hA [1, 2, 3, 4] [0, 5, 6, 7, 8, 9, 10, 11] rfl rfl (by decide) (by decide) (by decide) rfl hl.1 rfl (Nat.le_of_ble_eq_true rfl) dL_law_177 ⟨hcl, hsl⟩ rfl rfl (fun H locs hP hD hS => ?_)
  refine lv_istore (lv' := (5, .int k) :: lx_l b x0 m0 o0 i) hx hb dL_law_180 hl (by decide) rfl (fun ls hl => ?_)
  have g0 : ls[0]? = some (.val (.ref b)) := lv_at hl 1 rfl
  have g4 : ls[4]? = some (.val (.int (nI i))) := lv_at hl 5 rfl
  refine lv_aload_n hx hb dL_law_182 rfl (lv_at hl 3 rfl) ?_
  refine lx_sc (k := 1) hx hb hX hbl hbA hS g0 g4 (by decide +kernel) (by omega) (by omega) dL_law_183 dL_law_184 dL_law_186 dL_law_187 dL_law_188 ?_
  refine lx_sc (k := 2) hx hb hX hbl hbA hS g0 g4 (by decide +kernel) (by omega) (by omega) dL_law_189 dL_law_190 dL_law_192 dL_law_193 dL_law_194 ?_
  refine lx_sc (k := 3) hx hb hX hbl hbA hS g0 g4 (by decide +kernel) (by omega) (by omega) dL_law_195 dL_law_196 dL_law_198 dL_law_199 dL_law_200 ?_
  refine lx_sc (k := 4) hx hb hX hbl hbA hS g0 g4 (by decide +kernel) (by omega) (by omega) dL_law_201 dL_law_202 dL_law_204 dL_law_205 dL_law_206 ?_
  obtain ⟨O', G', h3⟩ := h2 err O G
  refine sm_callV (C := RX1) (b := m0) (As := [.int (xs (i + 1)), .int (xs (i + 2)), .int (xs (i + 3)), .int (xs (i + 4))]) (rest := []) (wr := ((o0, .inl (cJ, 1, .inr (.inl U))) :: (sm_wX cI x0 x1 x2 x3 V' S' M'))) (wn := (lx_w cI cZ cJ x0 x1 x2 x3 o0 m0 m1 m2 m3 m4 m5 m6 V' S' M' U k O' G')) (st1 := []) ⟨hx, hb, hml, hown, hts⟩ (h3) (cwV 4 hts (sm_gV (i1 := 275) (i2 := 276) (i3 := 277) (i4 := 2) (i5 := 278) rfl rfl rfl rfl rfl) rfl rfl rfl (by decide +kernel) ⟨Nat.le_of_ble_eq_true rfl, Nat.le_of_ble_eq_true rfl⟩) hK [1] rfl hP hD hS hA 1 rfl rfl [1, 2, 3, 4, 5, 6, 7] [0, 8, 9, 10, 11] rfl rfl (by decide) (by decide) (by decide) rfl hl.1 rfl (Nat.le_of_ble_eq_true rfl) dL_law_207 ⟨hcl, hsl⟩ rfl rfl (fun H locs hP hD hS => ?_)
  refine lv_aload_n hx hb dL_law_210 rfl (lv_at hl 3 rfl) ?_
  refine sm_callV (C := RX1) (b := m0) (As := []) (rest := []) (wr := ((o0, .inl (cJ, 1, .inr (.inl U))) :: (sm_wX cI x0 x1 x2 x3 V' S' M'))) (wn := (lx_w cI cZ cJ x0 x1 x2 x3 o0 m0 m1 m2 m3 m4 m5 m6 V' S' M' U k O' G')) (st1 := [.int k]) ⟨hx, hb, hml, hown, hts⟩ (c_thrown l D cZ m0 m1 m2 m3 m4 m5 m6 k V' S' M' O' G') (cwV 0 hts (sm_gV (i1 := 255) (i2 := 256) (i3 := 257) (i4 := 2) (i5 := 258) rfl rfl rfl rfl rfl) rfl rfl rfl (by decide +kernel) ⟨Nat.le_of_ble_eq_true rfl, Nat.le_of_ble_eq_true rfl⟩) hK [1] rfl hP hD hS hA 5 rfl rfl [5, 6, 7, 8, 9, 10, 11] [0, 1, 2, 3, 4] rfl rfl (by decide) (by decide) (by decide) rfl hl.1 rfl (Nat.le_of_ble_eq_true rfl) dL_law_211 ⟨hcl, hsl⟩ rfl rfl (fun H locs hP hD hS => ?_)
  refine lv_iload hx hb dL_law_214 (lv_at hl 0 rfl) ?_
  refine lv_icmp_eq (tgt := 221) hx hb dL_law_216 rfl (fun _ => ?_) (fun h => absurd rfl h)
  refine lv_goto (tgt := 665) hx hb dL_law_221 rfl ?_
  exact K V' S' M' U k O' G' H locs ls hM' (lv_sub hl [1, 2, 3, 4, 5] rfl) hP hD hS
set_option maxHeartbeats 4000000 in
set_option maxRecDepth 100000 in
theorem lx_store {p : Program} {l : Launch} {e : Env} {s : State} {m : MethodId} {below : List Frame} {meth : Method} {c : Code} {H : Heap} {locs : List Loc} {cells slots : Nat} {Q : State → Prop} {b L : Nat} {xs : Nat → Int32} {D : va_G} {cI cZ cJ : ClassId} {x0 x1 x2 x3 o0 m0 m1 m2 m3 m4 m5 m6 : Nat} {ls : Array Slot} {i : Nat} (hlt : l.stackTraces = false) (F : lx_F p s m c b L xs D cI cZ cJ) (hi : i + 5 ≤ L) (hL : L ≤ 2560) (hcl : cells + 1 ≤ 1041) (hsl : slots + 6 ≤ 13705) (V S M : Nat → Int32) (U : Nat → Int64) (err O G : Int32) (hM : ∀ a, M a = M a &&& 65535) (hl : lv_has ls 7 (lx_l b x0 m0 o0 i)) (hP : va_P D vwCl (lx_w cI cZ cJ x0 x1 x2 x3 o0 m0 m1 m2 m3 m4 m5 m6 V S M U err O G) H) (hD : va_D (lx_A s) (lx_w cI cZ cJ x0 x1 x2 x3 o0 m0 m1 m2 m3 m4 m5 m6 V S M U err O G)) (hS : va_S (lx_A s) s.heap H locs) (K : ∀ (V S M : Nat → Int32) (U : Nat → Int64) (err O G : Int32) (H : Heap) (locs : List Loc) (ls : Array Slot), (∀ a, M a = M a &&& 65535) → lv_has ls 7 (lx_l b x0 m0 o0 i) → va_P D vwCl (lx_w cI cZ cJ x0 x1 x2 x3 o0 m0 m1 m2 m3 m4 m5 m6 V S M U err O G) H → va_D (lx_A s) (lx_w cI cZ cJ x0 x1 x2 x3 o0 m0 m1 m2 m3 m4 m5 m6 V S M U err O G) → va_S (lx_A s) s.heap H locs → W p l e room_1 s m #[Value.ref b] below meth c H locs (cells + 1) (slots + 6) Q (F0 m 665 ls [])) : W p l e room_1 s m #[Value.ref b] below meth c H locs cells slots Q (F0 m 224 ls []) := by
  obtain ⟨hx, hb, hml, hown, hts, hX, hbl, hZ, hN, hK⟩ := F
  have hbA : ¬ lx_A s b := Nat.not_le.mpr hbl
  have hA : ∀ q : Nat, s.heap.size ≤ q → lx_A s q := fun _ h => h
  have g0 : ls[0]? = some (.val (.ref b)) := lv_at hl 0 rfl
  have g4 : ls[4]? = some (.val (.int (nI i))) := lv_at hl 4 rfl
  refine lv_aload_n hx hb dL_law_224 rfl (lv_at hl 1 rfl) ?_
  refine lx_sc (k := 1) hx hb hX hbl hbA hS g0 g4 (by decide +kernel) (by omega) (by omega) dL_law_225 dL_law_226 dL_law_228 dL_law_229 dL_law_230 ?_
  refine lx_sc (k := 2) hx hb hX hbl hbA hS g0 g4 (by decide +kernel) (by omega) (by omega) dL_law_231 dL_law_232 dL_law_234 dL_law_235 dL_law_236 ?_
  refine lx_sc (k := 3) hx hb hX hbl hbA hS g0 g4 (by decide +kernel) (by omega) (by omega) dL_law_237 dL_law_238 dL_law_240 dL_law_241 dL_law_242 ?_
  obtain ⟨k, V', S', M', hM', h1, h2⟩ := s_store l hlt D cI cJ cZ x0 x1 x2 x3 o0 m0 m1 m2 m3 m4 m5 m6 V S M hM (xs (i + 1)) (xs (i + 2)) (xs (i + 3))
  refine sm_callSZ (n := 4) (As := [.ref x0, .int (xs (i + 1)), .int (xs (i + 2)), .int (xs (i + 3))]) (rest := []) (wr := ((o0, .inl (cJ, 1, .inr (.inl U))) :: (sm_wM cZ m0 m1 m2 m3 m4 m5 m6 err (sm_fb V) (sm_fb S) (sm_fo M) (sm_fl M) (sm_fw O) (sm_fw G)))) (wn := ((o0, .inl (cJ, 1, .inr (.inl U))) :: (sm_wM cZ m0 m1 m2 m3 m4 m5 m6 err (sm_fb V) (sm_fb S) (sm_fo M) (sm_fl M) (sm_fw O) (sm_fw G))) ++ (sm_wX cI x0 x1 x2 x3 V' S' M')) (st1 := [.int k]) ⟨hx, hb, hml, hown, hts⟩ h1 (sm_gS (i1 := 171) (i2 := 172) (i4 := 0) (i5 := 173) rfl rfl rfl rfl) rfl (by decide +kernel) ⟨Nat.le_of_ble_eq_true rfl, Nat.le_of_ble_eq_true rfl⟩ hK [0] rfl hZ hN hP hD hS hA [1, 2, 3, 4] [0, 5, 6, 7, 8, 9, 10, 11] rfl rfl (by decide) (by decide) (by decide) rfl hl.1 rfl (Nat.le_of_ble_eq_true rfl) dL_law_243 ⟨hcl, hsl⟩ rfl rfl (fun H locs hP hD hS => ?_)
  refine lv_istore (lv' := (5, .int k) :: lx_l b x0 m0 o0 i) hx hb dL_law_246 hl (by decide) rfl (fun ls hl => ?_)
  have g0 : ls[0]? = some (.val (.ref b)) := lv_at hl 1 rfl
  have g4 : ls[4]? = some (.val (.int (nI i))) := lv_at hl 5 rfl
  refine lv_aload_n hx hb dL_law_248 rfl (lv_at hl 3 rfl) ?_
  refine lx_sc (k := 1) hx hb hX hbl hbA hS g0 g4 (by decide +kernel) (by omega) (by omega) dL_law_249 dL_law_250 dL_law_252 dL_law_253 dL_law_254 ?_
  refine lx_sc (k := 2) hx hb hX hbl hbA hS g0 g4 (by decide +kernel) (by omega) (by omega) dL_law_255 dL_law_256 dL_law_258 dL_law_259 dL_law_260 ?_
  refine lx_sc (k := 3) hx hb hX hbl hbA hS g0 g4 (by decide +kernel) (by omega) (by omega) dL_law_261 dL_law_262 dL_law_264 dL_law_265 dL_law_266 ?_
  obtain ⟨O', G', h3⟩ := h2 err O G
  refine sm_callV (C := RX1) (b := m0) (As := [.int (xs (i + 1)), .int (xs (i + 2)), .int (xs (i + 3))]) (rest := []) (wr := ((o0, .inl (cJ, 1, .inr (.inl U))) :: (sm_wX cI x0 x1 x2 x3 V' S' M'))) (wn := (lx_w cI cZ cJ x0 x1 x2 x3 o0 m0 m1 m2 m3 m4 m5 m6 V' S' M' U k O' G')) (st1 := []) ⟨hx, hb, hml, hown, hts⟩ (h3) (cwV 3 hts (sm_gV (i1 := 307) (i2 := 308) (i3 := 309) (i4 := 2) (i5 := 310) rfl rfl rfl rfl rfl) rfl rfl rfl (by decide +kernel) ⟨Nat.le_of_ble_eq_true rfl, Nat.le_of_ble_eq_true rfl⟩) hK [1] rfl hP hD hS hA 1 rfl rfl [1, 2, 3, 4, 5, 6, 7] [0, 8, 9, 10, 11] rfl rfl (by decide) (by decide) (by decide) rfl hl.1 rfl (Nat.le_of_ble_eq_true rfl) dL_law_267 ⟨hcl, hsl⟩ rfl rfl (fun H locs hP hD hS => ?_)
  refine lv_aload_n hx hb dL_law_270 rfl (lv_at hl 3 rfl) ?_
  refine sm_callV (C := RX1) (b := m0) (As := []) (rest := []) (wr := ((o0, .inl (cJ, 1, .inr (.inl U))) :: (sm_wX cI x0 x1 x2 x3 V' S' M'))) (wn := (lx_w cI cZ cJ x0 x1 x2 x3 o0 m0 m1 m2 m3 m4 m5 m6 V' S' M' U k O' G')) (st1 := [.int k]) ⟨hx, hb, hml, hown, hts⟩ (c_thrown l D cZ m0 m1 m2 m3 m4 m5 m6 k V' S' M' O' G') (cwV 0 hts (sm_gV (i1 := 255) (i2 := 256) (i3 := 257) (i4 := 2) (i5 := 258) rfl rfl rfl rfl rfl) rfl rfl rfl (by decide +kernel) ⟨Nat.le_of_ble_eq_true rfl, Nat.le_of_ble_eq_true rfl⟩) hK [1] rfl hP hD hS hA 5 rfl rfl [5, 6, 7, 8, 9, 10, 11] [0, 1, 2, 3, 4] rfl rfl (by decide) (by decide) (by decide) rfl hl.1 rfl (Nat.le_of_ble_eq_true rfl) dL_law_271 ⟨hcl, hsl⟩ rfl rfl (fun H locs hP hD hS => ?_)
  refine lv_iload hx hb dL_law_274 (lv_at hl 0 rfl) ?_
  refine lv_icmp_eq (tgt := 281) hx hb dL_law_276 rfl (fun _ => ?_) (fun h => absurd rfl h)
  refine lv_goto (tgt := 665) hx hb dL_law_281 rfl ?_
  exact K V' S' M' U k O' G' H locs ls hM' (lv_sub hl [1, 2, 3, 4, 5] rfl) hP hD hS
set_option maxHeartbeats 4000000 in
set_option maxRecDepth 100000 in
theorem lx_load {p : Program} {l : Launch} {e : Env} {s : State} {m : MethodId} {below : List Frame} {meth : Method} {c : Code} {H : Heap} {locs : List Loc} {cells slots : Nat} {Q : State → Prop} {b L : Nat} {xs : Nat → Int32} {D : va_G} {cI cZ cJ : ClassId} {x0 x1 x2 x3 o0 m0 m1 m2 m3 m4 m5 m6 : Nat} {ls : Array Slot} {i : Nat} (hlt : l.stackTraces = false) (F : lx_F p s m c b L xs D cI cZ cJ) (hi : i + 5 ≤ L) (hL : L ≤ 2560) (hcl : cells + 1 ≤ 1041) (hsl : slots + 6 ≤ 13705) (V S M : Nat → Int32) (U : Nat → Int64) (err O G : Int32) (hM : ∀ a, M a = M a &&& 65535) (hl : lv_has ls 7 (lx_l b x0 m0 o0 i)) (hP : va_P D vwCl (lx_w cI cZ cJ x0 x1 x2 x3 o0 m0 m1 m2 m3 m4 m5 m6 V S M U err O G) H) (hD : va_D (lx_A s) (lx_w cI cZ cJ x0 x1 x2 x3 o0 m0 m1 m2 m3 m4 m5 m6 V S M U err O G)) (hS : va_S (lx_A s) s.heap H locs) (K : ∀ (V S M : Nat → Int32) (U : Nat → Int64) (err O G : Int32) (H : Heap) (locs : List Loc) (ls : Array Slot), (∀ a, M a = M a &&& 65535) → lv_has ls 7 (lx_l b x0 m0 o0 i) → va_P D vwCl (lx_w cI cZ cJ x0 x1 x2 x3 o0 m0 m1 m2 m3 m4 m5 m6 V S M U err O G) H → va_D (lx_A s) (lx_w cI cZ cJ x0 x1 x2 x3 o0 m0 m1 m2 m3 m4 m5 m6 V S M U err O G) → va_S (lx_A s) s.heap H locs → W p l e room_1 s m #[Value.ref b] below meth c H locs (cells + 1) (slots + 6) Q (F0 m 665 ls [])) : W p l e room_1 s m #[Value.ref b] below meth c H locs cells slots Q (F0 m 284 ls []) := by
  obtain ⟨hx, hb, hml, hown, hts, hX, hbl, hZ, hN, hK⟩ := F
  have hbA : ¬ lx_A s b := Nat.not_le.mpr hbl
  have hA : ∀ q : Nat, s.heap.size ≤ q → lx_A s q := fun _ h => h
  have g0 : ls[0]? = some (.val (.ref b)) := lv_at hl 0 rfl
  have g4 : ls[4]? = some (.val (.int (nI i))) := lv_at hl 4 rfl
  by_cases hz : xs (i + 4) = 0
  · refine lv_aload_n hx hb dL_law_284 rfl (lv_at hl 1 rfl) ?_
    refine lx_sc (k := 1) hx hb hX hbl hbA hS g0 g4 (by decide +kernel) (by omega) (by omega) dL_law_285 dL_law_286 dL_law_288 dL_law_289 dL_law_290 ?_
    refine lx_sc (k := 2) hx hb hX hbl hbA hS g0 g4 (by decide +kernel) (by omega) (by omega) dL_law_291 dL_law_292 dL_law_294 dL_law_295 dL_law_296 ?_
    refine lx_sc (k := 3) hx hb hX hbl hbA hS g0 g4 (by decide +kernel) (by omega) (by omega) dL_law_297 dL_law_298 dL_law_300 dL_law_301 dL_law_302 ?_
    refine lx_sc (k := 4) hx hb hX hbl hbA hS g0 g4 (by decide +kernel) (by omega) (by omega) dL_law_303 dL_law_304 dL_law_306 dL_law_307 dL_law_308 ?_
    refine lv_if_eq (tgt := 316) hx hb dL_law_309 rfl (fun _ => ?_) (fun h => absurd hz h)
    refine lv_iconst (v := sm_bI false) hx hb dL_law_316 (by decide) ?_
    obtain ⟨k, V', S', M', hM', h1, h2⟩ := s_load l hlt D cI cJ cZ x0 x1 x2 x3 o0 m0 m1 m2 m3 m4 m5 m6 V S M hM (xs (i + 1)) (xs (i + 2)) (xs (i + 3)) false
    refine sm_callSZ (n := 5) (As := [.ref x0, .int (xs (i + 1)), .int (xs (i + 2)), .int (xs (i + 3)), .int (sm_bI false)]) (rest := []) (wr := ((o0, .inl (cJ, 1, .inr (.inl U))) :: (sm_wM cZ m0 m1 m2 m3 m4 m5 m6 err (sm_fb V) (sm_fb S) (sm_fo M) (sm_fl M) (sm_fw O) (sm_fw G)))) (wn := ((o0, .inl (cJ, 1, .inr (.inl U))) :: (sm_wM cZ m0 m1 m2 m3 m4 m5 m6 err (sm_fb V) (sm_fb S) (sm_fo M) (sm_fl M) (sm_fw O) (sm_fw G))) ++ (sm_wX cI x0 x1 x2 x3 V' S' M')) (st1 := [.int k]) ⟨hx, hb, hml, hown, hts⟩ h1 (sm_gS (i1 := 181) (i2 := 182) (i4 := 0) (i5 := 183) rfl rfl rfl rfl) rfl (by decide +kernel) ⟨Nat.le_of_ble_eq_true rfl, Nat.le_of_ble_eq_true rfl⟩ hK [0] rfl hZ hN hP hD hS hA [1, 2, 3, 4] [0, 5, 6, 7, 8, 9, 10, 11] rfl rfl (by decide) (by decide) (by decide) rfl hl.1 rfl (Nat.le_of_ble_eq_true rfl) dL_law_317 ⟨hcl, hsl⟩ rfl rfl (fun H locs hP hD hS => ?_)
    refine lv_istore (lv' := (5, .int k) :: lx_l b x0 m0 o0 i) hx hb dL_law_320 hl (by decide) rfl (fun ls hl => ?_)
    have g0 : ls[0]? = some (.val (.ref b)) := lv_at hl 1 rfl
    have g4 : ls[4]? = some (.val (.int (nI i))) := lv_at hl 5 rfl
    refine lv_aload_n hx hb dL_law_322 rfl (lv_at hl 3 rfl) ?_
    refine lx_sc (k := 1) hx hb hX hbl hbA hS g0 g4 (by decide +kernel) (by omega) (by omega) dL_law_323 dL_law_324 dL_law_326 dL_law_327 dL_law_328 ?_
    refine lx_sc (k := 2) hx hb hX hbl hbA hS g0 g4 (by decide +kernel) (by omega) (by omega) dL_law_329 dL_law_330 dL_law_332 dL_law_333 dL_law_334 ?_
    refine lx_sc (k := 3) hx hb hX hbl hbA hS g0 g4 (by decide +kernel) (by omega) (by omega) dL_law_335 dL_law_336 dL_law_338 dL_law_339 dL_law_340 ?_
    refine lx_sc (k := 4) hx hb hX hbl hbA hS g0 g4 (by decide +kernel) (by omega) (by omega) dL_law_341 dL_law_342 dL_law_344 dL_law_345 dL_law_346 ?_
    refine lv_if_eq (tgt := 354) hx hb dL_law_347 rfl (fun _ => ?_) (fun h => absurd hz h)
    refine lv_iconst (v := sm_bI false) hx hb dL_law_354 (by decide) ?_
    obtain ⟨O', G', h3⟩ := h2 err O G
    refine sm_callV (C := RX1) (b := m0) (As := [.int (xs (i + 1)), .int (xs (i + 2)), .int (xs (i + 3)), .int (sm_bI false)]) (rest := []) (wr := ((o0, .inl (cJ, 1, .inr (.inl U))) :: (sm_wX cI x0 x1 x2 x3 V' S' M'))) (wn := (lx_w cI cZ cJ x0 x1 x2 x3 o0 m0 m1 m2 m3 m4 m5 m6 V' S' M' U k O' G')) (st1 := []) ⟨hx, hb, hml, hown, hts⟩ (h3) (cwV 4 hts (sm_gV (i1 := 314) (i2 := 315) (i3 := 316) (i4 := 2) (i5 := 317) rfl rfl rfl rfl rfl) rfl rfl rfl (by decide +kernel) ⟨Nat.le_of_ble_eq_true rfl, Nat.le_of_ble_eq_true rfl⟩) hK [1] rfl hP hD hS hA 1 rfl rfl [1, 2, 3, 4, 5, 6, 7] [0, 8, 9, 10, 11] rfl rfl (by decide) (by decide) (by decide) rfl hl.1 rfl (Nat.le_of_ble_eq_true rfl) dL_law_355 ⟨hcl, hsl⟩ rfl rfl (fun H locs hP hD hS => ?_)
    refine lv_aload_n hx hb dL_law_358 rfl (lv_at hl 3 rfl) ?_
    refine sm_callV (C := RX1) (b := m0) (As := []) (rest := []) (wr := ((o0, .inl (cJ, 1, .inr (.inl U))) :: (sm_wX cI x0 x1 x2 x3 V' S' M'))) (wn := (lx_w cI cZ cJ x0 x1 x2 x3 o0 m0 m1 m2 m3 m4 m5 m6 V' S' M' U k O' G')) (st1 := [.int k]) ⟨hx, hb, hml, hown, hts⟩ (c_thrown l D cZ m0 m1 m2 m3 m4 m5 m6 k V' S' M' O' G') (cwV 0 hts (sm_gV (i1 := 255) (i2 := 256) (i3 := 257) (i4 := 2) (i5 := 258) rfl rfl rfl rfl rfl) rfl rfl rfl (by decide +kernel) ⟨Nat.le_of_ble_eq_true rfl, Nat.le_of_ble_eq_true rfl⟩) hK [1] rfl hP hD hS hA 5 rfl rfl [5, 6, 7, 8, 9, 10, 11] [0, 1, 2, 3, 4] rfl rfl (by decide) (by decide) (by decide) rfl hl.1 rfl (Nat.le_of_ble_eq_true rfl) dL_law_359 ⟨hcl, hsl⟩ rfl rfl (fun H locs hP hD hS => ?_)
    refine lv_iload hx hb dL_law_362 (lv_at hl 0 rfl) ?_
    refine lv_icmp_eq (tgt := 369) hx hb dL_law_364 rfl (fun _ => ?_) (fun h => absurd rfl h)
    refine lv_goto (tgt := 665) hx hb dL_law_369 rfl ?_
    exact K V' S' M' U k O' G' H locs ls hM' (lv_sub hl [1, 2, 3, 4, 5] rfl) hP hD hS
  · refine lv_aload_n hx hb dL_law_284 rfl (lv_at hl 1 rfl) ?_
    refine lx_sc (k := 1) hx hb hX hbl hbA hS g0 g4 (by decide +kernel) (by omega) (by omega) dL_law_285 dL_law_286 dL_law_288 dL_law_289 dL_law_290 ?_
    refine lx_sc (k := 2) hx hb hX hbl hbA hS g0 g4 (by decide +kernel) (by omega) (by omega) dL_law_291 dL_law_292 dL_law_294 dL_law_295 dL_law_296 ?_
    refine lx_sc (k := 3) hx hb hX hbl hbA hS g0 g4 (by decide +kernel) (by omega) (by omega) dL_law_297 dL_law_298 dL_law_300 dL_law_301 dL_law_302 ?_
    refine lx_sc (k := 4) hx hb hX hbl hbA hS g0 g4 (by decide +kernel) (by omega) (by omega) dL_law_303 dL_law_304 dL_law_306 dL_law_307 dL_law_308 ?_
    refine lv_if_eq (tgt := 316) hx hb dL_law_309 rfl (fun h => absurd h hz) (fun _ => ?_)
    refine lv_iconst (v := sm_bI true) hx hb dL_law_312 (by decide) ?_
    refine lv_goto (tgt := 317) hx hb dL_law_313 rfl ?_
    obtain ⟨k, V', S', M', hM', h1, h2⟩ := s_load l hlt D cI cJ cZ x0 x1 x2 x3 o0 m0 m1 m2 m3 m4 m5 m6 V S M hM (xs (i + 1)) (xs (i + 2)) (xs (i + 3)) true
    refine sm_callSZ (n := 5) (As := [.ref x0, .int (xs (i + 1)), .int (xs (i + 2)), .int (xs (i + 3)), .int (sm_bI true)]) (rest := []) (wr := ((o0, .inl (cJ, 1, .inr (.inl U))) :: (sm_wM cZ m0 m1 m2 m3 m4 m5 m6 err (sm_fb V) (sm_fb S) (sm_fo M) (sm_fl M) (sm_fw O) (sm_fw G)))) (wn := ((o0, .inl (cJ, 1, .inr (.inl U))) :: (sm_wM cZ m0 m1 m2 m3 m4 m5 m6 err (sm_fb V) (sm_fb S) (sm_fo M) (sm_fl M) (sm_fw O) (sm_fw G))) ++ (sm_wX cI x0 x1 x2 x3 V' S' M')) (st1 := [.int k]) ⟨hx, hb, hml, hown, hts⟩ h1 (sm_gS (i1 := 181) (i2 := 182) (i4 := 0) (i5 := 183) rfl rfl rfl rfl) rfl (by decide +kernel) ⟨Nat.le_of_ble_eq_true rfl, Nat.le_of_ble_eq_true rfl⟩ hK [0] rfl hZ hN hP hD hS hA [1, 2, 3, 4] [0, 5, 6, 7, 8, 9, 10, 11] rfl rfl (by decide) (by decide) (by decide) rfl hl.1 rfl (Nat.le_of_ble_eq_true rfl) dL_law_317 ⟨hcl, hsl⟩ rfl rfl (fun H locs hP hD hS => ?_)
    refine lv_istore (lv' := (5, .int k) :: lx_l b x0 m0 o0 i) hx hb dL_law_320 hl (by decide) rfl (fun ls hl => ?_)
    have g0 : ls[0]? = some (.val (.ref b)) := lv_at hl 1 rfl
    have g4 : ls[4]? = some (.val (.int (nI i))) := lv_at hl 5 rfl
    refine lv_aload_n hx hb dL_law_322 rfl (lv_at hl 3 rfl) ?_
    refine lx_sc (k := 1) hx hb hX hbl hbA hS g0 g4 (by decide +kernel) (by omega) (by omega) dL_law_323 dL_law_324 dL_law_326 dL_law_327 dL_law_328 ?_
    refine lx_sc (k := 2) hx hb hX hbl hbA hS g0 g4 (by decide +kernel) (by omega) (by omega) dL_law_329 dL_law_330 dL_law_332 dL_law_333 dL_law_334 ?_
    refine lx_sc (k := 3) hx hb hX hbl hbA hS g0 g4 (by decide +kernel) (by omega) (by omega) dL_law_335 dL_law_336 dL_law_338 dL_law_339 dL_law_340 ?_
    refine lx_sc (k := 4) hx hb hX hbl hbA hS g0 g4 (by decide +kernel) (by omega) (by omega) dL_law_341 dL_law_342 dL_law_344 dL_law_345 dL_law_346 ?_
    refine lv_if_eq (tgt := 354) hx hb dL_law_347 rfl (fun h => absurd h hz) (fun _ => ?_)
    refine lv_iconst (v := sm_bI true) hx hb dL_law_350 (by decide) ?_
    refine lv_goto (tgt := 355) hx hb dL_law_351 rfl ?_
    obtain ⟨O', G', h3⟩ := h2 err O G
    refine sm_callV (C := RX1) (b := m0) (As := [.int (xs (i + 1)), .int (xs (i + 2)), .int (xs (i + 3)), .int (sm_bI true)]) (rest := []) (wr := ((o0, .inl (cJ, 1, .inr (.inl U))) :: (sm_wX cI x0 x1 x2 x3 V' S' M'))) (wn := (lx_w cI cZ cJ x0 x1 x2 x3 o0 m0 m1 m2 m3 m4 m5 m6 V' S' M' U k O' G')) (st1 := []) ⟨hx, hb, hml, hown, hts⟩ (h3) (cwV 4 hts (sm_gV (i1 := 314) (i2 := 315) (i3 := 316) (i4 := 2) (i5 := 317) rfl rfl rfl rfl rfl) rfl rfl rfl (by decide +kernel) ⟨Nat.le_of_ble_eq_true rfl, Nat.le_of_ble_eq_true rfl⟩) hK [1] rfl hP hD hS hA 1 rfl rfl [1, 2, 3, 4, 5, 6, 7] [0, 8, 9, 10, 11] rfl rfl (by decide) (by decide) (by decide) rfl hl.1 rfl (Nat.le_of_ble_eq_true rfl) dL_law_355 ⟨hcl, hsl⟩ rfl rfl (fun H locs hP hD hS => ?_)
    refine lv_aload_n hx hb dL_law_358 rfl (lv_at hl 3 rfl) ?_
    refine sm_callV (C := RX1) (b := m0) (As := []) (rest := []) (wr := ((o0, .inl (cJ, 1, .inr (.inl U))) :: (sm_wX cI x0 x1 x2 x3 V' S' M'))) (wn := (lx_w cI cZ cJ x0 x1 x2 x3 o0 m0 m1 m2 m3 m4 m5 m6 V' S' M' U k O' G')) (st1 := [.int k]) ⟨hx, hb, hml, hown, hts⟩ (c_thrown l D cZ m0 m1 m2 m3 m4 m5 m6 k V' S' M' O' G') (cwV 0 hts (sm_gV (i1 := 255) (i2 := 256) (i3 := 257) (i4 := 2) (i5 := 258) rfl rfl rfl rfl rfl) rfl rfl rfl (by decide +kernel) ⟨Nat.le_of_ble_eq_true rfl, Nat.le_of_ble_eq_true rfl⟩) hK [1] rfl hP hD hS hA 5 rfl rfl [5, 6, 7, 8, 9, 10, 11] [0, 1, 2, 3, 4] rfl rfl (by decide) (by decide) (by decide) rfl hl.1 rfl (Nat.le_of_ble_eq_true rfl) dL_law_359 ⟨hcl, hsl⟩ rfl rfl (fun H locs hP hD hS => ?_)
    refine lv_iload hx hb dL_law_362 (lv_at hl 0 rfl) ?_
    refine lv_icmp_eq (tgt := 369) hx hb dL_law_364 rfl (fun _ => ?_) (fun h => absurd rfl h)
    refine lv_goto (tgt := 665) hx hb dL_law_369 rfl ?_
    exact K V' S' M' U k O' G' H locs ls hM' (lv_sub hl [1, 2, 3, 4, 5] rfl) hP hD hS
set_option maxHeartbeats 4000000 in
set_option maxRecDepth 100000 in
theorem lx_value {p : Program} {l : Launch} {e : Env} {s : State} {m : MethodId} {below : List Frame} {meth : Method} {c : Code} {H : Heap} {locs : List Loc} {cells slots : Nat} {Q : State → Prop} {b L : Nat} {xs : Nat → Int32} {D : va_G} {cI cZ cJ : ClassId} {x0 x1 x2 x3 o0 m0 m1 m2 m3 m4 m5 m6 : Nat} {ls : Array Slot} {i : Nat} (hlt : l.stackTraces = false) (F : lx_F p s m c b L xs D cI cZ cJ) (hi : i + 5 ≤ L) (hL : L ≤ 2560) (hcl : cells + 1 ≤ 1041) (hsl : slots + 6 ≤ 13705) (V S M : Nat → Int32) (U : Nat → Int64) (err O G : Int32) (hM : ∀ a, M a = M a &&& 65535) (hl : lv_has ls 7 (lx_l b x0 m0 o0 i)) (hP : va_P D vwCl (lx_w cI cZ cJ x0 x1 x2 x3 o0 m0 m1 m2 m3 m4 m5 m6 V S M U err O G) H) (hD : va_D (lx_A s) (lx_w cI cZ cJ x0 x1 x2 x3 o0 m0 m1 m2 m3 m4 m5 m6 V S M U err O G)) (hS : va_S (lx_A s) s.heap H locs) (K : ∀ (V S M : Nat → Int32) (U : Nat → Int64) (err O G : Int32) (H : Heap) (locs : List Loc) (ls : Array Slot), (∀ a, M a = M a &&& 65535) → lv_has ls 7 (lx_l b x0 m0 o0 i) → va_P D vwCl (lx_w cI cZ cJ x0 x1 x2 x3 o0 m0 m1 m2 m3 m4 m5 m6 V S M U err O G) H → va_D (lx_A s) (lx_w cI cZ cJ x0 x1 x2 x3 o0 m0 m1 m2 m3 m4 m5 m6 V S M U err O G) → va_S (lx_A s) s.heap H locs → W p l e room_1 s m #[Value.ref b] below meth c H locs (cells + 1) (slots + 6) Q (F0 m 665 ls [])) : W p l e room_1 s m #[Value.ref b] below meth c H locs cells slots Q (F0 m 372 ls []) := by
  obtain ⟨hx, hb, hml, hown, hts, hX, hbl, hZ, hN, hK⟩ := F
  have hbA : ¬ lx_A s b := Nat.not_le.mpr hbl
  have hA : ∀ q : Nat, s.heap.size ≤ q → lx_A s q := fun _ h => h
  have g0 : ls[0]? = some (.val (.ref b)) := lv_at hl 0 rfl
  have g4 : ls[4]? = some (.val (.int (nI i))) := lv_at hl 4 rfl
  refine lv_aload_n hx hb dL_law_372 rfl (lv_at hl 1 rfl) ?_
  refine lx_sc (k := 1) hx hb hX hbl hbA hS g0 g4 (by decide +kernel) (by omega) (by omega) dL_law_373 dL_law_374 dL_law_376 dL_law_377 dL_law_378 ?_
  refine lv_aload_n hx hb dL_law_379 rfl (lv_at hl 3 rfl) ?_
  obtain ⟨k, bb, U', hU, h1, h2⟩ := s_value l hlt D cI cJ cZ x0 x1 x2 x3 o0 m0 m1 m2 m3 m4 m5 m6 V S M hM U (xs (i + 1))
  refine sm_callSZ (n := 3) (As := [.ref x0, .int (xs (i + 1)), .ref o0]) (rest := []) (wr := (sm_wM cZ m0 m1 m2 m3 m4 m5 m6 err (sm_fb V) (sm_fb S) (sm_fo M) (sm_fl M) (sm_fw O) (sm_fw G))) (wn := (sm_wM cZ m0 m1 m2 m3 m4 m5 m6 err (sm_fb V) (sm_fb S) (sm_fo M) (sm_fl M) (sm_fw O) (sm_fw G)) ++ (sm_wXO cI cJ x0 x1 x2 x3 o0 V S M U')) (st1 := [.int k]) ⟨hx, hb, hml, hown, hts⟩ h1 (sm_gS (i1 := 191) (i2 := 192) (i4 := 0) (i5 := 193) rfl rfl rfl rfl) rfl (by decide +kernel) ⟨Nat.le_of_ble_eq_true rfl, Nat.le_of_ble_eq_true rfl⟩ hK [0, 2] rfl hZ hN hP hD hS hA [1, 2, 3, 4, 0] [5, 6, 7, 8, 9, 10, 11] rfl rfl (by decide) (by decide) (by decide) rfl hl.1 rfl (Nat.le_of_ble_eq_true rfl) dL_law_380 ⟨hcl, hsl⟩ rfl rfl (fun H locs hP hD hS => ?_)
  refine lv_istore (lv' := (5, .int k) :: lx_l b x0 m0 o0 i) hx hb dL_law_383 hl (by decide) rfl (fun ls hl => ?_)
  have g0 : ls[0]? = some (.val (.ref b)) := lv_at hl 1 rfl
  have g4 : ls[4]? = some (.val (.int (nI i))) := lv_at hl 5 rfl
  refine lv_aload_n hx hb dL_law_385 rfl (lv_at hl 3 rfl) ?_
  refine lx_sc (k := 1) hx hb hX hbl hbA hS g0 g4 (by decide +kernel) (by omega) (by omega) dL_law_386 dL_law_387 dL_law_389 dL_law_390 dL_law_391 ?_
  refine sm_callV (C := RX1) (b := m0) (As := [.int (xs (i + 1))]) (rest := []) (wr := (sm_wXO cI cJ x0 x1 x2 x3 o0 V S M U')) (wn := ((sm_wXO cI cJ x0 x1 x2 x3 o0 V S M U') ++ (sm_wM cZ m0 m1 m2 m3 m4 m5 m6 k (sm_fb V) (sm_fb S) (sm_fo M) (sm_fl M) (sm_fw O) (sm_fw G)))) (st1 := [.int bb]) ⟨hx, hb, hml, hown, hts⟩ (h2 err O G) (cwV 1 hts (sm_gV (i1 := 318) (i2 := 319) (i3 := 320) (i4 := 2) (i5 := 321) rfl rfl rfl rfl rfl) rfl rfl rfl (by decide +kernel) ⟨Nat.le_of_ble_eq_true rfl, Nat.le_of_ble_eq_true rfl⟩) hK [1] rfl hP hD hS hA 0 rfl rfl [0, 1, 2, 3, 4, 5, 6] [7, 8, 9, 10, 11] rfl rfl (by decide) (by decide) (by decide) rfl hl.1 rfl (Nat.le_of_ble_eq_true rfl) dL_law_392 ⟨hcl, hsl⟩ rfl rfl (fun H locs hP hD hS => ?_)
  refine lv_istore (lv' := (6, .int bb) :: (5, .int k) :: lx_l b x0 m0 o0 i) hx hb dL_law_395 hl (by decide) rfl (fun ls hl => ?_)
  refine lv_aload_n hx hb dL_law_397 rfl (lv_at hl 4 rfl) ?_
  refine sm_callV (C := RX1) (b := m0) (As := []) (rest := []) (wr := ((o0, .inl (cJ, 1, .inr (.inl U'))) :: (sm_wX cI x0 x1 x2 x3 V S M))) (wn := (lx_w cI cZ cJ x0 x1 x2 x3 o0 m0 m1 m2 m3 m4 m5 m6 V S M U' k O G)) (st1 := [.int k]) ⟨hx, hb, hml, hown, hts⟩ (c_thrown l D cZ m0 m1 m2 m3 m4 m5 m6 k V S M O G) (cwV 0 hts (sm_gV (i1 := 255) (i2 := 256) (i3 := 257) (i4 := 2) (i5 := 258) rfl rfl rfl rfl rfl) rfl rfl rfl (by decide +kernel) ⟨Nat.le_of_ble_eq_true rfl, Nat.le_of_ble_eq_true rfl⟩) hK [1] rfl hP hD hS hA 5 rfl rfl [5, 6, 7, 8, 9, 10, 11] [4, 0, 1, 2, 3] rfl rfl (by decide) (by decide) (by decide) rfl hl.1 rfl (Nat.le_of_ble_eq_true rfl) dL_law_398 ⟨hcl, hsl⟩ rfl rfl (fun H locs hP hD hS => ?_)
  refine lv_iload hx hb dL_law_401 (lv_at hl 1 rfl) ?_
  refine lv_icmp_eq (tgt := 408) hx hb dL_law_403 rfl (fun _ => ?_) (fun h => absurd rfl h)
  refine lv_iload hx hb dL_law_408 (lv_at hl 1 rfl) ?_
  refine lv_if_ne (tgt := 425) hx hb dL_law_410 rfl (fun _ => ?_) (fun hk => ?_)
  · refine lv_goto (tgt := 665) hx hb dL_law_425 rfl ?_
    exact K V S M U' k O G H locs ls hM (lv_sub hl [2, 3, 4, 5, 6] rfl) hP hD hS
  · refine lv_aload_n hx hb dL_law_413 rfl (lv_at hl 5 rfl) ?_
    refine lv_iconst (v := 0) hx hb dL_law_414 (by decide) ?_
    refine va_lald hx hb hK hP 0 2 rfl rfl (vp_in_nI (n := 0) (by decide) (by decide)) dL_law_415 ?_
    refine lv_iload hx hb dL_law_416 (lv_at hl 0 rfl) ?_
    refine lv_i2l (v := bb.toInt64) hx hb dL_law_418 rfl ?_
    refine W.lcmp hx hb dL_law_419 ?_
    refine sm_eqi (y := 0) (lx_cmp (hU hk)) ?_
    refine lv_if_eq (tgt := 425) hx hb dL_law_420 rfl (fun _ => ?_) (fun h => absurd rfl h)
    refine lv_goto (tgt := 665) hx hb dL_law_425 rfl ?_
    exact K V S M U' k O G H locs ls hM (lv_sub hl [2, 3, 4, 5, 6] rfl) hP hD hS
set_option maxHeartbeats 4000000 in
set_option maxRecDepth 100000 in
theorem lx_not {p : Program} {l : Launch} {e : Env} {s : State} {m : MethodId} {below : List Frame} {meth : Method} {c : Code} {H : Heap} {locs : List Loc} {cells slots : Nat} {Q : State → Prop} {b L : Nat} {xs : Nat → Int32} {D : va_G} {cI cZ cJ : ClassId} {x0 x1 x2 x3 o0 m0 m1 m2 m3 m4 m5 m6 : Nat} {ls : Array Slot} {i : Nat} (hlt : l.stackTraces = false) (F : lx_F p s m c b L xs D cI cZ cJ) (hi : i + 5 ≤ L) (hL : L ≤ 2560) (hcl : cells + 1 ≤ 1041) (hsl : slots + 6 ≤ 13705) (V S M : Nat → Int32) (U : Nat → Int64) (err O G : Int32) (hM : ∀ a, M a = M a &&& 65535) (hl : lv_has ls 7 (lx_l b x0 m0 o0 i)) (hP : va_P D vwCl (lx_w cI cZ cJ x0 x1 x2 x3 o0 m0 m1 m2 m3 m4 m5 m6 V S M U err O G) H) (hD : va_D (lx_A s) (lx_w cI cZ cJ x0 x1 x2 x3 o0 m0 m1 m2 m3 m4 m5 m6 V S M U err O G)) (hS : va_S (lx_A s) s.heap H locs) (K : ∀ (V S M : Nat → Int32) (U : Nat → Int64) (err O G : Int32) (H : Heap) (locs : List Loc) (ls : Array Slot), (∀ a, M a = M a &&& 65535) → lv_has ls 7 (lx_l b x0 m0 o0 i) → va_P D vwCl (lx_w cI cZ cJ x0 x1 x2 x3 o0 m0 m1 m2 m3 m4 m5 m6 V S M U err O G) H → va_D (lx_A s) (lx_w cI cZ cJ x0 x1 x2 x3 o0 m0 m1 m2 m3 m4 m5 m6 V S M U err O G) → va_S (lx_A s) s.heap H locs → W p l e room_1 s m #[Value.ref b] below meth c H locs (cells + 1) (slots + 6) Q (F0 m 665 ls [])) : W p l e room_1 s m #[Value.ref b] below meth c H locs cells slots Q (F0 m 428 ls []) := by
  obtain ⟨hx, hb, hml, hown, hts, hX, hbl, hZ, hN, hK⟩ := F
  have hbA : ¬ lx_A s b := Nat.not_le.mpr hbl
  have hA : ∀ q : Nat, s.heap.size ≤ q → lx_A s q := fun _ h => h
  have g0 : ls[0]? = some (.val (.ref b)) := lv_at hl 0 rfl
  have g4 : ls[4]? = some (.val (.int (nI i))) := lv_at hl 4 rfl
  refine lv_aload_n hx hb dL_law_428 rfl (lv_at hl 1 rfl) ?_
  refine lx_sc (k := 1) hx hb hX hbl hbA hS g0 g4 (by decide +kernel) (by omega) (by omega) dL_law_429 dL_law_430 dL_law_432 dL_law_433 dL_law_434 ?_
  refine lv_aload_n hx hb dL_law_435 rfl (lv_at hl 3 rfl) ?_
  obtain ⟨k, bb, U', hU, h1, h2⟩ := s_not l hlt D cI cJ cZ x0 x1 x2 x3 o0 m0 m1 m2 m3 m4 m5 m6 V S M hM U (xs (i + 1))
  refine sm_callSZ (n := 3) (As := [.ref x0, .int (xs (i + 1)), .ref o0]) (rest := []) (wr := (sm_wM cZ m0 m1 m2 m3 m4 m5 m6 err (sm_fb V) (sm_fb S) (sm_fo M) (sm_fl M) (sm_fw O) (sm_fw G))) (wn := (sm_wM cZ m0 m1 m2 m3 m4 m5 m6 err (sm_fb V) (sm_fb S) (sm_fo M) (sm_fl M) (sm_fw O) (sm_fw G)) ++ (sm_wXO cI cJ x0 x1 x2 x3 o0 V S M U')) (st1 := [.int k]) ⟨hx, hb, hml, hown, hts⟩ h1 (sm_gS (i1 := 198) (i2 := 199) (i4 := 0) (i5 := 200) rfl rfl rfl rfl) rfl (by decide +kernel) ⟨Nat.le_of_ble_eq_true rfl, Nat.le_of_ble_eq_true rfl⟩ hK [0, 2] rfl hZ hN hP hD hS hA [1, 2, 3, 4, 0] [5, 6, 7, 8, 9, 10, 11] rfl rfl (by decide) (by decide) (by decide) rfl hl.1 rfl (Nat.le_of_ble_eq_true rfl) dL_law_436 ⟨hcl, hsl⟩ rfl rfl (fun H locs hP hD hS => ?_)
  refine lv_istore (lv' := (5, .int k) :: lx_l b x0 m0 o0 i) hx hb dL_law_439 hl (by decide) rfl (fun ls hl => ?_)
  have g0 : ls[0]? = some (.val (.ref b)) := lv_at hl 1 rfl
  have g4 : ls[4]? = some (.val (.int (nI i))) := lv_at hl 5 rfl
  refine lv_aload_n hx hb dL_law_441 rfl (lv_at hl 3 rfl) ?_
  refine lx_sc (k := 1) hx hb hX hbl hbA hS g0 g4 (by decide +kernel) (by omega) (by omega) dL_law_442 dL_law_443 dL_law_445 dL_law_446 dL_law_447 ?_
  refine sm_callV (C := RX1) (b := m0) (As := [.int (xs (i + 1))]) (rest := []) (wr := (sm_wXO cI cJ x0 x1 x2 x3 o0 V S M U')) (wn := ((sm_wXO cI cJ x0 x1 x2 x3 o0 V S M U') ++ (sm_wM cZ m0 m1 m2 m3 m4 m5 m6 k (sm_fb V) (sm_fb S) (sm_fo M) (sm_fl M) (sm_fw O) (sm_fw G)))) (st1 := [.int bb]) ⟨hx, hb, hml, hown, hts⟩ (h2 err O G) (cwV 1 hts (sm_gV (i1 := 322) (i2 := 323) (i3 := 324) (i4 := 2) (i5 := 325) rfl rfl rfl rfl rfl) rfl rfl rfl (by decide +kernel) ⟨Nat.le_of_ble_eq_true rfl, Nat.le_of_ble_eq_true rfl⟩) hK [1] rfl hP hD hS hA 0 rfl rfl [0, 1, 2, 3, 4, 5, 6] [7, 8, 9, 10, 11] rfl rfl (by decide) (by decide) (by decide) rfl hl.1 rfl (Nat.le_of_ble_eq_true rfl) dL_law_448 ⟨hcl, hsl⟩ rfl rfl (fun H locs hP hD hS => ?_)
  refine lv_istore (lv' := (6, .int bb) :: (5, .int k) :: lx_l b x0 m0 o0 i) hx hb dL_law_451 hl (by decide) rfl (fun ls hl => ?_)
  refine lv_aload_n hx hb dL_law_453 rfl (lv_at hl 4 rfl) ?_
  refine sm_callV (C := RX1) (b := m0) (As := []) (rest := []) (wr := ((o0, .inl (cJ, 1, .inr (.inl U'))) :: (sm_wX cI x0 x1 x2 x3 V S M))) (wn := (lx_w cI cZ cJ x0 x1 x2 x3 o0 m0 m1 m2 m3 m4 m5 m6 V S M U' k O G)) (st1 := [.int k]) ⟨hx, hb, hml, hown, hts⟩ (c_thrown l D cZ m0 m1 m2 m3 m4 m5 m6 k V S M O G) (cwV 0 hts (sm_gV (i1 := 255) (i2 := 256) (i3 := 257) (i4 := 2) (i5 := 258) rfl rfl rfl rfl rfl) rfl rfl rfl (by decide +kernel) ⟨Nat.le_of_ble_eq_true rfl, Nat.le_of_ble_eq_true rfl⟩) hK [1] rfl hP hD hS hA 5 rfl rfl [5, 6, 7, 8, 9, 10, 11] [4, 0, 1, 2, 3] rfl rfl (by decide) (by decide) (by decide) rfl hl.1 rfl (Nat.le_of_ble_eq_true rfl) dL_law_454 ⟨hcl, hsl⟩ rfl rfl (fun H locs hP hD hS => ?_)
  refine lv_iload hx hb dL_law_457 (lv_at hl 1 rfl) ?_
  refine lv_icmp_eq (tgt := 464) hx hb dL_law_459 rfl (fun _ => ?_) (fun h => absurd rfl h)
  refine lv_iload hx hb dL_law_464 (lv_at hl 1 rfl) ?_
  refine lv_if_ne (tgt := 481) hx hb dL_law_466 rfl (fun _ => ?_) (fun hk => ?_)
  · refine lv_goto (tgt := 665) hx hb dL_law_481 rfl ?_
    exact K V S M U' k O G H locs ls hM (lv_sub hl [2, 3, 4, 5, 6] rfl) hP hD hS
  · refine lv_aload_n hx hb dL_law_469 rfl (lv_at hl 5 rfl) ?_
    refine lv_iconst (v := 0) hx hb dL_law_470 (by decide) ?_
    refine va_lald hx hb hK hP 0 2 rfl rfl (vp_in_nI (n := 0) (by decide) (by decide)) dL_law_471 ?_
    refine lv_iload hx hb dL_law_472 (lv_at hl 0 rfl) ?_
    refine lv_i2l (v := bb.toInt64) hx hb dL_law_474 rfl ?_
    refine W.lcmp hx hb dL_law_475 ?_
    refine sm_eqi (y := 0) (lx_cmp (hU hk)) ?_
    refine lv_if_eq (tgt := 481) hx hb dL_law_476 rfl (fun _ => ?_) (fun h => absurd rfl h)
    refine lv_goto (tgt := 665) hx hb dL_law_481 rfl ?_
    exact K V S M U' k O G H locs ls hM (lv_sub hl [2, 3, 4, 5, 6] rfl) hP hD hS
set_option maxHeartbeats 4000000 in
set_option maxRecDepth 100000 in
theorem lx_least {p : Program} {l : Launch} {e : Env} {s : State} {m : MethodId} {below : List Frame} {meth : Method} {c : Code} {H : Heap} {locs : List Loc} {cells slots : Nat} {Q : State → Prop} {b L : Nat} {xs : Nat → Int32} {D : va_G} {cI cZ cJ : ClassId} {x0 x1 x2 x3 o0 m0 m1 m2 m3 m4 m5 m6 : Nat} {ls : Array Slot} {i : Nat} (hlt : l.stackTraces = false) (F : lx_F p s m c b L xs D cI cZ cJ) (hi : i + 5 ≤ L) (hL : L ≤ 2560) (hcl : cells + 1 ≤ 1041) (hsl : slots + 6 ≤ 13705) (V S M : Nat → Int32) (U : Nat → Int64) (err O G : Int32) (hM : ∀ a, M a = M a &&& 65535) (hl : lv_has ls 7 (lx_l b x0 m0 o0 i)) (hP : va_P D vwCl (lx_w cI cZ cJ x0 x1 x2 x3 o0 m0 m1 m2 m3 m4 m5 m6 V S M U err O G) H) (hD : va_D (lx_A s) (lx_w cI cZ cJ x0 x1 x2 x3 o0 m0 m1 m2 m3 m4 m5 m6 V S M U err O G)) (hS : va_S (lx_A s) s.heap H locs) (K : ∀ (V S M : Nat → Int32) (U : Nat → Int64) (err O G : Int32) (H : Heap) (locs : List Loc) (ls : Array Slot), (∀ a, M a = M a &&& 65535) → lv_has ls 7 (lx_l b x0 m0 o0 i) → va_P D vwCl (lx_w cI cZ cJ x0 x1 x2 x3 o0 m0 m1 m2 m3 m4 m5 m6 V S M U err O G) H → va_D (lx_A s) (lx_w cI cZ cJ x0 x1 x2 x3 o0 m0 m1 m2 m3 m4 m5 m6 V S M U err O G) → va_S (lx_A s) s.heap H locs → W p l e room_1 s m #[Value.ref b] below meth c H locs (cells + 1) (slots + 6) Q (F0 m 665 ls [])) : W p l e room_1 s m #[Value.ref b] below meth c H locs cells slots Q (F0 m 484 ls []) := by
  obtain ⟨hx, hb, hml, hown, hts, hX, hbl, hZ, hN, hK⟩ := F
  have hbA : ¬ lx_A s b := Nat.not_le.mpr hbl
  have hA : ∀ q : Nat, s.heap.size ≤ q → lx_A s q := fun _ h => h
  have g0 : ls[0]? = some (.val (.ref b)) := lv_at hl 0 rfl
  have g4 : ls[4]? = some (.val (.int (nI i))) := lv_at hl 4 rfl
  refine lv_aload_n hx hb dL_law_484 rfl (lv_at hl 1 rfl) ?_
  refine lx_sc (k := 1) hx hb hX hbl hbA hS g0 g4 (by decide +kernel) (by omega) (by omega) dL_law_485 dL_law_486 dL_law_488 dL_law_489 dL_law_490 ?_
  refine lv_aload_n hx hb dL_law_491 rfl (lv_at hl 3 rfl) ?_
  obtain ⟨k, bb, U', hU, h1, h2⟩ := s_least l hlt D cI cJ cZ x0 x1 x2 x3 o0 m0 m1 m2 m3 m4 m5 m6 V S M hM U (xs (i + 1))
  refine sm_callSZ (n := 3) (As := [.ref x0, .int (xs (i + 1)), .ref o0]) (rest := []) (wr := (sm_wM cZ m0 m1 m2 m3 m4 m5 m6 err (sm_fb V) (sm_fb S) (sm_fo M) (sm_fl M) (sm_fw O) (sm_fw G))) (wn := (sm_wM cZ m0 m1 m2 m3 m4 m5 m6 err (sm_fb V) (sm_fb S) (sm_fo M) (sm_fl M) (sm_fw O) (sm_fw G)) ++ (sm_wXO cI cJ x0 x1 x2 x3 o0 V S M U')) (st1 := [.int k]) ⟨hx, hb, hml, hown, hts⟩ h1 (sm_gS (i1 := 205) (i2 := 206) (i4 := 0) (i5 := 207) rfl rfl rfl rfl) rfl (by decide +kernel) ⟨Nat.le_of_ble_eq_true rfl, Nat.le_of_ble_eq_true rfl⟩ hK [0, 2] rfl hZ hN hP hD hS hA [1, 2, 3, 4, 0] [5, 6, 7, 8, 9, 10, 11] rfl rfl (by decide) (by decide) (by decide) rfl hl.1 rfl (Nat.le_of_ble_eq_true rfl) dL_law_492 ⟨hcl, hsl⟩ rfl rfl (fun H locs hP hD hS => ?_)
  refine lv_istore (lv' := (5, .int k) :: lx_l b x0 m0 o0 i) hx hb dL_law_495 hl (by decide) rfl (fun ls hl => ?_)
  have g0 : ls[0]? = some (.val (.ref b)) := lv_at hl 1 rfl
  have g4 : ls[4]? = some (.val (.int (nI i))) := lv_at hl 5 rfl
  refine lv_aload_n hx hb dL_law_497 rfl (lv_at hl 3 rfl) ?_
  refine lx_sc (k := 1) hx hb hX hbl hbA hS g0 g4 (by decide +kernel) (by omega) (by omega) dL_law_498 dL_law_499 dL_law_501 dL_law_502 dL_law_503 ?_
  refine sm_callV (C := RX1) (b := m0) (As := [.int (xs (i + 1))]) (rest := []) (wr := (sm_wXO cI cJ x0 x1 x2 x3 o0 V S M U')) (wn := ((sm_wXO cI cJ x0 x1 x2 x3 o0 V S M U') ++ (sm_wM cZ m0 m1 m2 m3 m4 m5 m6 k (sm_fb V) (sm_fb S) (sm_fo M) (sm_fl M) (sm_fw O) (sm_fw G)))) (st1 := [.int bb]) ⟨hx, hb, hml, hown, hts⟩ (h2 err O G) (cwV 1 hts (sm_gV (i1 := 326) (i2 := 327) (i3 := 328) (i4 := 2) (i5 := 329) rfl rfl rfl rfl rfl) rfl rfl rfl (by decide +kernel) ⟨Nat.le_of_ble_eq_true rfl, Nat.le_of_ble_eq_true rfl⟩) hK [1] rfl hP hD hS hA 0 rfl rfl [0, 1, 2, 3, 4, 5, 6] [7, 8, 9, 10, 11] rfl rfl (by decide) (by decide) (by decide) rfl hl.1 rfl (Nat.le_of_ble_eq_true rfl) dL_law_504 ⟨hcl, hsl⟩ rfl rfl (fun H locs hP hD hS => ?_)
  refine lv_istore (lv' := (6, .int bb) :: (5, .int k) :: lx_l b x0 m0 o0 i) hx hb dL_law_507 hl (by decide) rfl (fun ls hl => ?_)
  refine lv_aload_n hx hb dL_law_509 rfl (lv_at hl 4 rfl) ?_
  refine sm_callV (C := RX1) (b := m0) (As := []) (rest := []) (wr := ((o0, .inl (cJ, 1, .inr (.inl U'))) :: (sm_wX cI x0 x1 x2 x3 V S M))) (wn := (lx_w cI cZ cJ x0 x1 x2 x3 o0 m0 m1 m2 m3 m4 m5 m6 V S M U' k O G)) (st1 := [.int k]) ⟨hx, hb, hml, hown, hts⟩ (c_thrown l D cZ m0 m1 m2 m3 m4 m5 m6 k V S M O G) (cwV 0 hts (sm_gV (i1 := 255) (i2 := 256) (i3 := 257) (i4 := 2) (i5 := 258) rfl rfl rfl rfl rfl) rfl rfl rfl (by decide +kernel) ⟨Nat.le_of_ble_eq_true rfl, Nat.le_of_ble_eq_true rfl⟩) hK [1] rfl hP hD hS hA 5 rfl rfl [5, 6, 7, 8, 9, 10, 11] [4, 0, 1, 2, 3] rfl rfl (by decide) (by decide) (by decide) rfl hl.1 rfl (Nat.le_of_ble_eq_true rfl) dL_law_510 ⟨hcl, hsl⟩ rfl rfl (fun H locs hP hD hS => ?_)
  refine lv_iload hx hb dL_law_513 (lv_at hl 1 rfl) ?_
  refine lv_icmp_eq (tgt := 520) hx hb dL_law_515 rfl (fun _ => ?_) (fun h => absurd rfl h)
  refine lv_iload hx hb dL_law_520 (lv_at hl 1 rfl) ?_
  refine lv_if_ne (tgt := 537) hx hb dL_law_522 rfl (fun _ => ?_) (fun hk => ?_)
  · refine lv_goto (tgt := 665) hx hb dL_law_537 rfl ?_
    exact K V S M U' k O G H locs ls hM (lv_sub hl [2, 3, 4, 5, 6] rfl) hP hD hS
  · refine lv_aload_n hx hb dL_law_525 rfl (lv_at hl 5 rfl) ?_
    refine lv_iconst (v := 0) hx hb dL_law_526 (by decide) ?_
    refine va_lald hx hb hK hP 0 2 rfl rfl (vp_in_nI (n := 0) (by decide) (by decide)) dL_law_527 ?_
    refine lv_iload hx hb dL_law_528 (lv_at hl 0 rfl) ?_
    refine lv_i2l (v := bb.toInt64) hx hb dL_law_530 rfl ?_
    refine W.lcmp hx hb dL_law_531 ?_
    refine sm_eqi (y := 0) (lx_cmp (hU hk)) ?_
    refine lv_if_eq (tgt := 537) hx hb dL_law_532 rfl (fun _ => ?_) (fun h => absurd rfl h)
    refine lv_goto (tgt := 665) hx hb dL_law_537 rfl ?_
    exact K V S M U' k O G H locs ls hM (lv_sub hl [2, 3, 4, 5, 6] rfl) hP hD hS
set_option maxHeartbeats 4000000 in
set_option maxRecDepth 100000 in
theorem lx_greatest {p : Program} {l : Launch} {e : Env} {s : State} {m : MethodId} {below : List Frame} {meth : Method} {c : Code} {H : Heap} {locs : List Loc} {cells slots : Nat} {Q : State → Prop} {b L : Nat} {xs : Nat → Int32} {D : va_G} {cI cZ cJ : ClassId} {x0 x1 x2 x3 o0 m0 m1 m2 m3 m4 m5 m6 : Nat} {ls : Array Slot} {i : Nat} (hlt : l.stackTraces = false) (F : lx_F p s m c b L xs D cI cZ cJ) (hi : i + 5 ≤ L) (hL : L ≤ 2560) (hcl : cells + 1 ≤ 1041) (hsl : slots + 6 ≤ 13705) (V S M : Nat → Int32) (U : Nat → Int64) (err O G : Int32) (hM : ∀ a, M a = M a &&& 65535) (hl : lv_has ls 7 (lx_l b x0 m0 o0 i)) (hP : va_P D vwCl (lx_w cI cZ cJ x0 x1 x2 x3 o0 m0 m1 m2 m3 m4 m5 m6 V S M U err O G) H) (hD : va_D (lx_A s) (lx_w cI cZ cJ x0 x1 x2 x3 o0 m0 m1 m2 m3 m4 m5 m6 V S M U err O G)) (hS : va_S (lx_A s) s.heap H locs) (K : ∀ (V S M : Nat → Int32) (U : Nat → Int64) (err O G : Int32) (H : Heap) (locs : List Loc) (ls : Array Slot), (∀ a, M a = M a &&& 65535) → lv_has ls 7 (lx_l b x0 m0 o0 i) → va_P D vwCl (lx_w cI cZ cJ x0 x1 x2 x3 o0 m0 m1 m2 m3 m4 m5 m6 V S M U err O G) H → va_D (lx_A s) (lx_w cI cZ cJ x0 x1 x2 x3 o0 m0 m1 m2 m3 m4 m5 m6 V S M U err O G) → va_S (lx_A s) s.heap H locs → W p l e room_1 s m #[Value.ref b] below meth c H locs (cells + 1) (slots + 6) Q (F0 m 665 ls [])) : W p l e room_1 s m #[Value.ref b] below meth c H locs cells slots Q (F0 m 540 ls []) := by
  obtain ⟨hx, hb, hml, hown, hts, hX, hbl, hZ, hN, hK⟩ := F
  have hbA : ¬ lx_A s b := Nat.not_le.mpr hbl
  have hA : ∀ q : Nat, s.heap.size ≤ q → lx_A s q := fun _ h => h
  have g0 : ls[0]? = some (.val (.ref b)) := lv_at hl 0 rfl
  have g4 : ls[4]? = some (.val (.int (nI i))) := lv_at hl 4 rfl
  refine lv_aload_n hx hb dL_law_540 rfl (lv_at hl 1 rfl) ?_
  refine lx_sc (k := 1) hx hb hX hbl hbA hS g0 g4 (by decide +kernel) (by omega) (by omega) dL_law_541 dL_law_542 dL_law_544 dL_law_545 dL_law_546 ?_
  refine lv_aload_n hx hb dL_law_547 rfl (lv_at hl 3 rfl) ?_
  obtain ⟨k, bb, U', hU, h1, h2⟩ := s_greatest l hlt D cI cJ cZ x0 x1 x2 x3 o0 m0 m1 m2 m3 m4 m5 m6 V S M hM U (xs (i + 1))
  refine sm_callSZ (n := 3) (As := [.ref x0, .int (xs (i + 1)), .ref o0]) (rest := []) (wr := (sm_wM cZ m0 m1 m2 m3 m4 m5 m6 err (sm_fb V) (sm_fb S) (sm_fo M) (sm_fl M) (sm_fw O) (sm_fw G))) (wn := (sm_wM cZ m0 m1 m2 m3 m4 m5 m6 err (sm_fb V) (sm_fb S) (sm_fo M) (sm_fl M) (sm_fw O) (sm_fw G)) ++ (sm_wXO cI cJ x0 x1 x2 x3 o0 V S M U')) (st1 := [.int k]) ⟨hx, hb, hml, hown, hts⟩ h1 (sm_gS (i1 := 212) (i2 := 213) (i4 := 0) (i5 := 214) rfl rfl rfl rfl) rfl (by decide +kernel) ⟨Nat.le_of_ble_eq_true rfl, Nat.le_of_ble_eq_true rfl⟩ hK [0, 2] rfl hZ hN hP hD hS hA [1, 2, 3, 4, 0] [5, 6, 7, 8, 9, 10, 11] rfl rfl (by decide) (by decide) (by decide) rfl hl.1 rfl (Nat.le_of_ble_eq_true rfl) dL_law_548 ⟨hcl, hsl⟩ rfl rfl (fun H locs hP hD hS => ?_)
  refine lv_istore (lv' := (5, .int k) :: lx_l b x0 m0 o0 i) hx hb dL_law_551 hl (by decide) rfl (fun ls hl => ?_)
  have g0 : ls[0]? = some (.val (.ref b)) := lv_at hl 1 rfl
  have g4 : ls[4]? = some (.val (.int (nI i))) := lv_at hl 5 rfl
  refine lv_aload_n hx hb dL_law_553 rfl (lv_at hl 3 rfl) ?_
  refine lx_sc (k := 1) hx hb hX hbl hbA hS g0 g4 (by decide +kernel) (by omega) (by omega) dL_law_554 dL_law_555 dL_law_557 dL_law_558 dL_law_559 ?_
  refine sm_callV (C := RX1) (b := m0) (As := [.int (xs (i + 1))]) (rest := []) (wr := (sm_wXO cI cJ x0 x1 x2 x3 o0 V S M U')) (wn := ((sm_wXO cI cJ x0 x1 x2 x3 o0 V S M U') ++ (sm_wM cZ m0 m1 m2 m3 m4 m5 m6 k (sm_fb V) (sm_fb S) (sm_fo M) (sm_fl M) (sm_fw O) (sm_fw G)))) (st1 := [.int bb]) ⟨hx, hb, hml, hown, hts⟩ (h2 err O G) (cwV 1 hts (sm_gV (i1 := 330) (i2 := 331) (i3 := 332) (i4 := 2) (i5 := 333) rfl rfl rfl rfl rfl) rfl rfl rfl (by decide +kernel) ⟨Nat.le_of_ble_eq_true rfl, Nat.le_of_ble_eq_true rfl⟩) hK [1] rfl hP hD hS hA 0 rfl rfl [0, 1, 2, 3, 4, 5, 6] [7, 8, 9, 10, 11] rfl rfl (by decide) (by decide) (by decide) rfl hl.1 rfl (Nat.le_of_ble_eq_true rfl) dL_law_560 ⟨hcl, hsl⟩ rfl rfl (fun H locs hP hD hS => ?_)
  refine lv_istore (lv' := (6, .int bb) :: (5, .int k) :: lx_l b x0 m0 o0 i) hx hb dL_law_563 hl (by decide) rfl (fun ls hl => ?_)
  refine lv_aload_n hx hb dL_law_565 rfl (lv_at hl 4 rfl) ?_
  refine sm_callV (C := RX1) (b := m0) (As := []) (rest := []) (wr := ((o0, .inl (cJ, 1, .inr (.inl U'))) :: (sm_wX cI x0 x1 x2 x3 V S M))) (wn := (lx_w cI cZ cJ x0 x1 x2 x3 o0 m0 m1 m2 m3 m4 m5 m6 V S M U' k O G)) (st1 := [.int k]) ⟨hx, hb, hml, hown, hts⟩ (c_thrown l D cZ m0 m1 m2 m3 m4 m5 m6 k V S M O G) (cwV 0 hts (sm_gV (i1 := 255) (i2 := 256) (i3 := 257) (i4 := 2) (i5 := 258) rfl rfl rfl rfl rfl) rfl rfl rfl (by decide +kernel) ⟨Nat.le_of_ble_eq_true rfl, Nat.le_of_ble_eq_true rfl⟩) hK [1] rfl hP hD hS hA 5 rfl rfl [5, 6, 7, 8, 9, 10, 11] [4, 0, 1, 2, 3] rfl rfl (by decide) (by decide) (by decide) rfl hl.1 rfl (Nat.le_of_ble_eq_true rfl) dL_law_566 ⟨hcl, hsl⟩ rfl rfl (fun H locs hP hD hS => ?_)
  refine lv_iload hx hb dL_law_569 (lv_at hl 1 rfl) ?_
  refine lv_icmp_eq (tgt := 576) hx hb dL_law_571 rfl (fun _ => ?_) (fun h => absurd rfl h)
  refine lv_iload hx hb dL_law_576 (lv_at hl 1 rfl) ?_
  refine lv_if_ne (tgt := 593) hx hb dL_law_578 rfl (fun _ => ?_) (fun hk => ?_)
  · refine lv_goto (tgt := 665) hx hb dL_law_593 rfl ?_
    exact K V S M U' k O G H locs ls hM (lv_sub hl [2, 3, 4, 5, 6] rfl) hP hD hS
  · refine lv_aload_n hx hb dL_law_581 rfl (lv_at hl 5 rfl) ?_
    refine lv_iconst (v := 0) hx hb dL_law_582 (by decide) ?_
    refine va_lald hx hb hK hP 0 2 rfl rfl (vp_in_nI (n := 0) (by decide) (by decide)) dL_law_583 ?_
    refine lv_iload hx hb dL_law_584 (lv_at hl 0 rfl) ?_
    refine lv_i2l (v := bb.toInt64) hx hb dL_law_586 rfl ?_
    refine W.lcmp hx hb dL_law_587 ?_
    refine sm_eqi (y := 0) (lx_cmp (hU hk)) ?_
    refine lv_if_eq (tgt := 593) hx hb dL_law_588 rfl (fun _ => ?_) (fun h => absurd rfl h)
    refine lv_goto (tgt := 665) hx hb dL_law_593 rfl ?_
    exact K V S M U' k O G H locs ls hM (lv_sub hl [2, 3, 4, 5, 6] rfl) hP hD hS
set_option maxHeartbeats 4000000 in
set_option maxRecDepth 100000 in
theorem lx_octet {p : Program} {l : Launch} {e : Env} {s : State} {m : MethodId} {below : List Frame} {meth : Method} {c : Code} {H : Heap} {locs : List Loc} {cells slots : Nat} {Q : State → Prop} {b L : Nat} {xs : Nat → Int32} {D : va_G} {cI cZ cJ : ClassId} {x0 x1 x2 x3 o0 m0 m1 m2 m3 m4 m5 m6 : Nat} {ls : Array Slot} {i : Nat} (hlt : l.stackTraces = false) (F : lx_F p s m c b L xs D cI cZ cJ) (hi : i + 5 ≤ L) (hL : L ≤ 2560) (hcl : cells + 1 ≤ 1041) (hsl : slots + 6 ≤ 13705) (V S M : Nat → Int32) (U : Nat → Int64) (err O G : Int32) (hM : ∀ a, M a = M a &&& 65535) (hl : lv_has ls 7 (lx_l b x0 m0 o0 i)) (hP : va_P D vwCl (lx_w cI cZ cJ x0 x1 x2 x3 o0 m0 m1 m2 m3 m4 m5 m6 V S M U err O G) H) (hD : va_D (lx_A s) (lx_w cI cZ cJ x0 x1 x2 x3 o0 m0 m1 m2 m3 m4 m5 m6 V S M U err O G)) (hS : va_S (lx_A s) s.heap H locs) (K : ∀ (V S M : Nat → Int32) (U : Nat → Int64) (err O G : Int32) (H : Heap) (locs : List Loc) (ls : Array Slot), (∀ a, M a = M a &&& 65535) → lv_has ls 7 (lx_l b x0 m0 o0 i) → va_P D vwCl (lx_w cI cZ cJ x0 x1 x2 x3 o0 m0 m1 m2 m3 m4 m5 m6 V S M U err O G) H → va_D (lx_A s) (lx_w cI cZ cJ x0 x1 x2 x3 o0 m0 m1 m2 m3 m4 m5 m6 V S M U err O G) → va_S (lx_A s) s.heap H locs → W p l e room_1 s m #[Value.ref b] below meth c H locs (cells + 1) (slots + 6) Q (F0 m 665 ls [])) : W p l e room_1 s m #[Value.ref b] below meth c H locs cells slots Q (F0 m 596 ls []) := by
  obtain ⟨hx, hb, hml, hown, hts, hX, hbl, hZ, hN, hK⟩ := F
  have hbA : ¬ lx_A s b := Nat.not_le.mpr hbl
  have hA : ∀ q : Nat, s.heap.size ≤ q → lx_A s q := fun _ h => h
  have g0 : ls[0]? = some (.val (.ref b)) := lv_at hl 0 rfl
  have g4 : ls[4]? = some (.val (.int (nI i))) := lv_at hl 4 rfl
  refine lv_aload_n hx hb dL_law_596 rfl (lv_at hl 1 rfl) ?_
  refine lx_sc (k := 1) hx hb hX hbl hbA hS g0 g4 (by decide +kernel) (by omega) (by omega) dL_law_597 dL_law_598 dL_law_600 dL_law_601 dL_law_602 ?_
  refine lv_aload_n hx hb dL_law_603 rfl (lv_at hl 3 rfl) ?_
  obtain ⟨k, bb, U', hU, h1, h2⟩ := s_octet l hlt D cI cJ cZ x0 x1 x2 x3 o0 m0 m1 m2 m3 m4 m5 m6 V S M hM U (xs (i + 1))
  refine sm_callSZ (n := 3) (As := [.ref x0, .int (xs (i + 1)), .ref o0]) (rest := []) (wr := (sm_wM cZ m0 m1 m2 m3 m4 m5 m6 err (sm_fb V) (sm_fb S) (sm_fo M) (sm_fl M) (sm_fw O) (sm_fw G))) (wn := (sm_wM cZ m0 m1 m2 m3 m4 m5 m6 err (sm_fb V) (sm_fb S) (sm_fo M) (sm_fl M) (sm_fw O) (sm_fw G)) ++ (sm_wXO cI cJ x0 x1 x2 x3 o0 V S M U')) (st1 := [.int k]) ⟨hx, hb, hml, hown, hts⟩ h1 (sm_gS (i1 := 219) (i2 := 220) (i4 := 0) (i5 := 221) rfl rfl rfl rfl) rfl (by decide +kernel) ⟨Nat.le_of_ble_eq_true rfl, Nat.le_of_ble_eq_true rfl⟩ hK [0, 2] rfl hZ hN hP hD hS hA [1, 2, 3, 4, 0] [5, 6, 7, 8, 9, 10, 11] rfl rfl (by decide) (by decide) (by decide) rfl hl.1 rfl (Nat.le_of_ble_eq_true rfl) dL_law_604 ⟨hcl, hsl⟩ rfl rfl (fun H locs hP hD hS => ?_)
  refine lv_istore (lv' := (5, .int k) :: lx_l b x0 m0 o0 i) hx hb dL_law_607 hl (by decide) rfl (fun ls hl => ?_)
  have g0 : ls[0]? = some (.val (.ref b)) := lv_at hl 1 rfl
  have g4 : ls[4]? = some (.val (.int (nI i))) := lv_at hl 5 rfl
  refine lv_aload_n hx hb dL_law_609 rfl (lv_at hl 3 rfl) ?_
  refine lx_sc (k := 1) hx hb hX hbl hbA hS g0 g4 (by decide +kernel) (by omega) (by omega) dL_law_610 dL_law_611 dL_law_613 dL_law_614 dL_law_615 ?_
  refine sm_callV (C := RX1) (b := m0) (As := [.int (xs (i + 1))]) (rest := []) (wr := (sm_wXO cI cJ x0 x1 x2 x3 o0 V S M U')) (wn := ((sm_wXO cI cJ x0 x1 x2 x3 o0 V S M U') ++ (sm_wM cZ m0 m1 m2 m3 m4 m5 m6 k (sm_fb V) (sm_fb S) (sm_fo M) (sm_fl M) (sm_fw O) (sm_fw G)))) (st1 := [.int bb]) ⟨hx, hb, hml, hown, hts⟩ (h2 err O G) (cwV 1 hts (sm_gV (i1 := 334) (i2 := 335) (i3 := 336) (i4 := 2) (i5 := 337) rfl rfl rfl rfl rfl) rfl rfl rfl (by decide +kernel) ⟨Nat.le_of_ble_eq_true rfl, Nat.le_of_ble_eq_true rfl⟩) hK [1] rfl hP hD hS hA 0 rfl rfl [0, 1, 2, 3, 4, 5, 6] [7, 8, 9, 10, 11] rfl rfl (by decide) (by decide) (by decide) rfl hl.1 rfl (Nat.le_of_ble_eq_true rfl) dL_law_616 ⟨hcl, hsl⟩ rfl rfl (fun H locs hP hD hS => ?_)
  refine lv_istore (lv' := (6, .int bb) :: (5, .int k) :: lx_l b x0 m0 o0 i) hx hb dL_law_619 hl (by decide) rfl (fun ls hl => ?_)
  refine lv_aload_n hx hb dL_law_621 rfl (lv_at hl 4 rfl) ?_
  refine sm_callV (C := RX1) (b := m0) (As := []) (rest := []) (wr := ((o0, .inl (cJ, 1, .inr (.inl U'))) :: (sm_wX cI x0 x1 x2 x3 V S M))) (wn := (lx_w cI cZ cJ x0 x1 x2 x3 o0 m0 m1 m2 m3 m4 m5 m6 V S M U' k O G)) (st1 := [.int k]) ⟨hx, hb, hml, hown, hts⟩ (c_thrown l D cZ m0 m1 m2 m3 m4 m5 m6 k V S M O G) (cwV 0 hts (sm_gV (i1 := 255) (i2 := 256) (i3 := 257) (i4 := 2) (i5 := 258) rfl rfl rfl rfl rfl) rfl rfl rfl (by decide +kernel) ⟨Nat.le_of_ble_eq_true rfl, Nat.le_of_ble_eq_true rfl⟩) hK [1] rfl hP hD hS hA 5 rfl rfl [5, 6, 7, 8, 9, 10, 11] [4, 0, 1, 2, 3] rfl rfl (by decide) (by decide) (by decide) rfl hl.1 rfl (Nat.le_of_ble_eq_true rfl) dL_law_622 ⟨hcl, hsl⟩ rfl rfl (fun H locs hP hD hS => ?_)
  refine lv_iload hx hb dL_law_625 (lv_at hl 1 rfl) ?_
  refine lv_icmp_eq (tgt := 632) hx hb dL_law_627 rfl (fun _ => ?_) (fun h => absurd rfl h)
  refine lv_iload hx hb dL_law_632 (lv_at hl 1 rfl) ?_
  refine lv_if_ne (tgt := 649) hx hb dL_law_634 rfl (fun _ => ?_) (fun hk => ?_)
  · refine lv_goto (tgt := 665) hx hb dL_law_649 rfl ?_
    exact K V S M U' k O G H locs ls hM (lv_sub hl [2, 3, 4, 5, 6] rfl) hP hD hS
  · refine lv_aload_n hx hb dL_law_637 rfl (lv_at hl 5 rfl) ?_
    refine lv_iconst (v := 0) hx hb dL_law_638 (by decide) ?_
    refine va_lald hx hb hK hP 0 2 rfl rfl (vp_in_nI (n := 0) (by decide) (by decide)) dL_law_639 ?_
    refine lv_iload hx hb dL_law_640 (lv_at hl 0 rfl) ?_
    refine lv_i2l (v := bb.toInt64) hx hb dL_law_642 rfl ?_
    refine W.lcmp hx hb dL_law_643 ?_
    refine sm_eqi (y := 0) (lx_cmp (hU hk)) ?_
    refine lv_if_eq (tgt := 649) hx hb dL_law_644 rfl (fun _ => ?_) (fun h => absurd rfl h)
    refine lv_goto (tgt := 665) hx hb dL_law_649 rfl ?_
    exact K V S M U' k O G H locs ls hM (lv_sub hl [2, 3, 4, 5, 6] rfl) hP hD hS
set_option maxHeartbeats 4000000 in
set_option maxRecDepth 100000 in
theorem lx_count {p : Program} {l : Launch} {e : Env} {s : State} {m : MethodId} {below : List Frame} {meth : Method} {c : Code} {H : Heap} {locs : List Loc} {cells slots : Nat} {Q : State → Prop} {b L : Nat} {xs : Nat → Int32} {D : va_G} {cI cZ cJ : ClassId} {x0 x1 x2 x3 o0 m0 m1 m2 m3 m4 m5 m6 : Nat} {ls : Array Slot} {i : Nat} (hlt : l.stackTraces = false) (F : lx_F p s m c b L xs D cI cZ cJ) (hi : i + 5 ≤ L) (hL : L ≤ 2560) (hcl : cells + 1 ≤ 1041) (hsl : slots + 6 ≤ 13705) (V S M : Nat → Int32) (U : Nat → Int64) (err O G : Int32) (hM : ∀ a, M a = M a &&& 65535) (hl : lv_has ls 7 (lx_l b x0 m0 o0 i)) (hP : va_P D vwCl (lx_w cI cZ cJ x0 x1 x2 x3 o0 m0 m1 m2 m3 m4 m5 m6 V S M U err O G) H) (hD : va_D (lx_A s) (lx_w cI cZ cJ x0 x1 x2 x3 o0 m0 m1 m2 m3 m4 m5 m6 V S M U err O G)) (hS : va_S (lx_A s) s.heap H locs) (K : ∀ (V S M : Nat → Int32) (U : Nat → Int64) (err O G : Int32) (H : Heap) (locs : List Loc) (ls : Array Slot), (∀ a, M a = M a &&& 65535) → lv_has ls 7 (lx_l b x0 m0 o0 i) → va_P D vwCl (lx_w cI cZ cJ x0 x1 x2 x3 o0 m0 m1 m2 m3 m4 m5 m6 V S M U err O G) H → va_D (lx_A s) (lx_w cI cZ cJ x0 x1 x2 x3 o0 m0 m1 m2 m3 m4 m5 m6 V S M U err O G) → va_S (lx_A s) s.heap H locs → W p l e room_1 s m #[Value.ref b] below meth c H locs (cells + 1) (slots + 6) Q (F0 m 665 ls [])) : W p l e room_1 s m #[Value.ref b] below meth c H locs cells slots Q (F0 m 652 ls []) := by
  obtain ⟨hx, hb, hml, hown, hts, hX, hbl, hZ, hN, hK⟩ := F
  have hbA : ¬ lx_A s b := Nat.not_le.mpr hbl
  have hA : ∀ q : Nat, s.heap.size ≤ q → lx_A s q := fun _ h => h
  have g0 : ls[0]? = some (.val (.ref b)) := lv_at hl 0 rfl
  have g4 : ls[4]? = some (.val (.int (nI i))) := lv_at hl 4 rfl
  have hcl0 : cells ≤ 1041 := by omega
  have hsl0 : slots ≤ 13705 := by omega
  refine lv_aload_n hx hb dL_law_652 rfl (lv_at hl 1 rfl) ?_
  refine sm_callV (C := RX0) (b := x0) (As := []) (rest := []) (wr := ((o0, .inl (cJ, 1, .inr (.inl U))) :: (sm_wM cZ m0 m1 m2 m3 m4 m5 m6 err (sm_fb V) (sm_fb S) (sm_fo M) (sm_fl M) (sm_fw O) (sm_fw G)))) (wn := ((o0, .inl (cJ, 1, .inr (.inl U))) :: (sm_wM cZ m0 m1 m2 m3 m4 m5 m6 err (sm_fb V) (sm_fb S) (sm_fo M) (sm_fl M) (sm_fw O) (sm_fw G)) ++ (sm_wX cI x0 x1 x2 x3 V S M))) (st1 := [.int (nI (sm_cn S 16))]) ⟨hx, hb, hml, hown, hts⟩ (c_count l D cI x0 x1 x2 x3 V S M) (cwV 0 hts (sm_gV (i1 := 29) (i2 := 30) (i3 := 31) (i4 := 1) (i5 := 32) rfl rfl rfl rfl rfl) rfl rfl rfl (by decide +kernel) ⟨Nat.le_of_ble_eq_true rfl, Nat.le_of_ble_eq_true rfl⟩) hK [0] rfl hP hD hS hA 1 rfl rfl [1, 2, 3, 4] [0, 5, 6, 7, 8, 9, 10, 11] rfl rfl (by decide) (by decide) (by decide) rfl hl.1 rfl (Nat.le_of_ble_eq_true rfl) dL_law_653 ⟨hcl0, hsl0⟩ rfl rfl (fun H locs hP hD hS => ?_)
  refine lv_aload_n hx hb dL_law_656 rfl (lv_at hl 2 rfl) ?_
  refine sm_callV (C := RX1) (b := m0) (As := []) (rest := [.int (nI (sm_cn S 16))]) (wr := ((o0, .inl (cJ, 1, .inr (.inl U))) :: (sm_wX cI x0 x1 x2 x3 V S M))) (wn := (lx_w cI cZ cJ x0 x1 x2 x3 o0 m0 m1 m2 m3 m4 m5 m6 V S M U 0 O G)) (st1 := [.int (nI (sm_pc (fun j => bt (S (j / 32)) (j % 32)) 512)), .int (nI (sm_cn S 16))]) ⟨hx, hb, hml, hown, hts⟩ (c_mcount l D cZ m0 m1 m2 m3 m4 m5 m6 err V S M O G) (cwV 0 hts (sm_gV (i1 := 338) (i2 := 339) (i3 := 340) (i4 := 2) (i5 := 341) rfl rfl rfl rfl rfl) rfl rfl rfl (by decide +kernel) ⟨Nat.le_of_ble_eq_true rfl, Nat.le_of_ble_eq_true rfl⟩) hK [1] rfl hP hD hS hA 1 rfl rfl [1, 2, 3, 4, 5, 6, 7] [0, 8, 9, 10, 11] rfl rfl (by decide) (by decide) (by decide) rfl hl.1 rfl (Nat.le_of_ble_eq_true rfl) dL_law_657 ⟨hcl0, hsl0⟩ rfl rfl (fun H locs hP hD hS => ?_)
  refine lv_icmp_eq (tgt := 665) hx hb dL_law_660 rfl (fun _ => ?_) (fun h => absurd (s_count S) h)
  refine W.widen (k := cells + 1) (n := slots + 6) (Nat.le_add_right _ _) (Nat.le_add_right _ _) ?_
  exact K V S M U 0 O G H locs ls hM hl hP hD hS
