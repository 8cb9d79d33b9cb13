/-! Integer.numberOfTrailingZeros and Integer.bitCount: the numbers behind their code -/
theorem sm_btn (x : Int32) (i : Nat) : bt x i = x.toBitVec.toNat.testBit i := rfl
theorem sm_odd {a : Nat} (h : a % 2 = 1) : ∀ j, (!a.testBit j && (a - 1).testBit j) = false
  | 0 => by
    rw [Nat.testBit_zero, Nat.testBit_zero]
    simp; omega
  | j + 1 => by
    rw [Nat.testBit_succ, Nat.testBit_succ, show (a - 1) / 2 = a / 2 by omega]
    simp
/-- the ones below a place -/
def sm_low (t : Nat) : Int32 := sm_mk (fun i => decide (i < t)) 32
theorem sm_ntz (x : Int32) : (x ^^^ (-1)) &&& (x - 1) = sm_low (sm_tz x) := by
  have hle := sm_tz_le x
  by_cases h32 : sm_tz x = 32
  · have h0 : x = 0 := b_ext fun i hi => by rw [sm_tz_lt (by omega), b_0]
    rw [h32, h0]
    decide +kernel
  · refine b_ext fun i hi => ?_
    rw [b_and, sm_bnot x hi]
    unfold sm_low
    rw [sm_mk32 _ hi]
    obtain ⟨t, ht⟩ : ∃ t, t = sm_tz x := ⟨_, rfl⟩
    have h1 : ∀ i, i < t → bt x i = false := fun i h => sm_tz_lt (by omega)
    have h2 : bt x t = true := by rw [ht]; exact sm_tz_at (by omega)
    rw [← ht]
    obtain ⟨N, hN⟩ : ∃ N, N = x.toBitVec.toNat := ⟨_, rfl⟩
    have hlt : N < 2 ^ 32 := by rw [hN]; exact x.toBitVec.isLt
    have b1 : ∀ i, i < t → N.testBit i = false := fun i h => by rw [hN]; exact h1 i h
    have b2 : N.testBit t = true := by rw [hN]; exact h2
    have hmod : N % 2 ^ t = 0 := Nat.eq_of_testBit_eq fun i => by
      rw [Nat.testBit_mod_two_pow, Nat.zero_testBit]
      by_cases h : i < t
      · rw [b1 i h]; simp
      · simp [h]
    obtain ⟨a, ha⟩ : ∃ a, N = 2 ^ t * a := ⟨N / 2 ^ t, by have := Nat.div_add_mod N (2 ^ t); omega⟩
    have hodd : a % 2 = 1 := by
      have h3 : N.testBit t = a.testBit 0 := by rw [ha, Nat.testBit_two_pow_mul]; simp
      rw [b2, Nat.testBit_zero] at h3
      simpa using h3.symm
    have hpos : 0 < 2 ^ t := Nat.two_pow_pos t
    have hsub : N - 1 = 2 ^ t * (a - 1) + (2 ^ t - 1) := by
      have h4 : 2 ^ t * a = 2 ^ t * (a - 1) + 2 ^ t := by rw [← Nat.mul_succ]; congr 1; omega
      omega
    have hN1 : 1 ≤ N := by
      have : 2 ^ t * 1 ≤ 2 ^ t * a := Nat.mul_le_mul_left _ (by omega)
      omega
    have hx1 : (x - 1).toBitVec.toNat = N - 1 := by
      rw [Int32.toBitVec_sub, BitVec.toNat_sub, ← hN]
      show (2 ^ 32 - 1 + N) % 2 ^ 32 = N - 1
      omega
    rw [sm_btn, sm_btn, hx1, ← hN, hsub, ha]
    by_cases h : i < t
    · rw [Nat.testBit_two_pow_mul_add _ (by omega), if_pos h, Nat.testBit_two_pow_sub_one, Nat.testBit_two_pow_mul]
      simp [h, Nat.not_le.mpr h]
    · rw [Nat.testBit_two_pow_mul_add _ (by omega), if_neg h, Nat.testBit_two_pow_mul]
      have := sm_odd hodd (i - t)
      simp only [show decide (i ≥ t) = true by simp; omega, Bool.true_and]
      rw [this]; simp [h]
/-! bitCount, a byte at a time -/
theorem sm_and256 {u w : Nat} (v z : Nat) (hu : u < 256) (hw : w < 256) : (u + 256 * v) &&& (w + 256 * z) = (u &&& w) + 256 * (v &&& z) := by
  have h1 : ((u + 256 * v) &&& (w + 256 * z)) % 256 = u &&& w := by
    rw [show (256 : Nat) = 2 ^ 8 from rfl, Nat.and_mod_two_pow, show (u + 2 ^ 8 * v) % 2 ^ 8 = u by omega, show (w + 2 ^ 8 * z) % 2 ^ 8 = w by omega]
  have h2 : ((u + 256 * v) &&& (w + 256 * z)) / 256 = v &&& z := by
    rw [show (256 : Nat) = 2 ^ 8 from rfl, Nat.and_div_two_pow, show (u + 2 ^ 8 * v) / 2 ^ 8 = v by omega, show (w + 2 ^ 8 * z) / 2 ^ 8 = z by omega]
  omega
def sm_g1 (n m : Nat) : Nat := n - ((n / 2) &&& m)
def sm_g2 (n m : Nat) : Nat := (n &&& m) + ((n / 4) &&& m)
def sm_g3 (n m : Nat) : Nat := (n + n / 16) &&& m
theorem sm_d1 : ∀ a, a < 256 → ∀ r, r < 2 → (a / 2 + 128 * r) &&& 85 = (a / 2) &&& 85 := by decide +kernel
theorem sm_d2 : ∀ a, a < 256 → ∀ r, r < 4 → (a / 4 + 64 * r) &&& 51 = (a / 4) &&& 51 := by decide +kernel
theorem sm_d3 : ∀ a, a < 69 → ∀ r, r < 5 → (a + a / 16 + 16 * r) &&& 15 = (a + a / 16) &&& 15 := by decide +kernel
theorem sm_s1 {a : Nat} (m M : Nat) (ha : a < 256) : sm_g1 (a + 256 * m) (85 + 256 * M) = sm_g1 a 85 + 256 * sm_g1 m M := by
  unfold sm_g1
  rw [show (a + 256 * m) / 2 = (a / 2 + 128 * (m % 2)) + 256 * (m / 2) by omega, sm_and256 _ _ (by omega) (by omega), sm_d1 a ha (m % 2) (by omega)]
  have h1 : (a / 2) &&& 85 ≤ a / 2 := Nat.and_le_left
  have h2 : (m / 2) &&& M ≤ m / 2 := Nat.and_le_left
  omega
theorem sm_s2 {a : Nat} (m M : Nat) (ha : a < 256) : sm_g2 (a + 256 * m) (51 + 256 * M) = sm_g2 a 51 + 256 * sm_g2 m M := by
  unfold sm_g2
  rw [show (a + 256 * m) / 4 = (a / 4 + 64 * (m % 4)) + 256 * (m / 4) by omega, sm_and256 _ _ ha (by omega), sm_and256 _ _ (by omega) (by omega), sm_d2 a ha (m % 4) (by omega)]
  omega
theorem sm_s3 {a : Nat} (m M : Nat) (ha : a < 69) (hm : m % 16 < 5) : sm_g3 (a + 256 * m) (15 + 256 * M) = sm_g3 a 15 + 256 * sm_g3 m M := by
  unfold sm_g3
  rw [show a + 256 * m + (a + 256 * m) / 16 = (a + a / 16 + 16 * (m % 16)) + 256 * (m + m / 16) by omega, sm_and256 _ _ (by omega) (by omega), sm_d3 a ha (m % 16) hm]
theorem sm_e1 : ∀ a, a < 256 → sm_g1 a 85 < 256 ∧ sm_g2 (sm_g1 a 85) 51 < 69 ∧ sm_g2 (sm_g1 a 85) 51 % 16 < 5 ∧ sm_g3 (sm_g2 (sm_g1 a 85) 51) 15 = sm_pc (fun i => a.testBit i) 8 := by decide +kernel
theorem sm_nat (x : Int32) : x = nI x.toBitVec.toNat := by
  apply Int32.toBitVec_inj.1
  show x.toBitVec = BitVec.ofNat 32 x.toBitVec.toNat
  simp
theorem sm_ands (a b : Nat) : nI a &&& nI b = nI (a &&& b) := by
  apply Int32.toBitVec_inj.1
  show BitVec.ofNat 32 a &&& BitVec.ofNat 32 b = BitVec.ofNat 32 (a &&& b)
  apply BitVec.eq_of_getLsbD_eq
  intro i hi
  simp [hi]
theorem sm_pc8 (x : Int32) (k : Nat) : sm_pc (fun i => bt x (8 * k + i)) 8 = sm_pc (fun i => (x.toBitVec.toNat / 2 ^ (8 * k) % 256).testBit i) 8 := by
  refine sm_pc_eq 8 fun i hi => ?_
  rw [sm_btn, show (256 : Nat) = 2 ^ 8 from rfl, Nat.testBit_mod_two_pow, Nat.testBit_div_two_pow]
  simp [hi, Nat.add_comm]
theorem sm_pc32 (x : Int32) : sm_pc (bt x) 32 = sm_pc (fun i => bt x (8 * 0 + i)) 8 + sm_pc (fun i => bt x (8 * 1 + i)) 8 + sm_pc (fun i => bt x (8 * 2 + i)) 8 + sm_pc (fun i => bt x (8 * 3 + i)) 8 := by
  have e1 := sm_pc_add (bt x) 24 8
  have e2 := sm_pc_add (bt x) 16 8
  have e3 := sm_pc_add (bt x) 8 8
  have e4 : sm_pc (fun i => bt x (8 * 0 + i)) 8 = sm_pc (bt x) 8 := sm_pc_eq 8 fun i _ => by rw [Nat.mul_zero, Nat.zero_add]
  rw [e4]
  show sm_pc (bt x) (24 + 8) = _
  rw [e1]
  show sm_pc (bt x) (16 + 8) + _ = _
  rw [e2]
  show sm_pc (bt x) (8 + 8) + _ + _ = _
  rw [e3]
/-- what bitCount's code computes -/
def sm_bc (x : Int32) : Int32 :=
  let i1 := x - (sm_ushr x 1 &&& 1431655765)
  let i2 := (i1 &&& 858993459) + (sm_ushr i1 2 &&& 858993459)
  let i3 := (i2 + sm_ushr i2 4) &&& 252645135
  let i4 := i3 + sm_ushr i3 8
  let i5 := i4 + sm_ushr i4 16
  i5 &&& 63
theorem sm_un {n : Nat} (hn : n < 2 ^ 32) (s : Int32) (k : Nat) (hs : ((s.toUInt32 &&& Int32.toUInt32 31).toBitVec % 32).toNat = k) : sm_ushr (nI n) s = nI (n / 2 ^ k) := pk_ushrN hn s k hs
theorem sm_bcS {A B C D M : Nat} (p1 : A ≤ 8) (p2 : B ≤ 8) (p3 : C ≤ 8) (p4 : D ≤ 8) (hM : A + 256 * (B + 256 * (C + 256 * D)) = M) : (M + M / 256 + (M + M / 256) / 65536) % 64 = A + B + C + D := by
  have e1 : M / 256 = B + 256 * C + 65536 * D := by omega
  have e2 : (M + M / 256) / 65536 = C + D + 256 * D := by rw [e1]; omega
  rw [e2, e1]
  omega
theorem sm_bc_eq (x : Int32) : sm_bc x = nI (sm_pc (bt x) 32) := by
  obtain ⟨N, hN⟩ : ∃ N, N = x.toBitVec.toNat := ⟨_, rfl⟩
  have hlt : N < 2 ^ 32 := by rw [hN]; exact x.toBitVec.isLt
  rw [sm_pc32, sm_pc8, sm_pc8, sm_pc8, sm_pc8, ← hN]
  have hx : x = nI N := by rw [hN]; exact sm_nat x
  rw [hx]
  clear hx hN
  obtain ⟨a, ha⟩ : ∃ a, a = N / 2 ^ (8 * 0) % 256 := ⟨_, rfl⟩
  obtain ⟨b, hb⟩ : ∃ b, b = N / 2 ^ (8 * 1) % 256 := ⟨_, rfl⟩
  obtain ⟨c, hc⟩ : ∃ c, c = N / 2 ^ (8 * 2) % 256 := ⟨_, rfl⟩
  obtain ⟨d, hd⟩ : ∃ d, d = N / 2 ^ (8 * 3) % 256 := ⟨_, rfl⟩
  rw [← ha, ← hb, ← hc, ← hd]
  have hNe : N = a + 256 * (b + 256 * (c + 256 * d)) := by
    simp only [Nat.reduceMul, Nat.reducePow] at ha hb hc hd hlt
    omega
  have la : a < 256 := by rw [ha]; exact Nat.mod_lt _ (by decide)
  have lb : b < 256 := by rw [hb]; exact Nat.mod_lt _ (by decide)
  have lc : c < 256 := by rw [hc]; exact Nat.mod_lt _ (by decide)
  have ld : d < 256 := by rw [hd]; exact Nat.mod_lt _ (by decide)
  clear ha hb hc hd
  obtain ⟨a1, a2, a3, a4⟩ := sm_e1 a la
  obtain ⟨b1, b2, b3, b4⟩ := sm_e1 b lb
  obtain ⟨c1, c2, c3, c4⟩ := sm_e1 c lc
  obtain ⟨d1, d2, d3, d4⟩ := sm_e1 d ld
  have q1 : sm_g1 N 1431655765 = sm_g1 a 85 + 256 * (sm_g1 b 85 + 256 * (sm_g1 c 85 + 256 * sm_g1 d 85)) := by
    rw [hNe, show (1431655765 : Nat) = 85 + 256 * (85 + 256 * (85 + 256 * 85)) from rfl, sm_s1 _ _ la, sm_s1 _ _ lb, sm_s1 _ _ lc]
  have q2 : sm_g2 (sm_g1 N 1431655765) 858993459 = sm_g2 (sm_g1 a 85) 51 + 256 * (sm_g2 (sm_g1 b 85) 51 + 256 * (sm_g2 (sm_g1 c 85) 51 + 256 * sm_g2 (sm_g1 d 85) 51)) := by
    rw [q1, show (858993459 : Nat) = 51 + 256 * (51 + 256 * (51 + 256 * 51)) from rfl, sm_s2 _ _ a1, sm_s2 _ _ b1, sm_s2 _ _ c1]
  have q3 : sm_g3 (sm_g2 (sm_g1 N 1431655765) 858993459) 252645135 = sm_pc (fun i => a.testBit i) 8 + 256 * (sm_pc (fun i => b.testBit i) 8 + 256 * (sm_pc (fun i => c.testBit i) 8 + 256 * sm_pc (fun i => d.testBit i) 8)) := by
    rw [q2, show (252645135 : Nat) = 15 + 256 * (15 + 256 * (15 + 256 * 15)) from rfl, sm_s3 _ _ a2 (by omega), sm_s3 _ _ b2 (by omega), sm_s3 _ _ c2 d3, a4, b4, c4, d4]
  have p1 := sm_pc_le (fun i => a.testBit i) 8
  have p2 := sm_pc_le (fun i => b.testBit i) 8
  have p3 := sm_pc_le (fun i => c.testBit i) 8
  have p4 := sm_pc_le (fun i => d.testBit i) 8
  have l1 : sm_g1 N 1431655765 < 2 ^ 32 := by rw [q1]; have := (sm_e1 d ld).1; omega
  have l2 : sm_g2 (sm_g1 N 1431655765) 858993459 < 2 ^ 32 := by rw [q2]; omega
  have le1 : (N / 2) &&& 1431655765 ≤ N := Nat.le_trans Nat.and_le_left (Nat.div_le_self _ _)
  have i1 : nI N - (sm_ushr (nI N) 1 &&& 1431655765) = nI (sm_g1 N 1431655765) := by
    rw [sm_un hlt 1 1 (by decide +kernel), show (1431655765 : Int32) = nI 1431655765 from rfl, sm_ands, pk_sub le1]
    rfl
  have i2 : (nI (sm_g1 N 1431655765) &&& 858993459) + (sm_ushr (nI (sm_g1 N 1431655765)) 2 &&& 858993459) = nI (sm_g2 (sm_g1 N 1431655765) 858993459) := by
    rw [sm_un l1 2 2 (by decide +kernel), show (858993459 : Int32) = nI 858993459 from rfl, sm_ands, sm_ands, nI_add]
    rfl
  have i3 : (nI (sm_g2 (sm_g1 N 1431655765) 858993459) + sm_ushr (nI (sm_g2 (sm_g1 N 1431655765) 858993459)) 4) &&& 252645135 = nI (sm_g3 (sm_g2 (sm_g1 N 1431655765) 858993459) 252645135) := by
    rw [sm_un l2 4 4 (by decide +kernel), show (252645135 : Int32) = nI 252645135 from rfl, nI_add, sm_ands]
    rfl
  obtain ⟨A, hA⟩ : ∃ A, A = sm_pc (fun i => a.testBit i) 8 := ⟨_, rfl⟩
  obtain ⟨B, hB⟩ : ∃ B, B = sm_pc (fun i => b.testBit i) 8 := ⟨_, rfl⟩
  obtain ⟨C, hC⟩ : ∃ C, C = sm_pc (fun i => c.testBit i) 8 := ⟨_, rfl⟩
  obtain ⟨D, hD⟩ : ∃ D, D = sm_pc (fun i => d.testBit i) 8 := ⟨_, rfl⟩
  rw [← hA] at p1 q3 ⊢
  rw [← hB] at p2 q3 ⊢
  rw [← hC] at p3 q3 ⊢
  rw [← hD] at p4 q3 ⊢
  show ((_ + sm_ushr _ 8) + sm_ushr (_ + sm_ushr _ 8) 16) &&& 63 = _
  simp only [i1, i2, i3]
  rw [q3]
  generalize hM : A + 256 * (B + 256 * (C + 256 * D)) = M
  have lM : M < 2 ^ 32 := by omega
  rw [sm_un lM 8 8 (by decide +kernel), nI_add, sm_un (by omega) 16 16 (by decide +kernel), nI_add, show (63 : Int32) = nI (2 ^ 6 - 1) from rfl, sm_ands, Nat.and_two_pow_sub_one_eq_mod]
  congr 1
  simp only [Nat.reducePow]
  exact sm_bcS p1 p2 p3 p4 hM
