/-! ends of what a word can be; the two orders -/
theorem sm_ors (a b : Nat) : nI a ||| nI b = nI (a ||| b) := by
  apply Int32.toBitVec_inj.1
  show BitVec.ofNat 32 a ||| BitVec.ofNat 32 b = BitVec.ofNat 32 (a ||| b)
  apply BitVec.eq_of_getLsbD_eq
  intro i hi
  simp [hi]
def sm_na (g : Nat → Bool) : Nat → Nat
  | 0 => 0
  | k + 1 => if g k then sm_na g k + 2 ^ k else sm_na g k
theorem sm_na_lt (g : Nat → Bool) : ∀ k, sm_na g k < 2 ^ k
  | 0 => by show 0 < 1; omega
  | k + 1 => by
    have := sm_na_lt g k
    unfold sm_na
    rw [Nat.pow_succ]
    split <;> omega
theorem sm_p2 : ∀ k, k < 32 → (1 : Int32) <<< (nI k &&& 31) = nI (2 ^ k) := by decide +kernel
theorem sm_p2l : ∀ k, k < 32 → sm_lshl 1 (nI k) = lN (2 ^ k) := by decide +kernel
theorem sm_mk_na (g : Nat → Bool) : ∀ k, k ≤ 32 → sm_mk g k = nI (sm_na g k)
  | 0, _ => rfl
  | k + 1, h => by
    have hl := sm_na_lt g k
    have e : sm_na g k ||| 2 ^ k = sm_na g k + 2 ^ k := by
      have := Nat.two_pow_add_eq_or_of_lt hl 1
      rw [Nat.mul_one] at this
      rw [Nat.or_comm, ← this, Nat.add_comm]
    unfold sm_mk sm_na
    split
    · rw [sm_mk_na g k (by omega), sm_p2 k (by omega), sm_ors, e]
    · exact sm_mk_na g k (by omega)
theorem sm_nIn {n : Nat} (h : n < 2 ^ 32) : (nI n).toBitVec.toNat = n := pk_tn h
/-- the sum that 'end' makes -/
def sm_en (g : Nat → Bool) (sg : Bool) : Nat → Int64
  | 0 => 0
  | k + 1 => if g k then sm_en g sg k + (if sg && decide (k = 31) then -(sm_lshl 1 (nI k)) else sm_lshl 1 (nI k)) else sm_en g sg k
theorem sm_en_na (g : Nat → Bool) (sg : Bool) : ∀ k, k ≤ 32 → (sg = true → k ≤ 31) → sm_en g sg k = lN (sm_na g k)
  | 0, _, _ => by show (0 : Int64) = lN 0; decide +kernel
  | k + 1, h, hs => by
    have ih := sm_en_na g sg k (by omega) (fun z => by have := hs z; omega)
    unfold sm_en sm_na
    have hc : (sg && decide (k = 31)) = false := by
      cases sg
      · rfl
      · have := hs rfl
        simp; omega
    rw [hc, ih, sm_p2l k (by omega)]
    simp only [Bool.false_eq_true, if_false]
    split
    · rw [lN_add]
    · rfl
theorem sm_en_u (g : Nat → Bool) : sm_en g false 32 = lN (sm_mk g 32).toBitVec.toNat := by
  rw [sm_en_na g false 32 (Nat.le_refl _) (fun z => by cases z), sm_mk_na g 32 (Nat.le_refl _), sm_nIn (sm_na_lt g 32)]
theorem sm_lNt {n : Nat} (h : n < 2 ^ 63) : (lN n).toInt = (n : Int) := pk_lT h
theorem sm_en_s (g : Nat → Bool) : sm_en g true 32 = (sm_mk g 32).toInt64 := by
  have ih := sm_en_na g true 31 (by omega) (fun _ => Nat.le_refl _)
  have hl := sm_na_lt g 31
  have hm := sm_mk_na g 32 (Nat.le_refl _)
  have e1 : sm_en g true 32 = if g 31 then sm_en g true 31 + (if true && decide (31 = 31) then -(sm_lshl 1 (nI 31)) else sm_lshl 1 (nI 31)) else sm_en g true 31 := rfl
  have e2 : sm_na g 32 = if g 31 then sm_na g 31 + 2 ^ 31 else sm_na g 31 := rfl
  rw [e1, hm, e2, ih]
  simp only [decide_true, Bool.and_self, if_true]
  generalize sm_na g 31 = n at hl
  by_cases hg : g 31
  · rw [if_pos hg, if_pos hg]
    apply Int64.toInt_inj.1
    rw [Int32.toInt_toInt64, sm_p2l 31 (by omega), Int64.toInt_add, Int64.toInt_neg, sm_lNt (by omega), sm_lNt (by omega)]
    have h3 : (nI (n + 2 ^ 31)).toInt = (n : Int) - 2 ^ 31 := by
      show (BitVec.ofNat 32 (n + 2 ^ 31)).toInt = _
      rw [BitVec.toInt_eq_toNat_bmod, BitVec.toNat_ofNat]
      simp only [Int.bmod]
      omega
    rw [h3]
    simp only [Int.bmod]
    omega
  · rw [if_neg hg, if_neg hg]
    exact (nI_l (by omega)).symm
/-- what a bit is at an end -/
def sm_one (v n : Int32) (gr sg : Bool) (k : Nat) : Bool := if bt n k then (gr != (sg && decide (k = 31))) else bt v k
theorem sm_bmin (i : Nat) (hi : i < 32) : bt (-2147483648) i = decide (i = 31) := (by decide +kernel : ∀ i, i < 32 → bt (-2147483648) i = decide (i = 31)) i hi
theorem sm_bmax (i : Nat) (hi : i < 32) : bt 2147483647 i = decide (i < 31) := (by decide +kernel : ∀ i, i < 32 → bt 2147483647 i = decide (i < 31)) i hi
def sm_le (v n : Int32) : Int32 := (v &&& (n ^^^ (-1))) ||| (n &&& (-2147483648))
def sm_he (v n : Int32) : Int32 := (v &&& (n ^^^ (-1))) ||| (n &&& 2147483647)
theorem sm_le_b (v n : Int32) {i : Nat} (hi : i < 32) : bt (sm_le v n) i = sm_one v n false true i := by
  unfold sm_le sm_one
  rw [b_or, b_and, sm_bnot n hi, b_and, sm_bmin i hi]
  cases bt v i <;> cases bt n i <;> by_cases h : i = 31 <;> simp [h]
theorem sm_he_b (v n : Int32) {i : Nat} (hi : i < 32) : bt (sm_he v n) i = sm_one v n true true i := by
  unfold sm_he sm_one
  rw [b_or, b_and, sm_bnot n hi, b_and, sm_bmax i hi]
  cases bt v i <;> cases bt n i <;> by_cases h : i = 31 <;> simp [h] <;> omega
theorem sm_mk_le (v n : Int32) : sm_mk (sm_one v n false true) 32 = sm_le v n := sm_mkx fun i hi => (sm_le_b v n hi).symm
theorem sm_mk_he (v n : Int32) : sm_mk (sm_one v n true true) 32 = sm_he v n := sm_mkx fun i hi => (sm_he_b v n hi).symm
/-- without sign: the ends with the sign turned over -/
theorem sm_mk_ul (v n : Int32) : sm_mk (sm_one v n false false) 32 = sm_le (v ^^^ (-2147483648)) n ^^^ (-2147483648) := sm_mkx fun i hi => by
  rw [b_xor, sm_le_b _ n hi, sm_bmin i hi]
  unfold sm_one
  rw [b_xor, sm_bmin i hi]
  cases bt v i <;> cases bt n i <;> by_cases h : i = 31 <;> simp [h]
theorem sm_mk_uh (v n : Int32) : sm_mk (sm_one v n true false) 32 = sm_he (v ^^^ (-2147483648)) n ^^^ (-2147483648) := sm_mkx fun i hi => by
  rw [b_xor, sm_he_b _ n hi, sm_bmin i hi]
  unfold sm_one
  rw [b_xor, sm_bmin i hi]
  cases bt v i <;> cases bt n i <;> by_cases h : i = 31 <;> simp [h]
theorem sm_lt64 (x y : Int32) : x.toInt64 < y.toInt64 ↔ x < y := by
  rw [Int64.lt_iff_toInt_lt, Int32.toInt_toInt64, Int32.toInt_toInt64, Int32.lt_iff_toInt_lt]
theorem sm_x31 {a : Nat} (h : a < 2 ^ 32) : a ^^^ (2147483648 % 2 ^ 32) = (a + 2 ^ 31) % 2 ^ 32 := by
  show a ^^^ 2 ^ 31 = (a + 2 ^ 31) % 2 ^ 32
  have h1 : (a ^^^ 2 ^ 31) % 2 ^ 31 = a % 2 ^ 31 := by rw [Nat.xor_mod_two_pow, Nat.mod_self, Nat.xor_zero]
  have h2 : (a ^^^ 2 ^ 31) / 2 ^ 31 = (a / 2 ^ 31) ^^^ 1 := by rw [Nat.xor_div_two_pow, Nat.div_self (Nat.two_pow_pos 31)]
  have h3 : a / 2 ^ 31 = 0 ∨ a / 2 ^ 31 = 1 := by omega
  generalize a ^^^ 2 ^ 31 = t at h1 h2
  rcases h3 with h3 | h3
  · rw [h3] at h2
    have h2 : t / 2 ^ 31 = 1 := h2
    omega
  · rw [h3] at h2
    have h2 : t / 2 ^ 31 = 0 := h2
    omega
theorem sm_sgn (x : Int32) : (x ^^^ (-2147483648)).toInt = (x.toBitVec.toNat : Int) - 2 ^ 31 := by
  have hx : x = nI x.toBitVec.toNat := sm_nat x
  have hlt := x.toBitVec.isLt
  generalize x.toBitVec.toNat = n at hx hlt
  subst hx
  have e : nI n ^^^ (-2147483648) = nI (n + 2 ^ 31) := by
    apply Int32.toBitVec_inj.1
    apply BitVec.eq_of_toNat_eq
    show (BitVec.ofNat 32 n ^^^ 2147483648#32).toNat = (BitVec.ofNat 32 (n + 2 ^ 31)).toNat
    rw [BitVec.toNat_xor, BitVec.toNat_ofNat, BitVec.toNat_ofNat, BitVec.toNat_ofNat, Nat.mod_eq_of_lt hlt]
    exact sm_x31 hlt
  rw [e]
  show (BitVec.ofNat 32 (n + 2 ^ 31)).toInt = _
  rw [BitVec.toInt_eq_toNat_bmod, BitVec.toNat_ofNat]
  simp only [Int.bmod]
  omega
theorem sm_ult (x y : Int32) : lN (x ^^^ (-2147483648)).toBitVec.toNat < lN (y ^^^ (-2147483648)).toBitVec.toNat ↔ x < y := by
  have e : ∀ z : Int32, z ^^^ (-2147483648) ^^^ (-2147483648) = z := fun z => b_ext fun i hi => by rw [b_xor, b_xor]; simp
  have h1 := sm_sgn (x ^^^ (-2147483648))
  have h2 := sm_sgn (y ^^^ (-2147483648))
  have l1 := (x ^^^ (-2147483648)).toBitVec.isLt
  have l2 := (y ^^^ (-2147483648)).toBitVec.isLt
  rw [e] at h1 h2
  rw [pk_lLT (by omega) (by omega), Int32.lt_iff_toInt_lt, h1, h2]
  omega
