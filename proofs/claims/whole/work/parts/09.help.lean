/-! small rows that the walks ask for -/
theorem sm_inc (k : Nat) : nI k + Int32.ofInt 1 = nI (k + 1) := by rw [nI_succ]; rfl
theorem sm_cl (f : Nat → Int32) {n : Nat} (h : n < 2 ^ 31) : f (nI n).toNatClampNeg = f n := by rw [nI_clamp h]
theorem sm_fillS0 (f : Nat → Int32) (g : Nat → Bool) (k : Nat) : upd (sm_fill f g 0 k) k (sm_bI (g k)) = sm_fill f g 0 (k + 1) := by
  have h := sm_fillS f g 0 k
  rwa [Nat.zero_add] at h
theorem sm_orf {i c : Int32} (hi : i < 0 ∨ c ≤ i) (h : ¬ i < 0) : ¬ i < c := by
  rcases hi with h1 | h1
  · exact absurd h1 h
  · rw [Int32.lt_iff_toInt_lt]; rw [Int32.le_iff_toInt_le] at h1; omega
theorem sm_b1f {b : Bool} (h : ¬ sm_bI b = 1) : sm_bI b = 0 := by cases b <;> first | rfl | exact absurd rfl h
theorem sm_bn0 {b : Bool} (h : b = false) : sm_bI b = 0 := by subst h; rfl
theorem sm_bn1 {b : Bool} (h : b = true) : ¬ sm_bI b = 0 := by subst h; decide
theorem sm_mk_t {g : Nat → Bool} {k : Nat} (h : g k = true) : sm_mk g k ||| (1 : Int32) <<< (nI k &&& 31) = sm_mk g (k + 1) := by rw [sm_mk, if_pos h]
theorem sm_mk_n {g : Nat → Bool} {k : Nat} (h : g k = false) : sm_mk g (k + 1) = sm_mk g k := by rw [sm_mk, if_neg (by rw [h]; decide)]
theorem sm_mk_f : sm_mk (fun _ => false) 32 = 0 := sm_mkx fun i _ => (b_0 i).symm
theorem sm_pc_n {g : Nat → Bool} {k : Nat} (h : g k = false) : sm_pc g (k + 1) = sm_pc g k := by rw [sm_pc, if_neg (by rw [h]; decide)]
theorem sm_pcI {g : Nat → Bool} {k : Nat} (h : g k = true) : nI (sm_pc g k) + Int32.ofInt 1 = nI (sm_pc g (k + 1)) := by rw [sm_pc, if_pos h]; exact sm_inc _
theorem sm_en_n {g : Nat → Bool} {sg : Bool} {k : Nat} (h : g k = false) : sm_en g sg (k + 1) = sm_en g sg k := by rw [sm_en, if_neg (by rw [h]; decide)]
theorem sm_en_t1 {g : Nat → Bool} {sg : Bool} {k : Nat} (h : g k = true) (h2 : (sg && decide (k = 31)) = true) : sm_en g sg (k + 1) = sm_en g sg k + (-(sm_lshl 1 (nI k))) := by rw [sm_en, if_pos h, if_pos h2]
theorem sm_en_t0 {g : Nat → Bool} {sg : Bool} {k : Nat} (h : g k = true) (h2 : (sg && decide (k = 31)) = false) : sm_en g sg (k + 1) = sm_en g sg k + sm_lshl 1 (nI k) := by rw [sm_en, if_pos h, if_neg (by rw [h2]; decide)]
theorem sm_lt32 {n : Nat} (hn : n < 2 ^ 31) (h : nI n < 32) : n < 32 := (nI_ltI hn (by decide)).mp (show nI n < nI 32 from h)
theorem sm_le32 {n : Nat} (hn : n < 2 ^ 31) (h : ¬ nI n < 32) : 32 ≤ n := Nat.not_lt.mp fun z => h (show nI n < nI 32 from (nI_ltI hn (by decide)).mpr z)
theorem sm_nle32 {t : Nat} (ht : t ≤ 32) (h : ¬ (32 : Int32) ≤ nI t) : t < 32 := by
  rcases Nat.lt_or_ge t 32 with h1 | h1
  · exact h1
  · exact absurd (show nI 32 ≤ nI t from nI_le h1 (by omega)) h
theorem sm_frt {n k : Nat} (hn : n < 2 ^ 31) (hk : k < 32) (h : ¬ nI k < nI n) : (1 : Int32) = sm_bI (decide (n ≤ k)) := by
  rw [decide_eq_true (Nat.not_lt.mp fun z => h ((nI_ltI (by omega) hn).mpr z))]; rfl
theorem sm_frf {n k : Nat} (hn : n < 2 ^ 31) (hk : k < 32) (h : nI k < nI n) : (0 : Int32) = sm_bI (decide (n ≤ k)) := by
  have := (nI_ltI (by omega) hn).mp h
  rw [decide_eq_false (by omega)]; rfl
theorem sm_orb {x y : Int32} {k : Nat} (h : k < sm_tz (x ||| y)) : bt x k = false ∧ bt y k = false := by
  have := sm_tz_lt h
  rw [b_or] at this
  simpa using this
theorem sm_ora {x y : Int32} (h : sm_tz (x ||| y) < 32) (h2 : bt y (sm_tz (x ||| y)) = false) : bt x (sm_tz (x ||| y)) = true := by
  have := sm_tz_at h
  rw [b_or, h2] at this
  simpa using this
theorem sm_and1 (x : Int32) : x &&& 1 = sm_bI (bt x 0) := b_ext fun i hi => by
  rw [b_and, sm_b1, sm_bbI]
  by_cases h : i = 0
  · subst h; simp
  · simp [h]
theorem sm_ej1 {sg : Bool} (k : Nat) (hk : k < 32) (h1 : sg = true) (h2 : nI k = 31) : (1 : Int32) = sm_bI (sg && decide (k = 31)) := by
  have : k = 31 := (nI_eq (by omega) (by decide)).mp (show nI k = nI 31 from h2)
  rw [h1, this]; decide
theorem sm_ej2 {sg : Bool} (k : Nat) (hk : k < 32) (h2 : ¬ nI k = 31) : (0 : Int32) = sm_bI (sg && decide (k = 31)) := by
  have : ¬ k = 31 := fun z => h2 (by rw [z]; rfl)
  rw [decide_eq_false this]; simp [sm_bI]
theorem sm_ej3 {v n : Int32} {gr sg : Bool} {k : Nat} (h1 : bt n k = true) (h2 : ¬ sm_bI gr = sm_bI (sg && decide (k = 31))) : (1 : Int32) = sm_bI (sm_one v n gr sg k) := by
  unfold sm_one
  rw [if_pos h1]
  revert h2
  cases gr <;> cases (sg && decide (k = 31)) <;> intro h2 <;> first | rfl | exact absurd rfl h2
theorem sm_ej4 {v n : Int32} {gr sg : Bool} {k : Nat} (h1 : bt n k = true) (h2 : sm_bI gr = sm_bI (sg && decide (k = 31))) : (0 : Int32) = sm_bI (sm_one v n gr sg k) := by
  unfold sm_one
  rw [if_pos h1]
  revert h2
  cases gr <;> cases (sg && decide (k = 31)) <;> intro h2 <;> first | rfl | exact absurd h2 (by decide)
theorem sm_ej5 {v n : Int32} {gr sg : Bool} {k : Nat} (h1 : bt n k = false) : sm_bI (bt v k) = sm_bI (sm_one v n gr sg k) := by
  unfold sm_one
  rw [if_neg (by rw [h1]; decide)]
theorem sm_l2i (x : Int32) : x.toInt64.toInt32 = x := by simp
theorem sm_endl (v n : Int32) : (sm_en (sm_one v n false true) true 32).toInt32 = sm_le v n := by rw [sm_en_s, sm_l2i, sm_mk_le]
theorem sm_endh (v n : Int32) : (sm_en (sm_one v n true true) true 32).toInt32 = sm_he v n := by rw [sm_en_s, sm_l2i, sm_mk_he]
def sm_min (p q : Nat) : Nat := if q < p then q else p
theorem sm_minI (p q : Nat) (hp : p < 2 ^ 31) (hq : q < 2 ^ 31) : (if nI q < nI p then nI q else nI p) = nI (sm_min p q) := by
  unfold sm_min
  by_cases h : q < p
  · rw [if_pos h, if_pos ((nI_ltI hq hp).mpr h)]
  · rw [if_neg h, if_neg (fun z => h ((nI_ltI hq hp).mp z))]
/-- an octet with its shadow, bit by bit -/
def sm_oc (x : Int32) : Nat → Int32
  | 0 => 0
  | k + 1 => sm_oc x k + ((if bt x k then (1 : Int32) <<< (nI k &&& 31) else 0) + (if bt x (8 + k) then (256 : Int32) <<< (nI k &&& 31) else 0))
theorem sm_p256 : ∀ k, k < 8 → (256 : Int32) <<< (nI k &&& 31) = nI (256 * 2 ^ k) := by decide +kernel
theorem sm_oc_na (x : Int32) : ∀ k, k ≤ 8 → sm_oc x k = nI (sm_na (bt x) k + 256 * sm_na (fun i => bt x (8 + i)) k)
  | 0, _ => rfl
  | k + 1, h => by
    rw [sm_oc, sm_oc_na x k (by omega), sm_p2 k (by omega), sm_p256 k (by omega), sm_na, sm_na]
    split <;> split <;> (try rw [show (0 : Int32) = nI 0 from rfl]) <;> rw [nI_add, nI_add] <;> congr 1 <;> omega
theorem sm_na_mod (n : Nat) : ∀ k, sm_na (fun i => n.testBit i) k = n % 2 ^ k
  | 0 => by rw [Nat.pow_zero, Nat.mod_one]; rfl
  | k + 1 => by
    rw [sm_na, sm_na_mod n k, Nat.mod_pow_succ, Nat.testBit_eq_decide_div_mod_eq]
    rcases (show n / 2 ^ k % 2 = 0 ∨ n / 2 ^ k % 2 = 1 by omega) with h | h
    · rw [h]; simp
    · rw [h]; simp
theorem sm_na_eq {g h : Nat → Bool} : ∀ k, (∀ i, i < k → g i = h i) → sm_na g k = sm_na h k
  | 0, _ => rfl
  | k + 1, hh => by rw [sm_na, sm_na, hh k (by omega), sm_na_eq k (fun i hi => hh i (by omega))]
theorem sm_oc8 {x : Int32} (h : x = x &&& 65535) : sm_oc x 8 = x := by
  have hx : x = nI x.toBitVec.toNat := sm_nat x
  have hlt : x.toBitVec.toNat < 65536 := by
    rw [h, Int32.toBitVec_and, BitVec.toNat_and]
    exact Nat.lt_of_le_of_lt Nat.and_le_right (by decide)
  rw [sm_oc_na x 8 (Nat.le_refl _)]
  have e1 : sm_na (bt x) 8 = x.toBitVec.toNat % 2 ^ 8 := sm_na_mod _ 8
  have e2 : sm_na (fun i => bt x (8 + i)) 8 = x.toBitVec.toNat / 2 ^ 8 % 2 ^ 8 := by
    rw [← sm_na_mod]
    exact sm_na_eq 8 fun i _ => by rw [sm_btn, Nat.testBit_div_two_pow, Nat.add_comm]
  rw [e1, e2]
  conv => rhs; rw [hx]
  congr 1
  omega
