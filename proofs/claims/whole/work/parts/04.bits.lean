/-! Int32 by its bits (the family bt, out of kit/laws) -/
def bt (x : Int32) (i : Nat) : Bool := x.toBitVec.getLsbD i
theorem b_ext {x y : Int32} (h : ∀ i, i < 32 → bt x i = bt y i) : x = y := Int32.toBitVec_inj.mp (BitVec.eq_of_getLsbD_eq (fun i hi => h i hi))
theorem b_or (x y : Int32) (i : Nat) : bt (x ||| y) i = (bt x i || bt y i) := by unfold bt; rw [Int32.toBitVec_or, BitVec.getLsbD_or]
theorem b_and (x y : Int32) (i : Nat) : bt (x &&& y) i = (bt x i && bt y i) := by unfold bt; rw [Int32.toBitVec_and, BitVec.getLsbD_and]
theorem b_xor (x y : Int32) (i : Nat) : bt (x ^^^ y) i = (bt x i ^^ bt y i) := by unfold bt; rw [Int32.toBitVec_xor, BitVec.getLsbD_xor]
theorem b_big {x : Int32} {i : Nat} (h : 32 ≤ i) : bt x i = false := BitVec.getLsbD_of_ge _ _ h
theorem b_255 (i : Nat) : bt 255 i = decide (i < 8) := by
  rcases Nat.lt_or_ge i 32 with h | h
  · exact (by decide +kernel : ∀ i, i < 32 → bt 255 i = decide (i < 8)) i h
  · rw [b_big h, decide_eq_false (by omega)]
theorem b_65535 (i : Nat) : bt 65535 i = decide (i < 16) := by
  rcases Nat.lt_or_ge i 32 with h | h
  · exact (by decide +kernel : ∀ i, i < 32 → bt 65535 i = decide (i < 16)) i h
  · rw [b_big h, decide_eq_false (by omega)]
theorem b_m1 : ∀ i, i < 32 → bt (-1) i = true := by decide +kernel
theorem b_0 (i : Nat) : bt 0 i = false := BitVec.getLsbD_zero
theorem s_l : ∀ n, n < 32 → ((nI n &&& 31).toBitVec.smod 32).toNat = n := by decide +kernel
theorem s_u : ∀ n, n < 32 → (((nI n).toUInt32 &&& Int32.toUInt32 31).toBitVec % 32).toNat = n := by decide +kernel
theorem b_shl (n : Nat) (hn : n < 32) (x : Int32) {i : Nat} (hi : i < 32) : bt (x <<< (nI n &&& 31)) i = (decide (n ≤ i) && bt x (i - n)) := by
  unfold bt
  rw [Int32.toBitVec_shiftLeft]
  show (x.toBitVec <<< ((nI n &&& 31).toBitVec.smod 32).toNat).getLsbD i = _
  rw [s_l n hn, BitVec.getLsbD_shiftLeft]
  rcases Nat.lt_or_ge i n with h | h
  · simp [h, Nat.not_le.mpr h]
  · simp [hi, h, Nat.not_lt.mpr h]
theorem b_ushr (n : Nat) (hn : n < 32) (x : Int32) (i : Nat) : bt ((x.toUInt32 >>> ((nI n).toUInt32 &&& Int32.toUInt32 31)).toInt32) i = bt x (n + i) := by
  show (x.toUInt32 >>> ((nI n).toUInt32 &&& Int32.toUInt32 31)).toBitVec.getLsbD i = x.toUInt32.toBitVec.getLsbD (n + i)
  rw [UInt32.toBitVec_shiftRight]
  show (x.toUInt32.toBitVec >>> (((nI n).toUInt32 &&& Int32.toUInt32 31).toBitVec % 32).toNat).getLsbD i = _
  rw [s_u n hn, BitVec.getLsbD_ushiftRight]
theorem b_sshr (n : Nat) (hn : n < 32) (x : Int32) {i : Nat} (hi : i < 32) : bt (x >>> (nI n &&& 31)) i = if n + i < 32 then bt x (n + i) else bt x 31 := by
  unfold bt
  rw [Int32.toBitVec_shiftRight]
  show (x.toBitVec.sshiftRight ((nI n &&& 31).toBitVec.smod 32).toNat).getLsbD i = _
  rw [s_l n hn, BitVec.getLsbD_sshiftRight, BitVec.msb_eq_getLsbD_last]
  simp [hi]

/-! own rows on bits -/
theorem sm_b1 (i : Nat) : bt 1 i = decide (i = 0) := by
  rcases Nat.lt_or_ge i 32 with h | h
  · exact (by decide +kernel : ∀ i, i < 32 → bt 1 i = decide (i = 0)) i h
  · rw [b_big h, decide_eq_false (by omega)]
theorem sm_bbI (b : Bool) (i : Nat) : bt (sm_bI b) i = (b && decide (i = 0)) := by
  cases b
  · show bt 0 i = _
    rw [b_0]; rfl
  · show bt 1 i = _
    rw [sm_b1]; rfl
theorem sm_tst (v : Int32) {k : Nat} (hk : k < 32) : v >>> (nI k &&& 31) &&& 1 = sm_bI (bt v k) := by
  refine b_ext fun i hi => ?_
  rw [b_and, b_sshr k hk v hi, sm_b1, sm_bbI]
  by_cases h : i = 0
  · subst h
    simp [hk]
  · simp [h]
theorem sm_bnot (x : Int32) {i : Nat} (hi : i < 32) : bt (x ^^^ (-1)) i = !bt x i := by
  rw [b_xor, b_m1 i hi]; simp
theorem sm_sh1 {k : Nat} (hk : k < 32) {i : Nat} (hi : i < 32) : bt ((1 : Int32) <<< (nI k &&& 31)) i = decide (i = k) := by
  rw [b_shl k hk 1 hi, sm_b1]
  by_cases h : i = k
  · subst h; simp
  · by_cases h2 : k ≤ i
    · simp [h2, h]; omega
    · simp [h2, h]
/-- the word whose first n bits are g -/
def sm_mk (g : Nat → Bool) : Nat → Int32
  | 0 => 0
  | n + 1 => if g n then sm_mk g n ||| (1 : Int32) <<< (nI n &&& 31) else sm_mk g n
theorem sm_mkb (g : Nat → Bool) : ∀ (n : Nat), n ≤ 32 → ∀ (i : Nat), i < 32 → bt (sm_mk g n) i = (decide (i < n) && g i)
  | 0, _, i, _ => by show bt 0 i = _; rw [b_0]; simp
  | n + 1, hn, i, hi => by
    have ih := sm_mkb g n (by omega) i hi
    unfold sm_mk
    by_cases hg : g n
    · rw [if_pos hg, b_or, ih, sm_sh1 (by omega) hi]
      by_cases h : i = n
      · subst h; simp [hg]
      · by_cases h2 : i < n
        · simp [h2, h, show i < n + 1 by omega]
        · simp [h2, h, show ¬ i < n + 1 by omega]
    · rw [if_neg hg, ih]
      by_cases h : i = n
      · subst h; simp [hg]
      · by_cases h2 : i < n
        · simp [h2, show i < n + 1 by omega]
        · simp [h2, show ¬ i < n + 1 by omega]
theorem sm_mk32 (g : Nat → Bool) {i : Nat} (hi : i < 32) : bt (sm_mk g 32) i = g i := by rw [sm_mkb g 32 (Nat.le_refl _) i hi]; simp [hi]
theorem sm_mkx {g : Nat → Bool} {x : Int32} (h : ∀ i, i < 32 → g i = bt x i) : sm_mk g 32 = x := b_ext fun i hi => by rw [sm_mk32 g hi, h i hi]
/-- arrays of bits -/
def sm_fb (V : Nat → Int32) : Nat → Int32 := fun j => sm_bI (bt (V (j / 32)) (j % 32))
def sm_fo (M : Nat → Int32) : Nat → Int32 := fun j => sm_bI (bt (M (j / 8)) (j % 8))
def sm_fl (M : Nat → Int32) : Nat → Int32 := fun j => sm_bI (bt (M (j / 8)) (8 + j % 8))
def sm_fw (O : Int32) : Nat → Int32 := fun j => sm_bI (bt O j)
def sm_fill (f : Nat → Int32) (g : Nat → Bool) (a k : Nat) : Nat → Int32 := fun j => if a ≤ j ∧ j < a + k then sm_bI (g (j - a)) else f j
theorem sm_fb_at (V : Nat → Int32) {r k : Nat} (hk : k < 32) : sm_fb V (32 * r + k) = sm_bI (bt (V r) k) := by
  unfold sm_fb
  rw [show (32 * r + k) / 32 = r by omega, show (32 * r + k) % 32 = k by omega]
theorem sm_fo_at (M : Nat → Int32) {a k : Nat} (hk : k < 8) : sm_fo M (8 * a + k) = sm_bI (bt (M a) k) := by
  unfold sm_fo
  rw [show (8 * a + k) / 8 = a by omega, show (8 * a + k) % 8 = k by omega]
theorem sm_fl_at (M : Nat → Int32) {a k : Nat} (hk : k < 8) : sm_fl M (8 * a + k) = sm_bI (bt (M a) (8 + k)) := by
  unfold sm_fl
  rw [show (8 * a + k) / 8 = a by omega, show (8 * a + k) % 8 = k by omega]
theorem sm_fill0 (f : Nat → Int32) (g : Nat → Bool) (a : Nat) : sm_fill f g a 0 = f := by
  funext j
  unfold sm_fill
  rw [if_neg (by omega)]
theorem sm_fillS (f : Nat → Int32) (g : Nat → Bool) (a k : Nat) : upd (sm_fill f g a k) (a + k) (sm_bI (g k)) = sm_fill f g a (k + 1) := by
  funext j
  unfold sm_fill upd
  by_cases h : j = a + k
  · subst h
    rw [if_pos rfl, if_pos (by omega), Nat.add_sub_cancel_left]
  · rw [if_neg h]
    dsimp only
    by_cases h2 : a ≤ j ∧ j < a + k
    · rw [if_pos h2, if_pos (by omega)]
    · rw [if_neg h2, if_neg (by omega)]
theorem sm_fill_b (V : Nat → Int32) (r : Nat) (O : Int32) : sm_fill (sm_fb V) (bt O) (32 * r) 32 = sm_fb (upd V r O) := by
  funext j
  unfold sm_fill sm_fb upd
  by_cases h : 32 * r ≤ j ∧ j < 32 * r + 32
  · rw [if_pos h, if_pos (by omega), show j % 32 = j - 32 * r by omega]
  · rw [if_neg h, if_neg (by omega)]
theorem sm_fill_w (O : Int32) (g : Nat → Bool) : sm_fill (sm_fw O) g 0 32 = sm_fw (sm_mk g 32) := by
  funext j
  unfold sm_fill sm_fw
  by_cases h : j < 32
  · rw [if_pos (by omega), sm_mk32 g h, Nat.sub_zero]
  · rw [if_neg (by omega), b_big (by omega), b_big (by omega)]
/-- the lowest place that has g, from k on, of d -/
def sm_lo (g : Nat → Bool) : Nat → Nat → Nat
  | 0, k => k
  | d + 1, k => if g k then k else sm_lo g d (k + 1)
theorem sm_lo_le (g : Nat → Bool) : ∀ (d k : Nat), sm_lo g d k ≤ k + d
  | 0, k => Nat.le_refl _
  | d + 1, k => by
    have := sm_lo_le g d (k + 1)
    unfold sm_lo
    split <;> omega
theorem sm_lo_ge (g : Nat → Bool) : ∀ (d k : Nat), k ≤ sm_lo g d k
  | 0, k => Nat.le_refl _
  | d + 1, k => by
    have := sm_lo_ge g d (k + 1)
    unfold sm_lo
    split <;> omega
theorem sm_lo_lt (g : Nat → Bool) : ∀ (d k i : Nat), k ≤ i → i < sm_lo g d k → g i = false
  | 0, k, i, h1, h2 => by unfold sm_lo at h2; omega
  | d + 1, k, i, h1, h2 => by
    unfold sm_lo at h2
    by_cases hg : g k
    · rw [if_pos hg] at h2; omega
    · rw [if_neg hg] at h2
      by_cases h : i = k
      · subst h; simpa using hg
      · exact sm_lo_lt g d (k + 1) i (by omega) h2
theorem sm_lo_at (g : Nat → Bool) : ∀ (d k : Nat), sm_lo g d k < k + d → g (sm_lo g d k) = true
  | 0, k, h => by unfold sm_lo at h; omega
  | d + 1, k, h => by
    unfold sm_lo at h ⊢
    by_cases hg : g k
    · rw [if_pos hg]; exact hg
    · rw [if_neg hg] at h ⊢
      exact sm_lo_at g d (k + 1) (by omega)
def sm_tz (x : Int32) : Nat := sm_lo (bt x) 32 0
theorem sm_tz_le (x : Int32) : sm_tz x ≤ 32 := by have := sm_lo_le (bt x) 32 0; unfold sm_tz; omega
theorem sm_tz_lt {x : Int32} {i : Nat} (h : i < sm_tz x) : bt x i = false := sm_lo_lt _ _ _ _ (Nat.zero_le _) h
theorem sm_tz_at {x : Int32} (h : sm_tz x < 32) : bt x (sm_tz x) = true := sm_lo_at _ _ _ (by unfold sm_tz at h; omega)
theorem sm_tz_is {x : Int32} {n : Nat} (hn : n ≤ 32) (h1 : ∀ i, i < n → bt x i = false) (h2 : n < 32 → bt x n = true) : sm_tz x = n := by
  rcases Nat.lt_trichotomy (sm_tz x) n with h | h | h
  · have := sm_tz_at (x := x) (by omega)
    rw [h1 _ h] at this; cases this
  · exact h
  · have hl := sm_tz_le x
    have := sm_tz_lt h
    rw [h2 (by omega)] at this; cases this
theorem sm_tz_or (x y : Int32) : sm_tz (x ||| y) = if sm_tz x < sm_tz y then sm_tz x else sm_tz y := by
  have hx := sm_tz_le x
  have hy := sm_tz_le y
  refine sm_tz_is (by split <;> omega) (fun i hi => ?_) (fun hn => ?_)
  · rw [b_or, sm_tz_lt (by split at hi <;> omega), sm_tz_lt (by split at hi <;> omega)]; rfl
  · rw [b_or]
    split at hn
    · rename_i h
      rw [if_pos h, sm_tz_at (by omega)]; rfl
    · rename_i h
      rw [if_neg h, sm_tz_at (by omega)]; simp
/-- all bits from a place on -/
def sm_fr (n : Nat) : Int32 := sm_mk (fun i => decide (n ≤ i)) 32
theorem sm_fr_b (n : Nat) {i : Nat} (hi : i < 32) : bt (sm_fr n) i = decide (n ≤ i) := sm_mk32 _ hi
theorem sm_fr_eq {a b : Nat} (h : ∀ i, i < 32 → (a ≤ i ↔ b ≤ i)) : sm_fr a = sm_fr b := b_ext fun i hi => by
  rw [sm_fr_b a hi, sm_fr_b b hi]
  exact decide_eq_decide.mpr (h i hi)
theorem sm_fr_sh {n : Nat} (h : n < 32) : (-1 : Int32) <<< (nI n &&& 31) = sm_fr n := b_ext fun i hi => by
  rw [b_shl n h (-1) hi, sm_fr_b n hi]
  by_cases h2 : n ≤ i
  · rw [b_m1 _ (by omega)]; simp
  · simp [h2]
theorem sm_fr_0 {n : Nat} (h : 32 ≤ n) : sm_fr n = 0 := b_ext fun i hi => by
  rw [sm_fr_b n hi, b_0]; simp; omega
/-- how many bits -/
def sm_pc (g : Nat → Bool) : Nat → Nat
  | 0 => 0
  | n + 1 => if g n then sm_pc g n + 1 else sm_pc g n
theorem sm_pc_le (g : Nat → Bool) : ∀ n, sm_pc g n ≤ n
  | 0 => Nat.le_refl _
  | n + 1 => by
    have := sm_pc_le g n
    unfold sm_pc
    split <;> omega
theorem sm_pc_eq {g h : Nat → Bool} : ∀ n, (∀ i, i < n → g i = h i) → sm_pc g n = sm_pc h n
  | 0, _ => rfl
  | n + 1, hh => by
    unfold sm_pc
    rw [hh n (by omega), sm_pc_eq n (fun i hi => hh i (by omega))]
theorem sm_pc_add (g : Nat → Bool) (a : Nat) : ∀ b, sm_pc g (a + b) = sm_pc g a + sm_pc (fun i => g (a + i)) b
  | 0 => rfl
  | b + 1 => by
    show sm_pc g (a + b + 1) = _
    rw [sm_pc, sm_pc, sm_pc_add g a b]
    split <;> omega
