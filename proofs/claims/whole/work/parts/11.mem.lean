/-! octets: what store and load do to words -/
def sm_fil (f g : Nat → Int32) (a k : Nat) : Nat → Int32 := fun j => if a ≤ j ∧ j < a + k then g (j - a) else f j
theorem sm_fil0 (f g : Nat → Int32) (a : Nat) : sm_fil f g a 0 = f := by
  funext j
  unfold sm_fil
  rw [if_neg (by omega)]
theorem sm_filS (f g : Nat → Int32) (a k : Nat) : upd (sm_fil f g a k) (a + k) (g k) = sm_fil f g a (k + 1) := by
  funext j
  unfold sm_fil upd
  by_cases h : j = a + k
  · subst h
    rw [if_pos rfl, if_pos (by omega), Nat.add_sub_cancel_left]
  · rw [if_neg h]
    dsimp only
    by_cases h2 : a ≤ j ∧ j < a + k
    · rw [if_pos h2, if_pos (by omega)]
    · rw [if_neg h2, if_neg (by omega)]
/-- the k-th octet of a word, with its shadow above -/
def sm_by (v n : Int32) (k : Nat) : Int32 := ((sm_ushr n (nI (k * 8)) &&& 255) <<< ((8 : Int32) &&& 31)) ||| (sm_ushr v (nI (k * 8)) &&& 255)
theorem sm_by_lo (v n : Int32) {k i : Nat} (hk : k < 4) (hi : i < 8) : bt (sm_by v n k) i = bt v (8 * k + i) := by
  unfold sm_by
  rw [b_or, b_and, b_255, show ((8 : Int32) &&& 31) = (nI 8 &&& 31) from rfl, b_shl 8 (by omega) _ (by omega)]
  show ((decide (8 ≤ i) && _) || (bt ((v.toUInt32 >>> ((nI (k * 8)).toUInt32 &&& Int32.toUInt32 31)).toInt32) i && _)) = _
  rw [b_ushr (k * 8) (by omega) v i, decide_eq_true hi, decide_eq_false (by omega), Bool.and_true, Bool.false_and, Bool.false_or, Nat.mul_comm]
theorem sm_by_hi (v n : Int32) {k i : Nat} (hk : k < 4) (hi : i < 8) : bt (sm_by v n k) (8 + i) = bt n (8 * k + i) := by
  unfold sm_by
  rw [b_or, b_and, b_255, show ((8 : Int32) &&& 31) = (nI 8 &&& 31) from rfl, b_shl 8 (by omega) _ (by omega), Nat.add_sub_cancel_left, b_and, b_255]
  show ((decide (8 ≤ 8 + i) && (bt ((n.toUInt32 >>> ((nI (k * 8)).toUInt32 &&& Int32.toUInt32 31)).toInt32) i && _)) || _) = _
  rw [b_ushr (k * 8) (by omega) n i, decide_eq_true hi, decide_eq_true (by omega), decide_eq_false (by omega), Bool.and_true, Bool.and_false, Bool.true_and, Bool.or_false, Nat.mul_comm]
theorem sm_by_16 (v n : Int32) (k : Nat) : sm_by v n k = sm_by v n k &&& 65535 := by
  refine b_ext fun i hi => ?_
  rw [b_and, b_65535]
  by_cases h : i < 16
  · simp [h]
  · rw [decide_eq_false h, Bool.and_false]
    unfold sm_by
    simp only [b_or, b_and, b_255, show ((8 : Int32) &&& 31) = (nI 8 &&& 31) from rfl, b_shl 8 (by omega) _ hi]
    rw [decide_eq_false (show ¬ i - 8 < 8 by omega), decide_eq_false (show ¬ i < 8 by omega)]
    simp
theorem sm_fill_o (M : Nat → Int32) (v s : Int32) (t : Nat) {n : Nat} (hn : n ≤ 4) : sm_fill (sm_fo M) (bt v) (8 * t) (8 * n) = sm_fo (sm_fil M (sm_by v s) t n) := by
  funext j
  unfold sm_fill sm_fo sm_fil
  by_cases h : 8 * t ≤ j ∧ j < 8 * t + 8 * n
  · rw [if_pos h, if_pos (by omega), sm_by_lo v s (by omega) (by omega)]
    congr 2
    omega
  · rw [if_neg h, if_neg (by omega)]
theorem sm_fill_l (M : Nat → Int32) (v s : Int32) (t : Nat) {n : Nat} (hn : n ≤ 4) : sm_fill (sm_fl M) (bt s) (8 * t) (8 * n) = sm_fl (sm_fil M (sm_by v s) t n) := by
  funext j
  unfold sm_fill sm_fl sm_fil
  by_cases h : 8 * t ≤ j ∧ j < 8 * t + 8 * n
  · rw [if_pos h, if_pos (by omega), sm_by_hi v s (by omega) (by omega)]
    congr 2
    omega
  · rw [if_neg h, if_neg (by omega)]
/-- octets put together -/
def sm_lv (g : Nat → Int32) : Nat → Int32
  | 0 => 0
  | k + 1 => sm_lv g k ||| g k <<< (nI (k * 8) &&& 31)
theorem sm_lv_b (g : Nat → Int32) (hg : ∀ j i, 8 ≤ i → bt (g j) i = false) : ∀ n, n ≤ 4 → ∀ i, i < 32 → bt (sm_lv g n) i = (decide (i < 8 * n) && bt (g (i / 8)) (i % 8))
  | 0, _, i, _ => by show bt 0 i = _; rw [b_0]; simp
  | n + 1, hn, i, hi => by
    rw [sm_lv, b_or, sm_lv_b g hg n (by omega) i hi, b_shl (n * 8) (by omega) _ hi]
    by_cases h1 : i < 8 * n
    · rw [decide_eq_true h1, decide_eq_true (show i < 8 * (n + 1) by omega), decide_eq_false (show ¬ n * 8 ≤ i by omega)]; simp
    · rw [decide_eq_false h1]
      by_cases h2 : i < 8 * (n + 1)
      · rw [decide_eq_true h2, decide_eq_true (show n * 8 ≤ i by omega), show i / 8 = n by omega, show i % 8 = i - n * 8 by omega]; simp
      · rw [decide_eq_false h2, hg n _ (by omega)]; simp
def sm_ob (M : Nat → Int32) (j : Nat) : Bool := bt (M (j / 8)) (j % 8)
def sm_ol (M : Nat → Int32) (j : Nat) : Bool := bt (M (j / 8)) (8 + j % 8)
theorem sm_lvO (M : Nat → Int32) (t : Nat) {n i : Nat} (hn : n ≤ 4) (hi : i < 8 * n) : bt (sm_lv (fun j => M (t + j) &&& 255) n) i = sm_ob M (8 * t + i) := by
  rw [sm_lv_b _ (fun j i h => by rw [b_and, b_255, decide_eq_false (by omega), Bool.and_false]) n hn i (by omega), decide_eq_true hi, Bool.true_and, b_and, b_255, decide_eq_true (by omega), Bool.and_true]
  unfold sm_ob
  rw [show (8 * t + i) / 8 = t + i / 8 by omega, show (8 * t + i) % 8 = i % 8 by omega]
theorem sm_us8 (x : Int32) (i : Nat) : bt (sm_ushr x 8) i = bt x (8 + i) := b_ushr 8 (by omega) x i
theorem sm_lvG (M : Nat → Int32) (hM : ∀ a, M a = M a &&& 65535) (t : Nat) {n i : Nat} (hn : n ≤ 4) (hi : i < 8 * n) : bt (sm_lv (fun j => sm_ushr (M (t + j)) 8) n) i = sm_ol M (8 * t + i) := by
  rw [sm_lv_b _ (fun j i h => by rw [sm_us8, hM, b_and, b_65535, decide_eq_false (by omega), Bool.and_false]) n hn i (by omega), decide_eq_true hi, Bool.true_and, sm_us8]
  unfold sm_ol
  rw [show (8 * t + i) / 8 = t + i / 8 by omega, show (8 * t + i) % 8 = i % 8 by omega]
/-- widened with and without sign: by is 32 - 8 n -/
theorem sm_wds (x : Int32) {d i : Nat} (hd : d < 32) (hi : i < 32) : bt ((x <<< (nI d &&& 31)) >>> (nI d &&& 31)) i = if d + i < 32 then bt x i else bt x (31 - d) := by
  rw [b_sshr d hd _ hi]
  split
  · rw [b_shl d hd x (by omega), decide_eq_true (by omega), Bool.true_and, Nat.add_sub_cancel_left]
  · rw [b_shl d hd x (by omega), decide_eq_true (by omega), Bool.true_and]
theorem sm_wdu (x : Int32) {d i : Nat} (hd : d < 32) (hi : i < 32) : bt (sm_ushr (x <<< (nI d &&& 31)) (nI d)) i = (decide (d + i < 32) && bt x i) := by
  show bt (((x <<< (nI d &&& 31)).toUInt32 >>> ((nI d).toUInt32 &&& Int32.toUInt32 31)).toInt32) i = _
  rw [b_ushr d hd _ i]
  by_cases h : d + i < 32
  · rw [b_shl d hd x h, decide_eq_true (by omega), decide_eq_true h, Bool.true_and, Bool.true_and, Nat.add_sub_cancel_left]
  · rw [b_big (by omega), decide_eq_false h, Bool.false_and]
theorem sm_ldOs (M : Nat → Int32) (t n : Nat) (hn : n ≤ 4) (h0 : 0 < n) (i : Nat) (hi : i < 32) : (if i < 8 * n then sm_ob M (8 * t + i) else sm_ob M (8 * t + (8 * n - 1))) = bt ((sm_lv (fun j => M (t + j) &&& 255) n <<< (nI (32 - 8 * n) &&& 31)) >>> (nI (32 - 8 * n) &&& 31)) i := by
  rw [sm_wds _ (by omega) hi]
  by_cases h : i < 8 * n
  · rw [if_pos h, if_pos (by omega), sm_lvO M t hn h]
  · rw [if_neg h, if_neg (by omega), show 31 - (32 - 8 * n) = 8 * n - 1 by omega, sm_lvO M t hn (by omega)]
theorem sm_ldOu (M : Nat → Int32) (t n : Nat) (hn : n ≤ 4) (h0 : 0 < n) (i : Nat) (hi : i < 32) : (if i < 8 * n then sm_ob M (8 * t + i) else false) = bt (sm_ushr (sm_lv (fun j => M (t + j) &&& 255) n <<< (nI (32 - 8 * n) &&& 31)) (nI (32 - 8 * n))) i := by
  rw [sm_wdu _ (by omega) hi]
  by_cases h : i < 8 * n
  · rw [if_pos h, decide_eq_true (by omega), Bool.true_and, sm_lvO M t hn h]
  · rw [if_neg h, decide_eq_false (by omega), Bool.false_and]
theorem sm_ldGs (M : Nat → Int32) (hM : ∀ a, M a = M a &&& 65535) (t n : Nat) (hn : n ≤ 4) (h0 : 0 < n) (i : Nat) (hi : i < 32) : (if i < 8 * n then sm_ol M (8 * t + i) else sm_ol M (8 * t + (8 * n - 1))) = bt ((sm_lv (fun j => sm_ushr (M (t + j)) 8) n <<< (nI (32 - 8 * n) &&& 31)) >>> (nI (32 - 8 * n) &&& 31)) i := by
  rw [sm_wds _ (by omega) hi]
  by_cases h : i < 8 * n
  · rw [if_pos h, if_pos (by omega), sm_lvG M hM t hn h]
  · rw [if_neg h, if_neg (by omega), show 31 - (32 - 8 * n) = 8 * n - 1 by omega, sm_lvG M hM t hn (by omega)]
theorem sm_ldGu (M : Nat → Int32) (hM : ∀ a, M a = M a &&& 65535) (t n : Nat) (hn : n ≤ 4) (h0 : 0 < n) (i : Nat) (hi : i < 32) : (if i < 8 * n then sm_ol M (8 * t + i) else false) = bt (sm_ushr (sm_lv (fun j => sm_ushr (M (t + j)) 8) n <<< (nI (32 - 8 * n) &&& 31)) (nI (32 - 8 * n))) i := by
  rw [sm_wdu _ (by omega) hi]
  by_cases h : i < 8 * n
  · rw [if_pos h, decide_eq_true (by omega), Bool.true_and, sm_lvG M hM t hn h]
  · rw [if_neg h, decide_eq_false (by omega), Bool.false_and]
/-- all registers' bits -/
def sm_cn (S : Nat → Int32) : Nat → Nat
  | 0 => 0
  | k + 1 => sm_cn S k + sm_pc (bt (S k)) 32
theorem sm_cn_pc (S : Nat → Int32) : ∀ k, sm_pc (fun j => bt (S (j / 32)) (j % 32)) (32 * k) = sm_cn S k
  | 0 => rfl
  | k + 1 => by
    rw [show 32 * (k + 1) = 32 * k + 32 by omega, sm_pc_add, sm_cn_pc S k, sm_cn]
    congr 1
    exact sm_pc_eq 32 fun i hi => by rw [show (32 * k + i) / 32 = k by omega, show (32 * k + i) % 32 = i by omega]
