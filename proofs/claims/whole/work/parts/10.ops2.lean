/-! rows that the reference's op asks for -/
theorem sm_shb5 {n : Nat} (hn : n < 32) (x : Int32) (i : Nat) (hi : i < 32) : (decide (n ≤ i) && bt x (i - n)) = bt (x <<< (nI n &&& 31)) i := (b_shl n hn x hi).symm
theorem sm_shb6 {n : Nat} (hn : n < 32) (x : Int32) (i : Nat) (_ : i < 32) : bt x (n + i) = bt (sm_ushr x (nI n)) i := (b_ushr n hn x i).symm
theorem sm_shb7 {n : Nat} (hn : n < 32) (x : Int32) (i : Nat) (hi : i < 32) : (if n + i < 32 then bt x (n + i) else bt x 31) = bt (x >>> (nI n &&& 31)) i := (b_sshr n hn x hi).symm
theorem sm_shz {x : Int32} {n : Nat} (h : 32 ≤ n) : (0 : Int32) = sm_bI (bt x n) := by rw [b_big h]; rfl
theorem sm_fr_all : sm_fr 0 = -1 := b_ext fun i hi => by rw [sm_fr_b 0 hi, b_m1 i hi]; simp
def sm_kn (g : Nat → Bool) : Nat → Bool
  | 0 => true
  | k + 1 => if g k then false else sm_kn g k
theorem sm_kn_t {g : Nat → Bool} {k : Nat} (h : g k = true) : sm_kn g (k + 1) = false := by rw [sm_kn, if_pos h]
theorem sm_kn_n {g : Nat → Bool} {k : Nat} (h : g k = false) : sm_kn g (k + 1) = sm_kn g k := by rw [sm_kn, if_neg (by rw [h]; decide)]
theorem sm_kn_iff (g : Nat → Bool) : ∀ n, sm_kn g n = true ↔ ∀ i, i < n → g i = false
  | 0 => by simp [sm_kn]
  | n + 1 => by
    rw [sm_kn]
    by_cases h : g n
    · rw [if_pos h]
      constructor
      · intro z; cases z
      · intro z; have := z n (by omega); rw [h] at this; cases this
    · rw [if_neg h, sm_kn_iff g n]
      constructor
      · intro z i hi
        by_cases h2 : i = n
        · subst h2; simpa using h
        · exact z i (by omega)
      · intro z i hi; exact z i (by omega)
theorem sm_b31 (i : Nat) : bt 31 i = decide (i < 5) := by
  rcases Nat.lt_or_ge i 32 with h | h
  · exact (by decide +kernel : ∀ i, i < 32 → bt 31 i = decide (i < 5)) i h
  · rw [b_big h, decide_eq_false (by omega)]
theorem sm_and31 {x : Int32} : x &&& 31 = 0 ↔ ∀ i, i < 5 → bt x i = false := by
  constructor
  · intro h i hi
    have h1 : bt (x &&& 31) i = false := by rw [h, b_0]
    rw [b_and, sm_b31, decide_eq_true hi, Bool.and_true] at h1
    exact h1
  · intro h
    refine b_ext fun i _ => ?_
    rw [b_and, sm_b31, b_0]
    by_cases hi : i < 5
    · rw [h i hi]; rfl
    · simp [hi]
theorem sm_kn5 {x : Int32} (h : sm_kn (bt x) 5 = true) : x &&& 31 = 0 := sm_and31.mpr ((sm_kn_iff _ 5).mp h)
theorem sm_kn5n {x : Int32} (h : sm_kn (bt x) 5 = false) : ¬ x &&& 31 = 0 := fun z => by
  rw [(sm_kn_iff _ 5).mpr (sm_and31.mp z)] at h; cases h
theorem sm_chv (x y z : Int32) (i : Nat) (_ : i < 32) : (if bt y 0 then bt x i else bt z i) = bt (if bt y 0 then x else z) i := by split <;> rfl
theorem sm_chs (x y z nx ny nz : Int32) (i : Nat) (_ : i < 32) : (if bt ny 0 then (bt nx i || bt nz i || (bt x i != bt z i)) else if bt y 0 then bt nx i else bt nz i) = bt (if bt ny 0 then nx ||| nz ||| (x ^^^ z) else if bt y 0 then nx else nz) i := by
  split
  · rw [b_or, b_or, b_xor]
  · split <;> rfl
theorem sm_low1 {x y : Int32} (h : ¬ nI (sm_tz y) ≤ nI (sm_tz x)) : nI (sm_tz x) = nI (sm_tz (x ||| y)) := by
  have hx := sm_tz_le x
  have hy := sm_tz_le y
  rw [nI_leI (by omega) (by omega)] at h
  rw [sm_tz_or, if_pos (by omega)]
theorem sm_low2 {x y : Int32} (h : nI (sm_tz y) ≤ nI (sm_tz x)) : nI (sm_tz y) = nI (sm_tz (x ||| y)) := by
  have hx := sm_tz_le x
  have hy := sm_tz_le y
  rw [nI_leI (by omega) (by omega)] at h
  rw [sm_tz_or, if_neg (by omega)]
theorem sm_gb2 (x y nx ny : Int32) {k : Nat} (_ : k < 32) : bt ((nx ||| ny) &&& (nx ||| x) &&& (ny ||| y)) k = ((bt nx k || bt ny k) && (bt nx k || bt x k) && (bt ny k || bt y k)) := by rw [b_and, b_and, b_or, b_or, b_or]
theorem sm_gb3 (x y nx ny : Int32) {k : Nat} (hk : k < 32) : bt ((nx ||| ny) &&& (nx ||| (x ^^^ (-1))) &&& (ny ||| (y ^^^ (-1)))) k = ((bt nx k || bt ny k) && (bt nx k || !bt x k) && (bt ny k || !bt y k)) := by rw [b_and, b_and, b_or, b_or, b_or, sm_bnot x hk, sm_bnot y hk]
theorem sm_gb4 (_x _y nx ny : Int32) {k : Nat} (_ : k < 32) : bt (nx ||| ny) k = (bt nx k || bt ny k) := b_or nx ny k
theorem sm_by2t {s v : Bool} (h1 : s = false) (h2 : sm_bI v = 0) : (1 : Int32) = sm_bI (!s && !v) := by rw [h1, sm_bI0 h2]; rfl
theorem sm_by2f {s v : Bool} (h1 : s = false) (h2 : ¬ sm_bI v = 0) : (0 : Int32) = sm_bI (!s && !v) := by rw [h1, sm_bI1 h2]; rfl
theorem sm_by3t {s v : Bool} (h1 : s = false) (h2 : sm_bI v = 1) : (1 : Int32) = sm_bI (!s && v) := by
  cases v
  · exact absurd h2 (by decide)
  · rw [h1]; rfl
theorem sm_by3f {s v : Bool} (h1 : s = false) (h2 : ¬ sm_bI v = 1) : (0 : Int32) = sm_bI (!s && v) := by
  cases v
  · rw [h1]; rfl
  · exact absurd rfl h2
def sm_mp (x y : Nat) : Nat := if x = 32 ∨ y = 32 then 32 else x + y
theorem sm_mp_le (x y : Nat) : sm_mp x y ≤ x + y + 32 := by unfold sm_mp; split <;> omega
theorem sm_mp1 {x y : Nat} (hx : x ≤ 32) (h : nI x = 32) : (32 : Int32) = nI (sm_mp x y) := by
  have : x = 32 := (nI_eq (by omega) (by decide)).mp (show nI x = nI 32 from h)
  unfold sm_mp; rw [if_pos (Or.inl this)]; rfl
theorem sm_mp2 {x y : Nat} (hy : y ≤ 32) (_ : ¬ nI x = 32) (h : nI y = 32) : (32 : Int32) = nI (sm_mp x y) := by
  have : y = 32 := (nI_eq (by omega) (by decide)).mp (show nI y = nI 32 from h)
  unfold sm_mp; rw [if_pos (Or.inr this)]; rfl
theorem sm_mp3 {x y : Nat} (h1 : ¬ nI x = 32) (h2 : ¬ nI y = 32) : nI (x + y) = nI (sm_mp x y) := by
  unfold sm_mp
  rw [if_neg]
  rintro (h | h)
  · exact h1 (by rw [h]; rfl)
  · exact h2 (by rw [h]; rfl)
def sm_mn (p q : Nat) : Nat := if p < q then p else q
theorem sm_mn_le (p q : Nat) : sm_mn p q ≤ p := by unfold sm_mn; split <;> omega
theorem sm_mn1 {p q : Nat} (hp : p < 2 ^ 31) (hq : q < 2 ^ 31) (h : ¬ nI q ≤ nI p) : nI p = nI (sm_mn p q) := by
  rw [nI_leI hq hp] at h
  unfold sm_mn; rw [if_pos (by omega)]
theorem sm_mn0 {p q : Nat} (hp : p < 2 ^ 31) (hq : q < 2 ^ 31) (h : nI q ≤ nI p) : nI q = nI (sm_mn p q) := by
  rw [nI_leI hq hp] at h
  unfold sm_mn; rw [if_neg (by omega)]
theorem sm_mul8 {a b c d : Nat} (ha : a ≤ 32) (hb : b ≤ 32) (hc : c ≤ 32) (hd : d ≤ 32) : sm_fr (sm_mn (sm_mp a b) (sm_mp c d)) = sm_fr (sm_min (a + b) (c + d)) := sm_fr_eq fun i hi => by
  unfold sm_mn sm_mp sm_min
  split <;> split <;> (try split) <;> (try split) <;> omega
theorem sm_g0 (q : Bool) : upd (sm_fw 0) (0 : Int32).toNatClampNeg (sm_bI q) = sm_fw (sm_bI q) := by
  funext j
  rw [sb_cl0]
  unfold upd sm_fw
  rw [sm_bbI]
  by_cases h : j = 0
  · subst h; simp
  · rw [if_neg h, b_0]; simp [h]
theorem sm_l9t {x y : Int32} (h : ¬ y ≤ x) : (1 : Int32) = sm_bI (decide (x < y)) := by rw [decide_eq_true (Int32.not_le.mp h)]; rfl
theorem sm_l9f {x y : Int32} (h : y ≤ x) : (0 : Int32) = sm_bI (decide (x < y)) := by rw [decide_eq_false (Int32.not_lt.mpr h)]; rfl
theorem sm_lo32 (x : Int32) : x.toInt64 &&& 4294967295 = lN x.toBitVec.toNat := by
  apply Int64.toBitVec_inj.1
  rw [Int64.toBitVec_and]
  show x.toBitVec.signExtend 64 &&& 4294967295#64 = BitVec.ofNat 64 x.toBitVec.toNat
  have e : (4294967295#64 : BitVec 64) = BitVec.setWidth 64 (BitVec.allOnes 32) := by decide +kernel
  have e2 : BitVec.ofNat 64 x.toBitVec.toNat = x.toBitVec.setWidth 64 := by
    apply BitVec.eq_of_toNat_eq; simp
  rw [e, e2]
  apply BitVec.eq_of_getLsbD_eq
  intro i hi
  rw [BitVec.getLsbD_and, BitVec.getLsbD_signExtend, BitVec.getLsbD_setWidth, BitVec.getLsbD_setWidth, BitVec.getLsbD_allOnes]
  by_cases h : i < 32
  · simp [hi, h]
  · simp [h, BitVec.getLsbD_of_ge x.toBitVec i (by omega)]
theorem sm_xx (x : Int32) : x ^^^ (-2147483648) ^^^ (-2147483648) = x := b_ext fun i hi => by rw [b_xor, b_xor]; simp
theorem sm_ult2 (x y : Int32) : lN x.toBitVec.toNat < lN y.toBitVec.toNat ↔ x ^^^ (-2147483648) < y ^^^ (-2147483648) := by
  have h := sm_ult (x ^^^ (-2147483648)) (y ^^^ (-2147483648))
  rwa [sm_xx, sm_xx] at h
theorem sm_l10t {x y : Int32} (h : ¬ 0 ≤ lg_cmp (x.toInt64 &&& 4294967295) (y.toInt64 &&& 4294967295)) : (1 : Int32) = sm_bI (decide (x ^^^ (-2147483648) < y ^^^ (-2147483648))) := by
  rw [lg_cmp_ge, sm_lo32, sm_lo32, Int64.not_le, sm_ult2] at h
  rw [decide_eq_true h]; rfl
theorem sm_l10f {x y : Int32} (h : 0 ≤ lg_cmp (x.toInt64 &&& 4294967295) (y.toInt64 &&& 4294967295)) : (0 : Int32) = sm_bI (decide (x ^^^ (-2147483648) < y ^^^ (-2147483648))) := by
  rw [lg_cmp_ge, sm_lo32, sm_lo32] at h
  rw [decide_eq_false (fun z => absurd h (Int64.not_le.mpr ((sm_ult2 x y).mpr z)))]; rfl
/-- the order hangs on what isn't given: both ends -/
theorem sm_oc1 {p q : Bool} (h : p = false) : (0 : Int32) = sm_bI (q && p) := by rw [h]; cases q <;> rfl
theorem sm_oc2 {p q : Bool} (h : q = false) : (0 : Int32) = sm_bI (q && p) := by rw [h]; rfl
theorem sm_oc3 {p q : Bool} (h : p = true) (h2 : q = true) : (1 : Int32) = sm_bI (q && p) := by rw [h, h2]; rfl
theorem sm_o9f {x nx y ny : Int32} (h : lg_cmp (sm_en (sm_one x nx true true) true 32) (sm_en (sm_one y ny false true) true 32) < 0) : (0 : Int32) = sm_bI (decide (sm_le x nx < sm_he y ny) && decide (sm_le y ny ≤ sm_he x nx)) := by
  rw [lg_cmp_lt, sm_en_s, sm_en_s, sm_lt64, sm_mk_he, sm_mk_le] at h
  exact sm_oc1 (decide_eq_false (Int32.not_le.mpr h))
theorem sm_o9g {x nx y ny : Int32} (_ : ¬ lg_cmp (sm_en (sm_one x nx true true) true 32) (sm_en (sm_one y ny false true) true 32) < 0) (h : 0 ≤ lg_cmp (sm_en (sm_one x nx false true) true 32) (sm_en (sm_one y ny true true) true 32)) : (0 : Int32) = sm_bI (decide (sm_le x nx < sm_he y ny) && decide (sm_le y ny ≤ sm_he x nx)) := by
  rw [lg_cmp_ge, sm_en_s, sm_en_s, ← Int64.not_lt, sm_lt64, sm_mk_he, sm_mk_le] at h
  exact sm_oc2 (decide_eq_false h)
theorem sm_o9t {x nx y ny : Int32} (h1 : ¬ lg_cmp (sm_en (sm_one x nx true true) true 32) (sm_en (sm_one y ny false true) true 32) < 0) (h : ¬ 0 ≤ lg_cmp (sm_en (sm_one x nx false true) true 32) (sm_en (sm_one y ny true true) true 32)) : (1 : Int32) = sm_bI (decide (sm_le x nx < sm_he y ny) && decide (sm_le y ny ≤ sm_he x nx)) := by
  rw [lg_cmp_lt, sm_en_s, sm_en_s, sm_lt64, sm_mk_he, sm_mk_le] at h1
  rw [lg_cmp_ge, sm_en_s, sm_en_s, Int64.not_le, sm_lt64, sm_mk_he, sm_mk_le] at h
  exact sm_oc3 (decide_eq_true (Int32.not_lt.mp h1)) (decide_eq_true h)
theorem sm_o10f {x nx y ny : Int32} (h : lg_cmp (sm_en (sm_one x nx true false) false 32) (sm_en (sm_one y ny false false) false 32) < 0) : (0 : Int32) = sm_bI (decide (sm_le (x ^^^ (-2147483648)) nx < sm_he (y ^^^ (-2147483648)) ny) && decide (sm_le (y ^^^ (-2147483648)) ny ≤ sm_he (x ^^^ (-2147483648)) nx)) := by
  rw [lg_cmp_lt, sm_en_u, sm_en_u, sm_mk_uh, sm_mk_ul, sm_ult] at h
  exact sm_oc1 (decide_eq_false (Int32.not_le.mpr h))
theorem sm_o10g {x nx y ny : Int32} (_ : ¬ lg_cmp (sm_en (sm_one x nx true false) false 32) (sm_en (sm_one y ny false false) false 32) < 0) (h : 0 ≤ lg_cmp (sm_en (sm_one x nx false false) false 32) (sm_en (sm_one y ny true false) false 32)) : (0 : Int32) = sm_bI (decide (sm_le (x ^^^ (-2147483648)) nx < sm_he (y ^^^ (-2147483648)) ny) && decide (sm_le (y ^^^ (-2147483648)) ny ≤ sm_he (x ^^^ (-2147483648)) nx)) := by
  rw [lg_cmp_ge, sm_en_u, sm_en_u, ← Int64.not_lt, sm_mk_uh, sm_mk_ul, sm_ult] at h
  exact sm_oc2 (decide_eq_false h)
theorem sm_o10t {x nx y ny : Int32} (h1 : ¬ lg_cmp (sm_en (sm_one x nx true false) false 32) (sm_en (sm_one y ny false false) false 32) < 0) (h : ¬ 0 ≤ lg_cmp (sm_en (sm_one x nx false false) false 32) (sm_en (sm_one y ny true false) false 32)) : (1 : Int32) = sm_bI (decide (sm_le (x ^^^ (-2147483648)) nx < sm_he (y ^^^ (-2147483648)) ny) && decide (sm_le (y ^^^ (-2147483648)) ny ≤ sm_he (x ^^^ (-2147483648)) nx)) := by
  rw [lg_cmp_lt, sm_en_u, sm_en_u, sm_mk_uh, sm_mk_ul, sm_ult] at h1
  rw [lg_cmp_ge, sm_en_u, sm_en_u, Int64.not_le, sm_mk_uh, sm_mk_ul, sm_ult] at h
  exact sm_oc3 (decide_eq_true (Int32.not_lt.mp h1)) (decide_eq_true h)
def sm_any (g : Nat → Bool) : Nat → Bool
  | 0 => false
  | k + 1 => if g k then true else sm_any g k
theorem sm_any_iff (g : Nat → Bool) : ∀ n, sm_any g n = false ↔ ∀ i, i < n → g i = false
  | 0 => by simp [sm_any]
  | n + 1 => by
    rw [sm_any]
    by_cases h : g n
    · rw [if_pos h]
      constructor
      · intro z; cases z
      · intro z; have := z n (by omega); rw [h] at this; cases this
    · rw [if_neg h, sm_any_iff g n]
      constructor
      · intro z i hi
        by_cases h2 : i = n
        · subst h2; simpa using h
        · exact z i (by omega)
      · intro z i hi; exact z i (by omega)
theorem sm_any_t {g : Nat → Bool} {k : Nat} (h : g k = true) : sm_any g (k + 1) = true := by rw [sm_any, if_pos h]
theorem sm_any_n {g : Nat → Bool} {k : Nat} (h : g k = false) : sm_any g (k + 1) = sm_any g k := by rw [sm_any, if_neg (by rw [h]; decide)]
theorem sm_an1 {x y nx ny : Int32} {k : Nat} (h : bt nx k = true) : sm_bI (sm_any (fun i => !(bt nx i || bt ny i) && (bt x i != bt y i)) (k + 1)) = sm_bI (sm_any (fun i => !(bt nx i || bt ny i) && (bt x i != bt y i)) k) ∧ sm_bI (!sm_any (fun i => bt nx i || bt ny i) (k + 1)) = 0 := by
  rw [sm_any_n (by simp [h]), sm_any_t (by simp [h])]; exact ⟨rfl, rfl⟩
theorem sm_an2 {x y nx ny : Int32} {k : Nat} (h : bt ny k = true) : sm_bI (sm_any (fun i => !(bt nx i || bt ny i) && (bt x i != bt y i)) (k + 1)) = sm_bI (sm_any (fun i => !(bt nx i || bt ny i) && (bt x i != bt y i)) k) ∧ sm_bI (!sm_any (fun i => bt nx i || bt ny i) (k + 1)) = 0 := by
  rw [sm_any_n (by simp [h]), sm_any_t (by simp [h])]; exact ⟨rfl, rfl⟩
theorem sm_bInj {a b : Bool} (h : sm_bI a = sm_bI b) : a = b := by revert h; cases a <;> cases b <;> decide
theorem sm_an3 {x y nx ny : Int32} {k : Nat} (h1 : bt nx k = false) (h2 : bt ny k = false) (h : ¬ sm_bI (bt x k) = sm_bI (bt y k)) : sm_bI (sm_any (fun i => !(bt nx i || bt ny i) && (bt x i != bt y i)) (k + 1)) = 1 ∧ sm_bI (!sm_any (fun i => bt nx i || bt ny i) (k + 1)) = sm_bI (!sm_any (fun i => bt nx i || bt ny i) k) := by
  have h3 : (bt x k != bt y k) = true := by
    cases hx : bt x k <;> cases hy : bt y k <;> simp_all
  rw [sm_any_t (by simp [h1, h2]; simpa using h3), sm_any_n (by simp [h1, h2])]; exact ⟨rfl, rfl⟩
theorem sm_an4 {x y nx ny : Int32} {k : Nat} (h1 : bt nx k = false) (h2 : bt ny k = false) (h : sm_bI (bt x k) = sm_bI (bt y k)) : sm_bI (sm_any (fun i => !(bt nx i || bt ny i) && (bt x i != bt y i)) (k + 1)) = sm_bI (sm_any (fun i => !(bt nx i || bt ny i) && (bt x i != bt y i)) k) ∧ sm_bI (!sm_any (fun i => bt nx i || bt ny i) (k + 1)) = sm_bI (!sm_any (fun i => bt nx i || bt ny i) k) := by
  rw [sm_any_n (by simp [sm_bInj h]), sm_any_n (by simp [h1, h2])]; exact ⟨rfl, rfl⟩
theorem sm_any0 {x : Int32} {g : Nat → Bool} (h : ∀ i, i < 32 → g i = bt x i) : sm_any g 32 = !decide (x = 0) := by
  by_cases hx : x = 0
  · subst hx
    rw [(sm_any_iff g 32).mpr (fun i hi => by rw [h i hi, b_0])]; rfl
  · rw [decide_eq_false hx]
    cases hs : sm_any g 32
    · exact absurd (b_ext fun i hi => by rw [← h i hi, b_0]; exact (sm_any_iff g 32).mp hs i hi) hx
    · rfl
theorem sm_sameA (nx ny : Int32) : sm_any (fun i => bt nx i || bt ny i) 32 = !decide (nx ||| ny = 0) := sm_any0 fun i _ => (b_or nx ny i).symm
theorem sm_sameB (x y nx ny : Int32) : sm_any (fun i => !(bt nx i || bt ny i) && (bt x i != bt y i)) 32 = !decide ((x ^^^ y) &&& ((nx ||| ny) ^^^ (-1)) = 0) := sm_any0 fun i hi => by
  rw [b_and, b_xor, sm_bnot _ hi, b_or]
  cases bt x i <;> cases bt y i <;> cases bt nx i <;> cases bt ny i <;> rfl
theorem sm_same1 {x y nx ny : Int32} (h1 : sm_any (fun i => !(bt nx i || bt ny i) && (bt x i != bt y i)) 32 = false) (h2 : (!sm_any (fun i => bt nx i || bt ny i) 32) = false) : (1 : Int32) = sm_bI (!decide (nx ||| ny = 0) && decide ((x ^^^ y) &&& ((nx ||| ny) ^^^ (-1)) = 0)) := by
  rw [sm_sameB] at h1
  rw [sm_sameA] at h2
  revert h1 h2
  cases decide (nx ||| ny = 0) <;> cases decide ((x ^^^ y) &&& ((nx ||| ny) ^^^ (-1)) = 0) <;> decide
theorem sm_same2 {x y nx ny : Int32} (h1 : sm_any (fun i => !(bt nx i || bt ny i) && (bt x i != bt y i)) 32 = true) : (0 : Int32) = sm_bI (!decide (nx ||| ny = 0) && decide ((x ^^^ y) &&& ((nx ||| ny) ^^^ (-1)) = 0)) := by
  rw [sm_sameB] at h1
  revert h1
  cases decide (nx ||| ny = 0) <;> cases decide ((x ^^^ y) &&& ((nx ||| ny) ^^^ (-1)) = 0) <;> decide
theorem sm_same3 {x y nx ny : Int32} (_ : sm_any (fun i => !(bt nx i || bt ny i) && (bt x i != bt y i)) 32 = false) (h2 : (!sm_any (fun i => bt nx i || bt ny i) 32) = true) : (0 : Int32) = sm_bI (!decide (nx ||| ny = 0) && decide ((x ^^^ y) &&& ((nx ||| ny) ^^^ (-1)) = 0)) := by
  rw [sm_sameA] at h2
  revert h2
  cases decide (nx ||| ny = 0) <;> cases decide ((x ^^^ y) &&& ((nx ||| ny) ^^^ (-1)) = 0) <;> decide
