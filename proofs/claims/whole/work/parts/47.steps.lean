theorem sm_lt_nI {c : Nat} {x : Int32} (hc : c + 1 < 2 ^ 31) (h : nI (c + 1) ≤ x) : nI c < x := by
  rw [Int32.lt_iff_toInt_lt, nI_toInt (by omega)]
  rw [Int32.le_iff_toInt_le, nI_toInt hc] at h
  omega
theorem sm_fil16 {M : Nat → Int32} (hM : ∀ a, M a = M a &&& 65535) (v n : Int32) (t k a : Nat) : sm_fil M (sm_by v n) t k a = sm_fil M (sm_by v n) t k a &&& 65535 := by
  unfold sm_fil
  split
  · exact sm_by_16 v n _
  · exact hM a
set_option maxHeartbeats 4000000 in
set_option maxRecDepth 100000 in
theorem s_set (l : Launch) (hlt : l.stackTraces = false) (D : va_G) (cI cJ cZ : ClassId) (x0 x1 x2 x3 o0 m0 m1 m2 m3 m4 m5 m6 : Nat) (V S M : Nat → Int32) (hM : ∀ a, M a = M a &&& 65535) (p0 p1 p2 : Int32) : ∃ (k : Int32) (V' S' M' : Nat → Int32), (∀ a, M' a = M' a &&& 65535) ∧ sm_CZ l yL_set wsL_set ({ frames := 9, cells := 1, slots := 6, locals := 240 } : Room) D vwCl [(cI, .int)] [.ref x0, .int p0, .int p1, .int p2] (sm_wX cI x0 x1 x2 x3 V S M) (some (.int k)) (sm_wX cI x0 x1 x2 x3 V' S' M') ∧ ∀ (err O G : Int32), ∃ O' G' : Int32, sm_C l yX1_set wsX1_set ({ frames := 5, cells := 0, slots := 0, locals := 140 } : Room) D vwCl [(cZ, .boolean)] [.ref m0, .int p0, .int p1, .int p2] (sm_wM cZ m0 m1 m2 m3 m4 m5 m6 err (sm_fb V) (sm_fb S) (sm_fo M) (sm_fl M) (sm_fw O) (sm_fw G)) none (sm_wM cZ m0 m1 m2 m3 m4 m5 m6 k (sm_fb V') (sm_fb S') (sm_fo M') (sm_fl M') (sm_fw O') (sm_fw G')) := by
  rcases pk_ix p0 (n := 16) (by decide) with h | h | ⟨r, hr, rfl⟩
  · exact ⟨1, V, S, M, hM, h_set_x l hlt D cI x0 x1 x2 x3 V S M p0 (Or.inl h) p1 p2, fun err O G => ⟨O, G, c_mset_x l D cZ m0 m1 m2 m3 m4 m5 m6 err V S M O G p0 (Or.inl h) p1 p2⟩⟩
  · exact ⟨1, V, S, M, hM, h_set_x l hlt D cI x0 x1 x2 x3 V S M p0 (Or.inr h) p1 p2, fun err O G => ⟨O, G, c_mset_x l D cZ m0 m1 m2 m3 m4 m5 m6 err V S M O G p0 (Or.inr h) p1 p2⟩⟩
  · exact ⟨0, upd V r p1, upd S r p2, M, hM, h_set l D cI x0 x1 x2 x3 V S M r hr p1 p2, fun err O G => ⟨p1, p2, c_mset l D cZ m0 m1 m2 m3 m4 m5 m6 err V S M O G r hr p1 p2⟩⟩
set_option maxHeartbeats 4000000 in
set_option maxRecDepth 100000 in
theorem s_op13 (l : Launch) (D : va_G) (cI cZ : ClassId) (x0 x1 x2 x3 m0 m1 m2 m3 m4 m5 m6 : Nat) (V S M : Nat → Int32) (d a b : Nat) (hd : d < 16) (ha : a < 16) (hb' : b < 16) : ∀ o : Nat, o < 13 → ∃ v n : Int32, sm_CZ l yL_op wsL_op ({ frames := 9, cells := 1, slots := 6, locals := 240 } : Room) D vwCl [(cI, .int)] [.ref x0, .int (nI o), .int (nI d), .int (nI a), .int (nI b)] (sm_wX cI x0 x1 x2 x3 V S M) (some (.int 0)) (sm_wX cI x0 x1 x2 x3 (upd V d v) (upd S d n) M) ∧ ∀ (err O G : Int32), sm_C l yX1_op wsX1_op ({ frames := 5, cells := 0, slots := 0, locals := 140 } : Room) D vwCl [(cZ, .boolean)] [.ref m0, .int (nI o), .int (nI d), .int (nI a), .int (nI b)] (sm_wM cZ m0 m1 m2 m3 m4 m5 m6 err (sm_fb V) (sm_fb S) (sm_fo M) (sm_fl M) (sm_fw O) (sm_fw G)) none (sm_wM cZ m0 m1 m2 m3 m4 m5 m6 0 (sm_fb (upd V d v)) (sm_fb (upd S d n)) (sm_fo M) (sm_fl M) (sm_fw v) (sm_fw n))
  | 0, _ => ⟨V a + V b, sm_fr (sm_tz (S a ||| S b)), h_op_0 l D cI x0 x1 x2 x3 V S M d a b hd ha hb', fun err O G => c_mop_0 l D cZ m0 m1 m2 m3 m4 m5 m6 err V S M O G d a b hd ha hb'⟩
  | 1, _ => ⟨V a - V b, sm_fr (sm_tz (S a ||| S b)), h_op_1 l D cI x0 x1 x2 x3 V S M d a b hd ha hb', fun err O G => c_mop_1 l D cZ m0 m1 m2 m3 m4 m5 m6 err V S M O G d a b hd ha hb'⟩
  | 2, _ => ⟨V a &&& V b, (S a ||| S b) &&& (S a ||| V a) &&& (S b ||| V b), h_op_2 l D cI x0 x1 x2 x3 V S M d a b hd ha hb', fun err O G => c_mop_2 l D cZ m0 m1 m2 m3 m4 m5 m6 err V S M O G d a b hd ha hb'⟩
  | 3, _ => ⟨V a ||| V b, (S a ||| S b) &&& (S a ||| (V a ^^^ (-1))) &&& (S b ||| (V b ^^^ (-1))), h_op_3 l D cI x0 x1 x2 x3 V S M d a b hd ha hb', fun err O G => c_mop_3 l D cZ m0 m1 m2 m3 m4 m5 m6 err V S M O G d a b hd ha hb'⟩
  | 4, _ => ⟨V a ^^^ V b, S a ||| S b, h_op_4 l D cI x0 x1 x2 x3 V S M d a b hd ha hb', fun err O G => c_mop_4 l D cZ m0 m1 m2 m3 m4 m5 m6 err V S M O G d a b hd ha hb'⟩
  | 5, _ => by
    obtain ⟨n, hn, hy⟩ := pk_andE (V b) (m := 31) 5 (by decide +kernel)
    exact ⟨V a <<< ((V b &&& 31) &&& 31), if S b &&& 31 = 0 then S a <<< ((V b &&& 31) &&& 31) else (-1), h_op_5 l D cI x0 x1 x2 x3 V S M d a b hd ha hb', fun err O G => by
      have hc := c_mop_5 l D cZ m0 m1 m2 m3 m4 m5 m6 err V S M O G d a b hd ha hb' n hn hy
      rw [← hy] at hc
      exact hc⟩
  | 6, _ => by
    obtain ⟨n, hn, hy⟩ := pk_andE (V b) (m := 31) 5 (by decide +kernel)
    exact ⟨sm_ushr (V a) (V b &&& 31), if S b &&& 31 = 0 then sm_ushr (S a) (V b &&& 31) else (-1), h_op_6 l D cI x0 x1 x2 x3 V S M d a b hd ha hb', fun err O G => by
      have hc := c_mop_6 l D cZ m0 m1 m2 m3 m4 m5 m6 err V S M O G d a b hd ha hb' n hn hy
      rw [← hy] at hc
      exact hc⟩
  | 7, _ => by
    obtain ⟨n, hn, hy⟩ := pk_andE (V b) (m := 31) 5 (by decide +kernel)
    exact ⟨V a >>> ((V b &&& 31) &&& 31), if S b &&& 31 = 0 then S a >>> ((V b &&& 31) &&& 31) else (-1), h_op_7 l D cI x0 x1 x2 x3 V S M d a b hd ha hb', fun err O G => by
      have hc := c_mop_7 l D cZ m0 m1 m2 m3 m4 m5 m6 err V S M O G d a b hd ha hb' n hn hy
      rw [← hy] at hc
      exact hc⟩
  | 8, _ => ⟨V a * V b, sm_fr (sm_min (sm_tz (S a) + sm_tz (V b ||| S b)) (sm_tz (S b) + sm_tz (V a ||| S a))), h_op_8 l D cI x0 x1 x2 x3 V S M d a b hd ha hb', fun err O G => c_mop_8 l D cZ m0 m1 m2 m3 m4 m5 m6 err V S M O G d a b hd ha hb'⟩
  | 9, _ => ⟨sm_bI (decide (V a < V b)), sm_bI (decide (sm_le (V a) (S a) < sm_he (V b) (S b)) && decide (sm_le (V b) (S b) ≤ sm_he (V a) (S a))), h_op_9 l D cI x0 x1 x2 x3 V S M d a b hd ha hb', fun err O G => c_mop_9 l D cZ m0 m1 m2 m3 m4 m5 m6 err V S M O G d a b hd ha hb'⟩
  | 10, _ => ⟨sm_bI (decide (V a ^^^ (-2147483648) < V b ^^^ (-2147483648))), sm_bI (decide (sm_le (V a ^^^ (-2147483648)) (S a) < sm_he (V b ^^^ (-2147483648)) (S b)) && decide (sm_le (V b ^^^ (-2147483648)) (S b) ≤ sm_he (V a ^^^ (-2147483648)) (S a))), h_op_10 l D cI x0 x1 x2 x3 V S M d a b hd ha hb', fun err O G => c_mop_10 l D cZ m0 m1 m2 m3 m4 m5 m6 err V S M O G d a b hd ha hb'⟩
  | 11, _ => ⟨sm_bI (decide (V a = V b)), sm_bI (!decide (S a ||| S b = 0) && decide ((V a ^^^ V b) &&& ((S a ||| S b) ^^^ (-1)) = 0)), h_op_11 l D cI x0 x1 x2 x3 V S M d a b hd ha hb', fun err O G => c_mop_11 l D cZ m0 m1 m2 m3 m4 m5 m6 err V S M O G d a b hd ha hb'⟩
  | 12, _ => ⟨if bt (V b) 0 then V a else V d, if bt (S b) 0 then S a ||| S d ||| (V a ^^^ V d) else if bt (V b) 0 then S a else S d, h_op_12 l D cI x0 x1 x2 x3 V S M d a b hd ha hb', fun err O G => c_mop_12 l D cZ m0 m1 m2 m3 m4 m5 m6 err V S M O G d a b hd ha hb'⟩
  | o + 13, h => absurd h (by omega)
set_option maxHeartbeats 4000000 in
set_option maxRecDepth 100000 in
theorem s_op (l : Launch) (hlt : l.stackTraces = false) (D : va_G) (cI cJ cZ : ClassId) (x0 x1 x2 x3 o0 m0 m1 m2 m3 m4 m5 m6 : Nat) (V S M : Nat → Int32) (hM : ∀ a, M a = M a &&& 65535) (p0 p1 p2 p3 : Int32) : ∃ (k : Int32) (V' S' M' : Nat → Int32), (∀ a, M' a = M' a &&& 65535) ∧ sm_CZ l yL_op wsL_op ({ frames := 9, cells := 1, slots := 6, locals := 240 } : Room) D vwCl [(cI, .int)] [.ref x0, .int p0, .int p1, .int p2, .int p3] (sm_wX cI x0 x1 x2 x3 V S M) (some (.int k)) (sm_wX cI x0 x1 x2 x3 V' S' M') ∧ ∀ (err O G : Int32), ∃ O' G' : Int32, sm_C l yX1_op wsX1_op ({ frames := 5, cells := 0, slots := 0, locals := 140 } : Room) D vwCl [(cZ, .boolean)] [.ref m0, .int p0, .int p1, .int p2, .int p3] (sm_wM cZ m0 m1 m2 m3 m4 m5 m6 err (sm_fb V) (sm_fb S) (sm_fo M) (sm_fl M) (sm_fw O) (sm_fw G)) none (sm_wM cZ m0 m1 m2 m3 m4 m5 m6 k (sm_fb V') (sm_fb S') (sm_fo M') (sm_fl M') (sm_fw O') (sm_fw G')) := by
  refine Classical.byCases (p := (p0 < 0 ∨ 12 < p0)) (fun h => ⟨1, V, S, M, hM, h_op_x0 l hlt D cI x0 x1 x2 x3 V S M p0 p1 p2 p3 h, fun err O G => ⟨O, G, c_mop_x0 l D cZ m0 m1 m2 m3 m4 m5 m6 err V S M O G p0 p1 p2 p3 h⟩⟩) (fun nh => ?_)
  rcases pk_ix p0 (n := 13) (by decide) with h | h | ⟨o, ho, rfl⟩
  · exact absurd (Or.inl h) nh
  · exact absurd (Or.inr (sm_lt_nI (c := 12) (by decide) h)) nh
  · refine Classical.byCases (p := (p1 < 0 ∨ 16 ≤ p1)) (fun h => ⟨2, V, S, M, hM, h_op_x1 l hlt D cI x0 x1 x2 x3 V S M o ho p2 p3 p1 h, fun err O G => ⟨O, G, c_mop_x1 l D cZ m0 m1 m2 m3 m4 m5 m6 err V S M O G o ho p2 p3 p1 h⟩⟩) (fun n1 => ?_)
    rcases pk_ix p1 (n := 16) (by decide) with h | h | ⟨d, hd, rfl⟩
    · exact absurd (Or.inl h) n1
    · exact absurd (Or.inr h) n1
    · refine Classical.byCases (p := (p2 < 0 ∨ 16 ≤ p2)) (fun h => ⟨2, V, S, M, hM, h_op_x2 l hlt D cI x0 x1 x2 x3 V S M o d ho hd p3 p2 h, fun err O G => ⟨O, G, c_mop_x2 l D cZ m0 m1 m2 m3 m4 m5 m6 err V S M O G o d ho hd p3 p2 h⟩⟩) (fun n2 => ?_)
      rcases pk_ix p2 (n := 16) (by decide) with h | h | ⟨a, ha, rfl⟩
      · exact absurd (Or.inl h) n2
      · exact absurd (Or.inr h) n2
      · refine Classical.byCases (p := (p3 < 0 ∨ 16 ≤ p3)) (fun h => ⟨2, V, S, M, hM, h_op_x3 l hlt D cI x0 x1 x2 x3 V S M o d a ho hd ha p3 h, fun err O G => ⟨O, G, c_mop_x3 l D cZ m0 m1 m2 m3 m4 m5 m6 err V S M O G o d a ho hd ha p3 h⟩⟩) (fun n3 => ?_)
        rcases pk_ix p3 (n := 16) (by decide) with h | h | ⟨b, hb', rfl⟩
        · exact absurd (Or.inl h) n3
        · exact absurd (Or.inr h) n3
        · obtain ⟨v, n, h1, h2⟩ := s_op13 l D cI cZ x0 x1 x2 x3 m0 m1 m2 m3 m4 m5 m6 V S M d a b hd ha hb' o ho
          exact ⟨0, upd V d v, upd S d n, M, hM, h1, fun err O G => ⟨v, n, h2 err O G⟩⟩
set_option maxHeartbeats 4000000 in
set_option maxRecDepth 100000 in
theorem s_store (l : Launch) (hlt : l.stackTraces = false) (D : va_G) (cI cJ cZ : ClassId) (x0 x1 x2 x3 o0 m0 m1 m2 m3 m4 m5 m6 : Nat) (V S M : Nat → Int32) (hM : ∀ a, M a = M a &&& 65535) (p0 p1 p2 : Int32) : ∃ (k : Int32) (V' S' M' : Nat → Int32), (∀ a, M' a = M' a &&& 65535) ∧ sm_CZ l yL_store wsL_store ({ frames := 9, cells := 1, slots := 6, locals := 240 } : Room) D vwCl [(cI, .int)] [.ref x0, .int p0, .int p1, .int p2] (sm_wX cI x0 x1 x2 x3 V S M) (some (.int k)) (sm_wX cI x0 x1 x2 x3 V' S' M') ∧ ∀ (err O G : Int32), ∃ O' G' : Int32, sm_C l yX1_store wsX1_store ({ frames := 5, cells := 0, slots := 0, locals := 140 } : Room) D vwCl [(cZ, .boolean)] [.ref m0, .int p0, .int p1, .int p2] (sm_wM cZ m0 m1 m2 m3 m4 m5 m6 err (sm_fb V) (sm_fb S) (sm_fo M) (sm_fl M) (sm_fw O) (sm_fw G)) none (sm_wM cZ m0 m1 m2 m3 m4 m5 m6 k (sm_fb V') (sm_fb S') (sm_fo M') (sm_fl M') (sm_fw O') (sm_fw G')) := by
  by_cases e1 : p2 = 1
  · subst e1
    refine Classical.byCases (p := (p1 < 0 ∨ 255 < p1)) (fun h => ⟨2, V, S, M, hM, h_store_x1_1 l hlt D cI x0 x1 x2 x3 V S M p0 p1 h, fun err O G => ⟨O, G, by
      rcases pk_ix p0 (n := 16) (by decide) with g | g | ⟨r, hr, rfl⟩
      · exact c_mstore_x2_1 l D cZ m0 m1 m2 m3 m4 m5 m6 err V S M O G p0 (Or.inl g) p1
      · exact c_mstore_x2_1 l D cZ m0 m1 m2 m3 m4 m5 m6 err V S M O G p0 (Or.inr g) p1
      · exact c_mstore_x1_1 l D cZ m0 m1 m2 m3 m4 m5 m6 err V S M O G r hr p1 h⟩⟩) (fun nh => ?_)
    rcases pk_ix p1 (n := 256) (by decide) with h | h | ⟨t, ht0, rfl⟩
    · exact absurd (Or.inl h) nh
    · exact absurd (Or.inr (sm_lt_nI (c := 255) (by decide) h)) nh
    · have ht : t + 1 ≤ 256 := by omega
      rcases pk_ix p0 (n := 16) (by decide) with g | g | ⟨r, hr, rfl⟩
      · exact ⟨2, V, S, M, hM, h_store_x2_1 l hlt D cI x0 x1 x2 x3 V S M t ht p0 (Or.inl g), fun err O G => ⟨O, G, c_mstore_x2_1 l D cZ m0 m1 m2 m3 m4 m5 m6 err V S M O G p0 (Or.inl g) (nI t)⟩⟩
      · exact ⟨2, V, S, M, hM, h_store_x2_1 l hlt D cI x0 x1 x2 x3 V S M t ht p0 (Or.inr g), fun err O G => ⟨O, G, c_mstore_x2_1 l D cZ m0 m1 m2 m3 m4 m5 m6 err V S M O G p0 (Or.inr g) (nI t)⟩⟩
      · exact ⟨0, V, S, sm_fil M (sm_by (V r) (S r)) t 1, sm_fil16 hM _ _ t 1, h_store_1 l D cI x0 x1 x2 x3 V S M r t hr ht, fun err O G => ⟨O, G, c_mstore_1 l D cZ m0 m1 m2 m3 m4 m5 m6 err V S M O G r t hr ht⟩⟩
  by_cases e2 : p2 = 2
  · subst e2
    refine Classical.byCases (p := (p1 < 0 ∨ 254 < p1)) (fun h => ⟨2, V, S, M, hM, h_store_x1_2 l hlt D cI x0 x1 x2 x3 V S M p0 p1 h, fun err O G => ⟨O, G, by
      rcases pk_ix p0 (n := 16) (by decide) with g | g | ⟨r, hr, rfl⟩
      · exact c_mstore_x2_2 l D cZ m0 m1 m2 m3 m4 m5 m6 err V S M O G p0 (Or.inl g) p1
      · exact c_mstore_x2_2 l D cZ m0 m1 m2 m3 m4 m5 m6 err V S M O G p0 (Or.inr g) p1
      · exact c_mstore_x1_2 l D cZ m0 m1 m2 m3 m4 m5 m6 err V S M O G r hr p1 h⟩⟩) (fun nh => ?_)
    rcases pk_ix p1 (n := 255) (by decide) with h | h | ⟨t, ht0, rfl⟩
    · exact absurd (Or.inl h) nh
    · exact absurd (Or.inr (sm_lt_nI (c := 254) (by decide) h)) nh
    · have ht : t + 2 ≤ 256 := by omega
      rcases pk_ix p0 (n := 16) (by decide) with g | g | ⟨r, hr, rfl⟩
      · exact ⟨2, V, S, M, hM, h_store_x2_2 l hlt D cI x0 x1 x2 x3 V S M t ht p0 (Or.inl g), fun err O G => ⟨O, G, c_mstore_x2_2 l D cZ m0 m1 m2 m3 m4 m5 m6 err V S M O G p0 (Or.inl g) (nI t)⟩⟩
      · exact ⟨2, V, S, M, hM, h_store_x2_2 l hlt D cI x0 x1 x2 x3 V S M t ht p0 (Or.inr g), fun err O G => ⟨O, G, c_mstore_x2_2 l D cZ m0 m1 m2 m3 m4 m5 m6 err V S M O G p0 (Or.inr g) (nI t)⟩⟩
      · exact ⟨0, V, S, sm_fil M (sm_by (V r) (S r)) t 2, sm_fil16 hM _ _ t 2, h_store_2 l D cI x0 x1 x2 x3 V S M r t hr ht, fun err O G => ⟨O, G, c_mstore_2 l D cZ m0 m1 m2 m3 m4 m5 m6 err V S M O G r t hr ht⟩⟩
  by_cases e4 : p2 = 4
  · subst e4
    refine Classical.byCases (p := (p1 < 0 ∨ 252 < p1)) (fun h => ⟨2, V, S, M, hM, h_store_x1_4 l hlt D cI x0 x1 x2 x3 V S M p0 p1 h, fun err O G => ⟨O, G, by
      rcases pk_ix p0 (n := 16) (by decide) with g | g | ⟨r, hr, rfl⟩
      · exact c_mstore_x2_4 l D cZ m0 m1 m2 m3 m4 m5 m6 err V S M O G p0 (Or.inl g) p1
      · exact c_mstore_x2_4 l D cZ m0 m1 m2 m3 m4 m5 m6 err V S M O G p0 (Or.inr g) p1
      · exact c_mstore_x1_4 l D cZ m0 m1 m2 m3 m4 m5 m6 err V S M O G r hr p1 h⟩⟩) (fun nh => ?_)
    rcases pk_ix p1 (n := 253) (by decide) with h | h | ⟨t, ht0, rfl⟩
    · exact absurd (Or.inl h) nh
    · exact absurd (Or.inr (sm_lt_nI (c := 252) (by decide) h)) nh
    · have ht : t + 4 ≤ 256 := by omega
      rcases pk_ix p0 (n := 16) (by decide) with g | g | ⟨r, hr, rfl⟩
      · exact ⟨2, V, S, M, hM, h_store_x2_4 l hlt D cI x0 x1 x2 x3 V S M t ht p0 (Or.inl g), fun err O G => ⟨O, G, c_mstore_x2_4 l D cZ m0 m1 m2 m3 m4 m5 m6 err V S M O G p0 (Or.inl g) (nI t)⟩⟩
      · exact ⟨2, V, S, M, hM, h_store_x2_4 l hlt D cI x0 x1 x2 x3 V S M t ht p0 (Or.inr g), fun err O G => ⟨O, G, c_mstore_x2_4 l D cZ m0 m1 m2 m3 m4 m5 m6 err V S M O G p0 (Or.inr g) (nI t)⟩⟩
      · exact ⟨0, V, S, sm_fil M (sm_by (V r) (S r)) t 4, sm_fil16 hM _ _ t 4, h_store_4 l D cI x0 x1 x2 x3 V S M r t hr ht, fun err O G => ⟨O, G, c_mstore_4 l D cZ m0 m1 m2 m3 m4 m5 m6 err V S M O G r t hr ht⟩⟩
  exact ⟨1, V, S, M, hM, h_store_x0 l hlt D cI x0 x1 x2 x3 V S M p0 p1 p2 e1 e2 e4, fun err O G => ⟨O, G, c_mstore_x0 l D cZ m0 m1 m2 m3 m4 m5 m6 err V S M O G p0 p1 p2 e1 e2 e4⟩⟩
set_option maxHeartbeats 4000000 in
set_option maxRecDepth 100000 in
theorem s_load (l : Launch) (hlt : l.stackTraces = false) (D : va_G) (cI cJ cZ : ClassId) (x0 x1 x2 x3 o0 m0 m1 m2 m3 m4 m5 m6 : Nat) (V S M : Nat → Int32) (hM : ∀ a, M a = M a &&& 65535) (p0 p1 p2 : Int32) (sg : Bool) : ∃ (k : Int32) (V' S' M' : Nat → Int32), (∀ a, M' a = M' a &&& 65535) ∧ sm_CZ l yL_load wsL_load ({ frames := 9, cells := 1, slots := 6, locals := 240 } : Room) D vwCl [(cI, .int)] [.ref x0, .int p0, .int p1, .int p2, .int (sm_bI sg)] (sm_wX cI x0 x1 x2 x3 V S M) (some (.int k)) (sm_wX cI x0 x1 x2 x3 V' S' M') ∧ ∀ (err O G : Int32), ∃ O' G' : Int32, sm_C l yX1_load wsX1_load ({ frames := 5, cells := 0, slots := 0, locals := 140 } : Room) D vwCl [(cZ, .boolean)] [.ref m0, .int p0, .int p1, .int p2, .int (sm_bI sg)] (sm_wM cZ m0 m1 m2 m3 m4 m5 m6 err (sm_fb V) (sm_fb S) (sm_fo M) (sm_fl M) (sm_fw O) (sm_fw G)) none (sm_wM cZ m0 m1 m2 m3 m4 m5 m6 k (sm_fb V') (sm_fb S') (sm_fo M') (sm_fl M') (sm_fw O') (sm_fw G')) := by
  by_cases e1 : p2 = 1
  · subst e1
    refine Classical.byCases (p := (p1 < 0 ∨ 255 < p1)) (fun h => ⟨2, V, S, M, hM, h_load_x1_1 l hlt D cI x0 x1 x2 x3 V S M p0 p1 h sg, fun err O G => ⟨O, G, by
      rcases pk_ix p0 (n := 16) (by decide) with g | g | ⟨r, hr, rfl⟩
      · exact c_mload_x2_1 l D cZ m0 m1 m2 m3 m4 m5 m6 err V S M O G p0 (Or.inl g) p1 sg
      · exact c_mload_x2_1 l D cZ m0 m1 m2 m3 m4 m5 m6 err V S M O G p0 (Or.inr g) p1 sg
      · exact c_mload_x1_1 l D cZ m0 m1 m2 m3 m4 m5 m6 err V S M O G r hr p1 h sg⟩⟩) (fun nh => ?_)
    rcases pk_ix p1 (n := 256) (by decide) with h | h | ⟨t, ht0, rfl⟩
    · exact absurd (Or.inl h) nh
    · exact absurd (Or.inr (sm_lt_nI (c := 255) (by decide) h)) nh
    · have ht : t + 1 ≤ 256 := by omega
      rcases pk_ix p0 (n := 16) (by decide) with g | g | ⟨r, hr, rfl⟩
      · exact ⟨2, V, S, M, hM, h_load_x2_1 l hlt D cI x0 x1 x2 x3 V S M t ht p0 (Or.inl g) sg, fun err O G => ⟨O, G, c_mload_x2_1 l D cZ m0 m1 m2 m3 m4 m5 m6 err V S M O G p0 (Or.inl g) (nI t) sg⟩⟩
      · exact ⟨2, V, S, M, hM, h_load_x2_1 l hlt D cI x0 x1 x2 x3 V S M t ht p0 (Or.inr g) sg, fun err O G => ⟨O, G, c_mload_x2_1 l D cZ m0 m1 m2 m3 m4 m5 m6 err V S M O G p0 (Or.inr g) (nI t) sg⟩⟩
      · cases sg
        · exact ⟨0, _, _, M, hM, h_load_1_f l D cI x0 x1 x2 x3 V S M r t hr ht, fun err O G => ⟨_, _, c_mload_1_f l D cZ m0 m1 m2 m3 m4 m5 m6 err V S M O G r t hr ht hM⟩⟩
        · exact ⟨0, _, _, M, hM, h_load_1_t l D cI x0 x1 x2 x3 V S M r t hr ht, fun err O G => ⟨_, _, c_mload_1_t l D cZ m0 m1 m2 m3 m4 m5 m6 err V S M O G r t hr ht hM⟩⟩
  by_cases e2 : p2 = 2
  · subst e2
    refine Classical.byCases (p := (p1 < 0 ∨ 254 < p1)) (fun h => ⟨2, V, S, M, hM, h_load_x1_2 l hlt D cI x0 x1 x2 x3 V S M p0 p1 h sg, fun err O G => ⟨O, G, by
      rcases pk_ix p0 (n := 16) (by decide) with g | g | ⟨r, hr, rfl⟩
      · exact c_mload_x2_2 l D cZ m0 m1 m2 m3 m4 m5 m6 err V S M O G p0 (Or.inl g) p1 sg
      · exact c_mload_x2_2 l D cZ m0 m1 m2 m3 m4 m5 m6 err V S M O G p0 (Or.inr g) p1 sg
      · exact c_mload_x1_2 l D cZ m0 m1 m2 m3 m4 m5 m6 err V S M O G r hr p1 h sg⟩⟩) (fun nh => ?_)
    rcases pk_ix p1 (n := 255) (by decide) with h | h | ⟨t, ht0, rfl⟩
    · exact absurd (Or.inl h) nh
    · exact absurd (Or.inr (sm_lt_nI (c := 254) (by decide) h)) nh
    · have ht : t + 2 ≤ 256 := by omega
      rcases pk_ix p0 (n := 16) (by decide) with g | g | ⟨r, hr, rfl⟩
      · exact ⟨2, V, S, M, hM, h_load_x2_2 l hlt D cI x0 x1 x2 x3 V S M t ht p0 (Or.inl g) sg, fun err O G => ⟨O, G, c_mload_x2_2 l D cZ m0 m1 m2 m3 m4 m5 m6 err V S M O G p0 (Or.inl g) (nI t) sg⟩⟩
      · exact ⟨2, V, S, M, hM, h_load_x2_2 l hlt D cI x0 x1 x2 x3 V S M t ht p0 (Or.inr g) sg, fun err O G => ⟨O, G, c_mload_x2_2 l D cZ m0 m1 m2 m3 m4 m5 m6 err V S M O G p0 (Or.inr g) (nI t) sg⟩⟩
      · cases sg
        · exact ⟨0, _, _, M, hM, h_load_2_f l D cI x0 x1 x2 x3 V S M r t hr ht, fun err O G => ⟨_, _, c_mload_2_f l D cZ m0 m1 m2 m3 m4 m5 m6 err V S M O G r t hr ht hM⟩⟩
        · exact ⟨0, _, _, M, hM, h_load_2_t l D cI x0 x1 x2 x3 V S M r t hr ht, fun err O G => ⟨_, _, c_mload_2_t l D cZ m0 m1 m2 m3 m4 m5 m6 err V S M O G r t hr ht hM⟩⟩
  by_cases e4 : p2 = 4
  · subst e4
    refine Classical.byCases (p := (p1 < 0 ∨ 252 < p1)) (fun h => ⟨2, V, S, M, hM, h_load_x1_4 l hlt D cI x0 x1 x2 x3 V S M p0 p1 h sg, fun err O G => ⟨O, G, by
      rcases pk_ix p0 (n := 16) (by decide) with g | g | ⟨r, hr, rfl⟩
      · exact c_mload_x2_4 l D cZ m0 m1 m2 m3 m4 m5 m6 err V S M O G p0 (Or.inl g) p1 sg
      · exact c_mload_x2_4 l D cZ m0 m1 m2 m3 m4 m5 m6 err V S M O G p0 (Or.inr g) p1 sg
      · exact c_mload_x1_4 l D cZ m0 m1 m2 m3 m4 m5 m6 err V S M O G r hr p1 h sg⟩⟩) (fun nh => ?_)
    rcases pk_ix p1 (n := 253) (by decide) with h | h | ⟨t, ht0, rfl⟩
    · exact absurd (Or.inl h) nh
    · exact absurd (Or.inr (sm_lt_nI (c := 252) (by decide) h)) nh
    · have ht : t + 4 ≤ 256 := by omega
      rcases pk_ix p0 (n := 16) (by decide) with g | g | ⟨r, hr, rfl⟩
      · exact ⟨2, V, S, M, hM, h_load_x2_4 l hlt D cI x0 x1 x2 x3 V S M t ht p0 (Or.inl g) sg, fun err O G => ⟨O, G, c_mload_x2_4 l D cZ m0 m1 m2 m3 m4 m5 m6 err V S M O G p0 (Or.inl g) (nI t) sg⟩⟩
      · exact ⟨2, V, S, M, hM, h_load_x2_4 l hlt D cI x0 x1 x2 x3 V S M t ht p0 (Or.inr g) sg, fun err O G => ⟨O, G, c_mload_x2_4 l D cZ m0 m1 m2 m3 m4 m5 m6 err V S M O G p0 (Or.inr g) (nI t) sg⟩⟩
      · cases sg
        · exact ⟨0, _, _, M, hM, h_load_4_f l D cI x0 x1 x2 x3 V S M r t hr ht, fun err O G => ⟨_, _, c_mload_4_f l D cZ m0 m1 m2 m3 m4 m5 m6 err V S M O G r t hr ht hM⟩⟩
        · exact ⟨0, _, _, M, hM, h_load_4_t l D cI x0 x1 x2 x3 V S M r t hr ht, fun err O G => ⟨_, _, c_mload_4_t l D cZ m0 m1 m2 m3 m4 m5 m6 err V S M O G r t hr ht hM⟩⟩
  exact ⟨1, V, S, M, hM, h_load_x0 l hlt D cI x0 x1 x2 x3 V S M p0 p1 p2 e1 e2 e4 sg, fun err O G => ⟨O, G, c_mload_x0 l D cZ m0 m1 m2 m3 m4 m5 m6 err V S M O G p0 p1 p2 e1 e2 e4 sg⟩⟩
set_option maxHeartbeats 4000000 in
set_option maxRecDepth 100000 in
theorem s_value (l : Launch) (hlt : l.stackTraces = false) (D : va_G) (cI cJ cZ : ClassId) (x0 x1 x2 x3 o0 m0 m1 m2 m3 m4 m5 m6 : Nat) (V S M : Nat → Int32) (hM : ∀ a, M a = M a &&& 65535) (U : Nat → Int64) (p0 : Int32) : ∃ (k b : Int32) (U' : Nat → Int64), (k = 0 → U' 0 = b.toInt64) ∧ sm_CZ l yL_value wsL_value ({ frames := 9, cells := 1, slots := 6, locals := 240 } : Room) D vwCl [(cI, .int), (cJ, .long)] [.ref x0, .int p0, .ref o0] (sm_wXO cI cJ x0 x1 x2 x3 o0 V S M U) (some (.int k)) (sm_wXO cI cJ x0 x1 x2 x3 o0 V S M U') ∧ ∀ (err O G : Int32), sm_C l yX1_value wsX1_value ({ frames := 5, cells := 0, slots := 0, locals := 140 } : Room) D vwCl [(cZ, .boolean)] [.ref m0, .int p0] (sm_wM cZ m0 m1 m2 m3 m4 m5 m6 err (sm_fb V) (sm_fb S) (sm_fo M) (sm_fl M) (sm_fw O) (sm_fw G)) (some (.int b)) (sm_wM cZ m0 m1 m2 m3 m4 m5 m6 k (sm_fb V) (sm_fb S) (sm_fo M) (sm_fl M) (sm_fw O) (sm_fw G)) := by
  rcases pk_ix p0 (n := 16) (by decide) with h | h | ⟨r, hr, rfl⟩
  · exact ⟨1, 0, U, fun z => absurd z (by decide), h_value_x l hlt D cI cJ x0 x1 x2 x3 o0 V S M U p0 (Or.inl h), fun err O G => c_mvalue_x l D cZ m0 m1 m2 m3 m4 m5 m6 err V S M O G p0 (Or.inl h)⟩
  · exact ⟨1, 0, U, fun z => absurd z (by decide), h_value_x l hlt D cI cJ x0 x1 x2 x3 o0 V S M U p0 (Or.inr h), fun err O G => c_mvalue_x l D cZ m0 m1 m2 m3 m4 m5 m6 err V S M O G p0 (Or.inr h)⟩
  · exact ⟨0, V r, vp_updL U 0 (V r).toInt64, fun _ => pk_uLs, h_value l D cI cJ x0 x1 x2 x3 o0 V S M U r hr, fun err O G => c_mvalue l D cZ m0 m1 m2 m3 m4 m5 m6 err V S M O G r hr⟩
set_option maxHeartbeats 4000000 in
set_option maxRecDepth 100000 in
theorem s_not (l : Launch) (hlt : l.stackTraces = false) (D : va_G) (cI cJ cZ : ClassId) (x0 x1 x2 x3 o0 m0 m1 m2 m3 m4 m5 m6 : Nat) (V S M : Nat → Int32) (hM : ∀ a, M a = M a &&& 65535) (U : Nat → Int64) (p0 : Int32) : ∃ (k b : Int32) (U' : Nat → Int64), (k = 0 → U' 0 = b.toInt64) ∧ sm_CZ l yL_not wsL_not ({ frames := 9, cells := 1, slots := 6, locals := 240 } : Room) D vwCl [(cI, .int), (cJ, .long)] [.ref x0, .int p0, .ref o0] (sm_wXO cI cJ x0 x1 x2 x3 o0 V S M U) (some (.int k)) (sm_wXO cI cJ x0 x1 x2 x3 o0 V S M U') ∧ ∀ (err O G : Int32), sm_C l yX1_not wsX1_not ({ frames := 5, cells := 0, slots := 0, locals := 140 } : Room) D vwCl [(cZ, .boolean)] [.ref m0, .int p0] (sm_wM cZ m0 m1 m2 m3 m4 m5 m6 err (sm_fb V) (sm_fb S) (sm_fo M) (sm_fl M) (sm_fw O) (sm_fw G)) (some (.int b)) (sm_wM cZ m0 m1 m2 m3 m4 m5 m6 k (sm_fb V) (sm_fb S) (sm_fo M) (sm_fl M) (sm_fw O) (sm_fw G)) := by
  rcases pk_ix p0 (n := 16) (by decide) with h | h | ⟨r, hr, rfl⟩
  · exact ⟨1, 0, U, fun z => absurd z (by decide), h_not_x l hlt D cI cJ x0 x1 x2 x3 o0 V S M U p0 (Or.inl h), fun err O G => c_mnot_x l D cZ m0 m1 m2 m3 m4 m5 m6 err V S M O G p0 (Or.inl h)⟩
  · exact ⟨1, 0, U, fun z => absurd z (by decide), h_not_x l hlt D cI cJ x0 x1 x2 x3 o0 V S M U p0 (Or.inr h), fun err O G => c_mnot_x l D cZ m0 m1 m2 m3 m4 m5 m6 err V S M O G p0 (Or.inr h)⟩
  · exact ⟨0, S r, vp_updL U 0 (S r).toInt64, fun _ => pk_uLs, h_not l D cI cJ x0 x1 x2 x3 o0 V S M U r hr, fun err O G => c_mnot l D cZ m0 m1 m2 m3 m4 m5 m6 err V S M O G r hr⟩
set_option maxHeartbeats 4000000 in
set_option maxRecDepth 100000 in
theorem s_least (l : Launch) (hlt : l.stackTraces = false) (D : va_G) (cI cJ cZ : ClassId) (x0 x1 x2 x3 o0 m0 m1 m2 m3 m4 m5 m6 : Nat) (V S M : Nat → Int32) (hM : ∀ a, M a = M a &&& 65535) (U : Nat → Int64) (p0 : Int32) : ∃ (k b : Int32) (U' : Nat → Int64), (k = 0 → U' 0 = b.toInt64) ∧ sm_CZ l yL_least wsL_least ({ frames := 9, cells := 1, slots := 6, locals := 240 } : Room) D vwCl [(cI, .int), (cJ, .long)] [.ref x0, .int p0, .ref o0] (sm_wXO cI cJ x0 x1 x2 x3 o0 V S M U) (some (.int k)) (sm_wXO cI cJ x0 x1 x2 x3 o0 V S M U') ∧ ∀ (err O G : Int32), sm_C l yX1_least wsX1_least ({ frames := 5, cells := 0, slots := 0, locals := 140 } : Room) D vwCl [(cZ, .boolean)] [.ref m0, .int p0] (sm_wM cZ m0 m1 m2 m3 m4 m5 m6 err (sm_fb V) (sm_fb S) (sm_fo M) (sm_fl M) (sm_fw O) (sm_fw G)) (some (.int b)) (sm_wM cZ m0 m1 m2 m3 m4 m5 m6 k (sm_fb V) (sm_fb S) (sm_fo M) (sm_fl M) (sm_fw O) (sm_fw G)) := by
  rcases pk_ix p0 (n := 16) (by decide) with h | h | ⟨r, hr, rfl⟩
  · exact ⟨1, 0, U, fun z => absurd z (by decide), h_least_x l hlt D cI cJ x0 x1 x2 x3 o0 V S M U p0 (Or.inl h), fun err O G => c_mleast_x l D cZ m0 m1 m2 m3 m4 m5 m6 err V S M O G p0 (Or.inl h)⟩
  · exact ⟨1, 0, U, fun z => absurd z (by decide), h_least_x l hlt D cI cJ x0 x1 x2 x3 o0 V S M U p0 (Or.inr h), fun err O G => c_mleast_x l D cZ m0 m1 m2 m3 m4 m5 m6 err V S M O G p0 (Or.inr h)⟩
  · exact ⟨0, sm_le (V r) (S r), vp_updL U 0 (sm_le (V r) (S r)).toInt64, fun _ => pk_uLs, h_least l D cI cJ x0 x1 x2 x3 o0 V S M U r hr, fun err O G => c_mleast l D cZ m0 m1 m2 m3 m4 m5 m6 err V S M O G r hr⟩
set_option maxHeartbeats 4000000 in
set_option maxRecDepth 100000 in
theorem s_greatest (l : Launch) (hlt : l.stackTraces = false) (D : va_G) (cI cJ cZ : ClassId) (x0 x1 x2 x3 o0 m0 m1 m2 m3 m4 m5 m6 : Nat) (V S M : Nat → Int32) (hM : ∀ a, M a = M a &&& 65535) (U : Nat → Int64) (p0 : Int32) : ∃ (k b : Int32) (U' : Nat → Int64), (k = 0 → U' 0 = b.toInt64) ∧ sm_CZ l yL_greatest wsL_greatest ({ frames := 9, cells := 1, slots := 6, locals := 240 } : Room) D vwCl [(cI, .int), (cJ, .long)] [.ref x0, .int p0, .ref o0] (sm_wXO cI cJ x0 x1 x2 x3 o0 V S M U) (some (.int k)) (sm_wXO cI cJ x0 x1 x2 x3 o0 V S M U') ∧ ∀ (err O G : Int32), sm_C l yX1_greatest wsX1_greatest ({ frames := 5, cells := 0, slots := 0, locals := 140 } : Room) D vwCl [(cZ, .boolean)] [.ref m0, .int p0] (sm_wM cZ m0 m1 m2 m3 m4 m5 m6 err (sm_fb V) (sm_fb S) (sm_fo M) (sm_fl M) (sm_fw O) (sm_fw G)) (some (.int b)) (sm_wM cZ m0 m1 m2 m3 m4 m5 m6 k (sm_fb V) (sm_fb S) (sm_fo M) (sm_fl M) (sm_fw O) (sm_fw G)) := by
  rcases pk_ix p0 (n := 16) (by decide) with h | h | ⟨r, hr, rfl⟩
  · exact ⟨1, 0, U, fun z => absurd z (by decide), h_greatest_x l hlt D cI cJ x0 x1 x2 x3 o0 V S M U p0 (Or.inl h), fun err O G => c_mgreatest_x l D cZ m0 m1 m2 m3 m4 m5 m6 err V S M O G p0 (Or.inl h)⟩
  · exact ⟨1, 0, U, fun z => absurd z (by decide), h_greatest_x l hlt D cI cJ x0 x1 x2 x3 o0 V S M U p0 (Or.inr h), fun err O G => c_mgreatest_x l D cZ m0 m1 m2 m3 m4 m5 m6 err V S M O G p0 (Or.inr h)⟩
  · exact ⟨0, sm_he (V r) (S r), vp_updL U 0 (sm_he (V r) (S r)).toInt64, fun _ => pk_uLs, h_greatest l D cI cJ x0 x1 x2 x3 o0 V S M U r hr, fun err O G => c_mgreatest l D cZ m0 m1 m2 m3 m4 m5 m6 err V S M O G r hr⟩
set_option maxHeartbeats 4000000 in
set_option maxRecDepth 100000 in
theorem s_octet (l : Launch) (hlt : l.stackTraces = false) (D : va_G) (cI cJ cZ : ClassId) (x0 x1 x2 x3 o0 m0 m1 m2 m3 m4 m5 m6 : Nat) (V S M : Nat → Int32) (hM : ∀ a, M a = M a &&& 65535) (U : Nat → Int64) (p0 : Int32) : ∃ (k b : Int32) (U' : Nat → Int64), (k = 0 → U' 0 = b.toInt64) ∧ sm_CZ l yL_octet wsL_octet ({ frames := 9, cells := 1, slots := 6, locals := 240 } : Room) D vwCl [(cI, .int), (cJ, .long)] [.ref x0, .int p0, .ref o0] (sm_wXO cI cJ x0 x1 x2 x3 o0 V S M U) (some (.int k)) (sm_wXO cI cJ x0 x1 x2 x3 o0 V S M U') ∧ ∀ (err O G : Int32), sm_C l yX1_octet wsX1_octet ({ frames := 5, cells := 0, slots := 0, locals := 140 } : Room) D vwCl [(cZ, .boolean)] [.ref m0, .int p0] (sm_wM cZ m0 m1 m2 m3 m4 m5 m6 err (sm_fb V) (sm_fb S) (sm_fo M) (sm_fl M) (sm_fw O) (sm_fw G)) (some (.int b)) (sm_wM cZ m0 m1 m2 m3 m4 m5 m6 k (sm_fb V) (sm_fb S) (sm_fo M) (sm_fl M) (sm_fw O) (sm_fw G)) := by
  rcases pk_ix p0 (n := 256) (by decide) with h | h | ⟨r, hr, rfl⟩
  · exact ⟨1, 0, U, fun z => absurd z (by decide), h_octet_x l hlt D cI cJ x0 x1 x2 x3 o0 V S M U p0 (Or.inl h), fun err O G => c_moctet_x l D cZ m0 m1 m2 m3 m4 m5 m6 err V S M O G p0 (Or.inl h)⟩
  · exact ⟨1, 0, U, fun z => absurd z (by decide), h_octet_x l hlt D cI cJ x0 x1 x2 x3 o0 V S M U p0 (Or.inr h), fun err O G => c_moctet_x l D cZ m0 m1 m2 m3 m4 m5 m6 err V S M O G p0 (Or.inr h)⟩
  · exact ⟨0, M r, vp_updL U 0 (M r).toInt64, fun _ => pk_uLs, h_octet l D cI cJ x0 x1 x2 x3 o0 V S M U r hr, fun err O G => c_moctet l D cZ m0 m1 m2 m3 m4 m5 m6 err V S M O G r hr (hM r)⟩
theorem s_count (S : Nat → Int32) : nI (sm_cn S 16) = nI (sm_pc (fun j => bt (S (j / 32)) (j % 32)) 512) := by rw [← sm_cn_pc S 16]
