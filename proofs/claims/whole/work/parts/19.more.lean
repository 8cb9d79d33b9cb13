theorem sm_min_le (p q : Nat) : sm_min p q ≤ p := by unfold sm_min; split <;> omega
