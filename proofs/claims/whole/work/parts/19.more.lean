theorem sm_min_le (p q : Nat) : sm_min p q ≤ p := by unfold sm_min; split <;> omega
section SMJ
variable {p : Program} {l : Launch} {e : Env} {R : Room} {s : State} {m : MethodId} {args : Array Value} {below : List Frame} {meth : Method} {c : Code} {H : Heap} {locs : List Loc} {cells slots : Nat} {Q : State → Prop}
variable {pc : Nat} {ls : Array Slot} {rest : List Value} {D : va_G} {cl : List vw_C} {A : Nat → Prop} {H0 : Heap}
/-- roads that meet, the places told by what stands here -/
theorem sm_joinH {pcJ nL : Nat} {t : Int32} {lv lv0 : List (Nat × Value)} {w w0 : va_W} {st : List Value} (_ : lv_has ls nL lv0) (_ : va_P D cl w0 H) (_ : va_D A w0) (_ : va_S A H0 H locs)
    (k : (∀ (H : Heap) (locs : List Loc) (ls : Array Slot), lv_has ls nL lv → va_P D cl w H → va_D A w → va_S A H0 H locs → W p l e R s m args below meth c H locs cells slots Q (F0 m pcJ ls (.int t :: rest))) → W p l e R s m args below meth c H locs cells slots Q (F0 m pc ls st))
    (hj : ∀ (H : Heap) (locs : List Loc) (ls : Array Slot), lv_has ls nL lv → va_P D cl w H → va_D A w → va_S A H0 H locs → W p l e R s m args below meth c H locs cells slots Q (F0 m pcJ ls (.int t :: rest))) : W p l e R s m args below meth c H locs cells slots Q (F0 m pc ls st) := k hj
end SMJ
