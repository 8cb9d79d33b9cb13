/-! the words of a throw: those of the tables, and what follows from them -/
def sm_B (X : String) : List Cond := [.castable X X, .declares (Bundle.init0 "java/lang/RuntimeException"), .declares (Bundle.init0 "java/lang/Exception"), .declares (Bundle.init0 Bundle.tN),
  .laysStatic Bundle.tN "UNASSIGNED_STACK" Bundle.steD, .laysStatic Bundle.tN "SUPPRESSED_SENTINEL" Bundle.listD, .isRef (.static Bundle.tN "UNASSIGNED_STACK" Bundle.steD), .isRef (.static Bundle.tN "SUPPRESSED_SENTINEL" Bundle.listD)]
abbrev sm_IO : String := "java/lang/IndexOutOfBoundsException"
abbrev sm_IA : String := "java/lang/IllegalArgumentException"
abbrev sm_up : List String := ["java/lang/RuntimeException", "java/lang/Exception"]
set_option maxRecDepth 20000 in
theorem sm_memIO : ∀ w ∈ Bundle.ownAtoms0 RX0 52 sm_IO sm_up, w ∈ smW ∨ w ∈ sm_B sm_IO := by decide +kernel
set_option maxRecDepth 20000 in
theorem sm_memIA : ∀ w ∈ Bundle.ownAtoms0 RX0 27 sm_IA sm_up, w ∈ smW ∨ w ∈ sm_B sm_IA := by decide +kernel
theorem sm_self (vm : Vm) (c : ClassId) : vm.assignable c c = true := by
  show vm.assignableAux (255 + 1) c c = true
  rw [Vm.assignableAux]
  simp only [beq_self_eq_true, Bool.true_or]
theorem sm_castX {args : Array Value} {s : State} {X : String} {n : Nat} (h : (Cond.instantiable X n).before args s = true) : (Cond.castable X X).before args s = true := by
  obtain ⟨c1, kX', hc1, hk, -⟩ := Cond.instantiable_spec h
  simp [Cond.before, Cond.holds, Cond.value, hc1, sm_self]
theorem sm_declX {args : Array Value} {s : State} {x : MethodName} {b : ByteArray} {m : Nat} {ret : Option FieldType} (hi : (Cond.instanceMethod x).before args s = true) (hc : (Cond.code x b m ret).before args s = true) : (Cond.declares x).before args s = true := by
  obtain ⟨r0, r, h1, h2, h3, h4⟩ := va_Decl.of hi hc
  simp [Cond.before, Cond.holds, Cond.value, h1, h2, h3, h4]
theorem sm_own {c0 : Cond} {args : Array Value} {s : State} {A : Nat → Prop} {X : String} {ic n k : Nat} (hmem : ∀ w ∈ Bundle.ownAtoms0 RX0 ic X sm_up, w ∈ smW ∨ w ∈ sm_B X) (hts : ∀ w ∈ c0 :: smW, w.before args s = true) (hin : smW[k]? = some (.instantiable X n)) (hZ : sm_Z A s s.heap) : ∀ w ∈ Bundle.ownAtoms0 RX0 ic X sm_up, w.before args s = true := by
  have hw := sm_hw hts
  intro w h
  rcases hmem w h with h | h
  · exact hts w (List.mem_cons_of_mem _ h)
  · simp only [sm_B, List.mem_cons, List.not_mem_nil, or_false] at h
    rcases h with rfl | rfl | rfl | rfl | rfl | rfl | rfl | rfl
    · exact sm_castX (hw k hin)
    · exact sm_declX (hw 84 rfl) (hw 85 rfl)
    · exact sm_declX (hw 87 rfl) (hw 88 rfl)
    · exact sm_declX (hw 66 rfl) (hw 67 rfl)
    · exact hZ.1.lays
    · exact hZ.2.lays
    · exact hZ.1.isRef
    · exact hZ.2.isRef
theorem sm_orl {i c : Int32} (hi : i < 0 ∨ c < i) (h : ¬ i < 0) : ¬ i ≤ c := by
  rcases hi with h1 | h1
  · exact absurd h1 h
  · exact Int32.not_le.mpr h1
