/-! methods with an exception table: contracts that return, where a callee's throw may be caught -/
def sm_PZ (D : va_G) (cl : List vw_C) (tys : List (ClassId × FieldType)) (w0 : va_W) (sz : Nat) (U : State) : Prop := sm_PX D cl tys w0 sz U ∧ va_Nc sm_IO sm_IA U
def sm_CZ (l : Launch) (y : MethodName) (ws : List Cond) (rm : Room) (D : va_G) (cl : List vw_C) (tys : List (ClassId × FieldType)) (av : List Value) (w0 : va_W) (rv : Option Value) (w1 : va_W) : Prop :=
  ∀ sz : Nat, Met l y ws rm (va_Pc av (sm_PZ D cl tys w0 sz)) (sm_Q D cl w0 w1 sz rv) rm.cells rm.slots (va_A w0 sz)
theorem sm_blindZ {D : va_G} {cl : List vw_C} {tys : List (ClassId × FieldType)} {w0 : va_W} {sz : Nat} {av : List Value} : FrameBlind (va_Pc av (sm_PZ D cl tys w0 sz)) :=
  fun a U g mk q => ⟨q.1, ⟨⟨q.2.1.1.1, q.2.1.1.2.1, va_K.moved (u := U) (U := U.calling g mk a) (Vm.Alike.refl U.vm) q.2.1.1.2.2.1, q.2.1.1.2.2.2⟩, q.2.1.2.kept (U := U.calling g mk a) (Vm.Alike.refl U.vm) (fun _ _ _ => rfl) (fun _ h => h)⟩, va_Nc.moved (u := U) (U := U.calling g mk a) (Vm.Alike.refl U.vm) q.2.2⟩
theorem sm_startZ {l : Launch} {y : MethodName} {ws ws' : List Cond} {rm : Room} {D : va_G} {cl : List vw_C} {tys : List (ClassId × FieldType)} {av : List Value} {w0 w1 : va_W} {rv : Option Value} {cc : ByteArray} {maxL : Nat} {ret : Option FieldType} {lv : List (Nat × Value)} {hh : List (Nat × Nat × Nat × Nat)}
    (hy : plainName y.cls = true) (hw : ws = Cond.codeWith y cc maxL ret hh :: ws') (hsl : (lg_sl av).length ≤ maxL) (hlv : lv_args 0 av = lv)
    (body : ∀ (p : Program) (e : Env) (s : State) (m : MethodId) (below : List Frame) (meth : Method) (c : Code), p.tables.exec = Jvm.exec → c.code = cc → meth.sig.returnType = ret → (∀ w ∈ ws, w.before av.toArray s = true) → s.vm.findClass y.cls = some m.cls → meth.locks = false → c.maxLocals = maxL → c.exceptionTable.toList.map (fun h => (h.startPc, h.endPc, h.handlerPc, h.catchType)) = hh → sm_Z (va_A w0 s.heap.size) s s.heap → va_Nc sm_IO sm_IA s →
      va_K D cl tys s → va_P D cl w0 s.heap → va_D (va_A w0 s.heap.size) w0 → va_S (va_A w0 s.heap.size) s.heap s.heap [] → (∀ q : Nat, s.heap.size ≤ q → va_A w0 s.heap.size q) → ∀ ls : Array Slot, lv_has ls maxL lv →
      W p l e rm s m av.toArray below meth c s.heap [] 0 0 (MQ below (sm_Q D cl w0 w1 s.heap.size rv) av.toArray s rm.cells rm.slots (va_A w0 s.heap.size)) (F0 m 0 ls [])) : sm_CZ l y ws rm D cl tys av w0 rv w1 := by
  subst hlv
  intro sz
  refine va_MetW (cc := cc) (maxL := maxL) (ret := ret) (hh := hh) hy hw ?_
  intro p e s m args below meth c s₁ B hml hv
  obtain ⟨rfl, ⟨⟨hsz, hP, hK, hD0⟩, hZ⟩, hN⟩ := hv
  subst hsz
  have hts := atoms_spec (ws := ws) B.pre
  have X₀ := Stand.of_body B
  have htab : c.exceptionTable.toList.map (fun h => (h.startPc, h.endPc, h.handlerPc, h.catchType)) = hh := by
    obtain ⟨m9, meth9, c9, hn9, h1, h2, -, -, h5, -⟩ := Cond.codeWith_spec (hts (Cond.codeWith y cc maxL ret hh) (by rw [hw]; exact List.mem_cons_self))
    cases B.named.symm.trans hn9
    cases B.method.symm.trans h1
    cases X₀.code.symm.trans h2
    exact h5
  rw [lg_entry_eq]
  exact body p e s m below meth c B.exec B.bytes B.returns hts (findClass_of_methodNamed B.named) B.notSynchronized hml htab hZ hN hK hP (hD0.self) va_S.rf (fun q h => Or.inr h) _ (lv_entry av hsl)
section SMZ
variable {p : Program} {l : Launch} {e : Env} {R : Room} {s : State} {m : MethodId} {args : Array Value} {below : List Frame} {meth : Method} {c : Code} {H : Heap} {locs : List Loc} {cells slots : Nat} {Q : State → Prop}
variable {pc : Nat} {ls : Array Slot} {rest st0 st1 : List Value} {A0 : Nat → Prop} {D : va_G} {cl : List vw_C} {tys tysc : List (ClassId × FieldType)} {ws wc wr w1 wn : va_W} {rv : Option Value} {E own name : String} {q : Nat}
variable {y : MethodName} {bytes cc : ByteArray} {maxL nL n index : Nat} {ret : Option FieldType} {hh : List (Nat × Nat × Nat × Nat)} {wz wz' : List Cond} {rm : Room} {Ts : List Cond} {As : List Value}
/-- a static method with a table is called, and returns -/
theorem sm_callSZ (S : CallFix p m c cc nL s args Ts own) (hC : sm_CZ l y wz rm D cl tysc As wc rv w1) (hG : GoodIn Ts (va_wsS own index y wz)) (hwz : wz = Cond.codeWith y bytes maxL ret hh :: wz')
    (hd : y.cls ≠ "java/lang/invoke/MethodHandle" ∧ y.cls ≠ "java/lang/invoke/VarHandle" ∧ (parseMethodDescriptor y.desc).map (fun d => d.parameters.length) = some n) (hR : rm.frames + 1 ≤ R.frames ∧ 8 + (maxL + 11) + rm.locals ≤ R.locals)
    (hK : va_K D cl tys s) (tis : List Nat) (hti : tis.filterMap (fun i => tys[i]?) = tysc) (hZ : sm_Z A0 s s.heap) (hN : va_Nc sm_IO sm_IA s) (hP : va_P D cl ws H) (hD : va_D A0 ws) (hS : va_S A0 s.heap H locs) (hA : ∀ q, s.heap.size ≤ q → A0 q)
    (isC isR : List Nat) (hCm : isC.map (fun i => ws[i]?) = wc.map some) (hRm : isR.map (fun i => ws[i]?) = wr.map some) (hnC : va_nd isC = true) (hnR : va_nd isR = true) (hdis : ∀ i ∈ isR, i ∉ isC)
    (hn : As.length = n) (hsize : ls.size = nL) (hst : st0 = As.reverse ++ rest) (hW : (rest.map fun v => v.category).sum ≤ 8) (hdg : decode cc pc = .ok (.invokestatic index, 3)) (hf : cells + rm.cells ≤ R.cells ∧ slots + rm.slots ≤ R.slots)
    (hwn : wr ++ w1 = wn) (hs1 : rv.toList ++ rest = st1) (kk : ∀ (H1 : Heap) (locs1 : List Loc), va_P D cl wn H1 → va_D A0 wn → va_S A0 s.heap H1 locs1 → W p l e R s m args below meth c H1 locs1 (cells + rm.cells) (slots + rm.slots) Q (F0 m (pc + 3) ls st1)) : W p l e R s m args below meth c H locs cells slots Q (F0 m pc ls st0) := by
  have hF := va_free (wc := wc) hD hS hA isC hCm
  refine sm_after (mc := rm.cells) (ms := rm.slots) (a := As.toArray) ?_ hP hD hS hA isC isR hCm hRm hnR hdis hwn hs1 kk
  obtain ⟨hx, hb, hml, ho, hts⟩ := S
  have ok : ∀ w ∈ va_wsS own index y wz, w.before args s = true := fun w h => hts w (hG w h).1
  have hcm : Cond.codeWith y bytes maxL ret hh ∈ wz := by rw [hwz]; exact List.mem_cons_self
  have hcode : (Cond.codeWith y bytes maxL ret hh).before args s = true := ok _ (List.mem_append_right _ hcm)
  have hlink : (Cond.methodLink own index y).before args s = true := ok _ (by simp [va_wsS])
  have hstt : (Cond.static y).before args s = true := ok _ (by simp [va_wsS])
  have hini : (Cond.initialized y.cls).before args s = true := ok _ (by simp [va_wsS])
  have hKb : Back l R p e below s args y 3 8 (PreOf R rm.cells rm.slots (va_Pc As (sm_PZ D cl tysc wc H.size))) (PostOf (sm_Q D cl wc w1 H.size rv) rm.cells rm.slots (va_A wc H.size)) :=
    va_backW (hh := hh) (bytes := bytes) (maxL := maxL) (ret := ret) (hC H.size) sm_blindZ rfl rfl hR.1 hR.2 (pay_in hts (fun w h => hG w (List.mem_append_right _ h))) hcm (fun a' U hW => word_at hW (Or.inl (by first | rfl | simp [Cond.onTables, Cond.keeps, Cond.steady])) hini)
  intro T hT X
  subst hT
  obtain ⟨mk, methM, cM, hnamed, hmethM, -, -, -, -, -, -, hsigM⟩ := Cond.codeWith_spec hcode
  have hstatic : methM.isStatic = true := Cond.static_spec hnamed hmethM hstt
  obtain ⟨kP, hkP, -⟩ := className_of_methodNamed hnamed
  have hinitP : kP.init = .initialized := Cond.initialized_spec (findClass_of_methodNamed hnamed) hkP hini
  have hlen : As.length = methM.sig.parameters.length := by
    have h2 := hd.2.2
    rw [hsigM] at h2
    exact hn.trans (Option.some.inj h2).symm
  obtain ⟨vm₁, X₁, hstep₁⟩ := X.invokestatic hx ho hlink hnamed hmethM hstatic hkP hinitP ⟨hd.1, hd.2.1⟩ (g := F0 m pc ls st0) rfl (argsL := As) (rest := rest) hlen hst (by rw [hb]; exact hdg)
  have hpre : sm_PZ D cl tysc wc T.heap.size (T.setVm vm₁) :=
    ⟨⟨(sm_pre (av := As) (hK.sub tis hti) (hP.sub isC (sm_fm hCm)) (hD.sub isC hnC hCm) (T.setVm vm₁) rfl X₁.warmed).2, hZ.kept X₁.warmed.alike hS.2.1 hF⟩, va_Nc.moved X₁.warmed.alike hN⟩
  obtain ⟨v, ⟨U', l2, c2, s2⟩, X', ⟨g', mk', t, L, e1, e2, hq, h1, hL, h2, h3⟩, hsteps⟩ := hKb m meth c ⟨T.setVm vm₁, locs, cells, slots⟩ (F0 m pc ls rest) (.invokestatic index) mk As.toArray X₁ rfl (hsize.trans hml.symm) (by rw [hb]; exact hdg) (lv_room hW) (X₁.named hnamed) ⟨hf.1, hf.2, rfl, hpre⟩
  dsimp only [Pt.U, Pt.locs, Pt.cells, Pt.slots] at X' e1 e2 h1 h2 h3 hsteps
  subst h1; subst h2; subst h3
  exact ⟨v, (T.setVm vm₁).calling g' mk' As.toArray, t, U', L, rfl, X', hL, e1, e2, hq, fun target h => hstep₁ _ fun acts => by rw [doInvoke_state]; exact hsteps.trans h⟩
theorem sm_tab1 {a b h t : Nat} (ht : c.exceptionTable.toList.map (fun h => (h.startPc, h.endPc, h.handlerPc, h.catchType)) = [(a, b, h, t)]) : ∃ x, c.exceptionTable.toList = [x] ∧ x.startPc = a ∧ x.endPc = b ∧ x.handlerPc = h ∧ x.catchType = t := by
  cases hl : c.exceptionTable.toList with
  | nil => rw [hl] at ht; simp at ht
  | cons x r =>
    rw [hl] at ht
    cases r with
    | nil => simp at ht; exact ⟨x, rfl, ht.1, ht.2.1, ht.2.2.1, ht.2.2.2⟩
    | cons z r => simp at ht
theorem sm_tab2 {a b h t a2 b2 h2 t2 : Nat} (ht : c.exceptionTable.toList.map (fun h => (h.startPc, h.endPc, h.handlerPc, h.catchType)) = [(a, b, h, t), (a2, b2, h2, t2)]) : ∃ x z, c.exceptionTable.toList = [x, z] ∧ (x.startPc = a ∧ x.endPc = b ∧ x.handlerPc = h ∧ x.catchType = t) ∧ z.startPc = a2 ∧ z.endPc = b2 ∧ z.handlerPc = h2 ∧ z.catchType = t2 := by
  cases hl : c.exceptionTable.toList with
  | nil => rw [hl] at ht; simp at ht
  | cons x r =>
    rw [hl] at ht
    cases r with
    | nil => simp at ht
    | cons z r =>
      cases r with
      | nil => simp at ht; exact ⟨x, z, rfl, ⟨ht.1.1, ht.1.2.1, ht.1.2.2.1, ht.1.2.2.2⟩, ht.2.1, ht.2.2.1, ht.2.2.2.1, ht.2.2.2.2⟩
      | cons z2 r => simp at ht
/-- caught by the first clause -/
theorem sm_catch1 {ce : Cell} {a b h t : Nat} {tl : List (Nat × Nat × Nat × Nat)} (hown : s.vm.findClass own = some m.cls) (htab : c.exceptionTable.toList.map (fun h => (h.startPc, h.endPc, h.handlerPc, h.catchType)) = (a, b, h, t) :: tl) (ha : a ≤ pc) (hb : pc < b) (h0 : t ≠ 0)
    (hlink : (Cond.classLink own t name).before args s = true) (hcast : (Cond.castable E name).before args s = true) (hce : H[q]? = some ce) (hv : ce.vm = .none) (hcl : s.vm.findClass E = some ce.cls)
    (kk : W p l e R s m args below meth c H locs cells slots Q (F0 m h ls [.ref q])) : sm_V p l e R s m args below meth c H locs cells slots Q (F0 m pc ls rest) q := by
  cases hl : c.exceptionTable.toList with
  | nil => rw [hl] at htab; simp at htab
  | cons x r =>
    rw [hl] at htab
    simp only [List.map_cons, List.cons.injEq, Prod.mk.injEq] at htab
    obtain ⟨⟨e1, e2, e3, e4⟩, -⟩ := htab
    exact sm_vcatch hown [] x r hl (fun _ h => nomatch h) (by simp [covers, e1, e2, ha, hb]) (by rw [e4]; exact h0) (by rw [e4]; exact hlink) hcast hce hv hcl e3 kk
/-- caught by the second clause: the first one names another -/
theorem sm_catch2 {ce : Cell} {nm : String} {a b h t a2 b2 h2 t2 : Nat} (hown : s.vm.findClass own = some m.cls) (htab : c.exceptionTable.toList.map (fun h => (h.startPc, h.endPc, h.handlerPc, h.catchType)) = [(a, b, h, t), (a2, b2, h2, t2)]) (ha : a ≤ pc) (hb : pc < b) (h0 : t ≠ 0) (ha2 : a2 ≤ pc) (hb2 : pc < b2) (h02 : t2 ≠ 0)
    (hlink0 : (Cond.classLink own t nm).before args s = true) (hno : va_Nc E nm s) (hlink : (Cond.classLink own t2 name).before args s = true) (hcast : (Cond.castable E name).before args s = true) (hce : H[q]? = some ce) (hv : ce.vm = .none) (hcl : s.vm.findClass E = some ce.cls)
    (kk : W p l e R s m args below meth c H locs cells slots Q (F0 m h2 ls [.ref q])) : sm_V p l e R s m args below meth c H locs cells slots Q (F0 m pc ls rest) q := by
  obtain ⟨x, z, hl, ⟨e1, e2, e3, e4⟩, f1, f2, f3, f4⟩ := sm_tab2 htab
  exact sm_vcatch hown [x] z [] hl (fun y hy => by rw [List.mem_singleton.mp hy]; exact ⟨by simp [covers, e1, e2, ha, hb], by rw [e4]; exact h0, nm, by rw [e4]; exact hlink0, hno⟩) (by simp [covers, f1, f2, ha2, hb2]) (by rw [f4]; exact h02) (by rw [f4]; exact hlink) hcast hce hv hcl f3 kk
end SMZ
abbrev sm_wXO (cI cJ : ClassId) (x0 x1 x2 x3 o0 : Nat) (V S M : Nat → Int32) (U : Nat → Int64) : va_W := [(x0, .inr (0, [.ref x1, .ref x2, .ref x3])), (x1, .inl (cI, 16, .inl V)), (x2, .inl (cI, 16, .inl S)), (x3, .inl (cI, 256, .inl M)), (o0, .inl (cJ, 1, .inr (.inl U)))]
