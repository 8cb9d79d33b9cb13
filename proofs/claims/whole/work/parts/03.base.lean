/-! deterministic contracts: a method, from the cells w0 and the arguments av, answers rv and leaves the cells w1; nothing else of the old heap changes -/
def sm_P (D : va_G) (cl : List vw_C) (tys : List (ClassId × FieldType)) (w0 : va_W) (sz : Nat) (U : State) : Prop := U.heap.size = sz ∧ va_P D cl w0 U.heap ∧ va_K D cl tys U ∧ va_D (fun _ => True) w0
def sm_Q (D : va_G) (cl : List vw_C) (w0 w1 : va_W) (sz : Nat) (rv : Option Value) : Array Value → State → Outcome → State → Prop := fun _ st oc t => (oc = .returned rv ∧ va_P D cl w1 t.heap ∧ va_D (va_A w0 sz) w1) ∧ va_F (va_A w0 sz) st t
def sm_C (l : Launch) (y : MethodName) (ws : List Cond) (rm : Room) (D : va_G) (cl : List vw_C) (tys : List (ClassId × FieldType)) (av : List Value) (w0 : va_W) (rv : Option Value) (w1 : va_W) : Prop :=
  ∀ sz : Nat, Met l y ws rm (va_Pc av (sm_P D cl tys w0 sz)) (sm_Q D cl w0 w1 sz rv) rm.cells rm.slots (va_A w0 sz)
theorem sm_blind {D : va_G} {cl : List vw_C} {tys : List (ClassId × FieldType)} {w0 : va_W} {sz : Nat} {av : List Value} : FrameBlind (va_Pc av (sm_P D cl tys w0 sz)) :=
  fun a U g mk q => ⟨q.1, q.2.1, q.2.2.1, va_K.moved (u := U) (U := U.calling g mk a) (Vm.Alike.refl U.vm) q.2.2.2.1, q.2.2.2.2⟩
theorem sm_fm {α β : Type} {f : α → Option β} : ∀ {is : List α} {w : List β}, is.map f = w.map some → is.filterMap f = w
  | [], [], _ => rfl
  | [], _ :: _, h => by simp at h
  | _ :: _, [], h => by simp at h
  | a :: is, b :: w, h => by
    simp only [List.map_cons, List.cons.injEq] at h
    rw [List.filterMap_cons, h.1]
    simp only [sm_fm h.2]
section SMC
variable {p : Program} {l : Launch} {e : Env} {R : Room} {s : State} {m : MethodId} {args : Array Value} {below : List Frame} {meth : Method} {c : Code} {H : Heap} {locs : List Loc} {cells slots : Nat} {Q : State → Prop}
variable {pc : Nat} {ls : Array Slot} {rest st0 : List Value} {a : Array Value} {A0 : Nat → Prop} {H0 : Heap} {mc ms : Nat} {D : va_G} {cl : List vw_C} {tys tysc : List (ClassId × FieldType)} {ws wc wr w1 wn : va_W} {rv : Option Value} {st1 : List Value}
/-- behind a call: the rest of the caller's cells, then the callee's -/
theorem sm_after (hr : va_Run p l e R s m args below meth c H locs cells slots mc ms (F0 m pc ls st0) rest (sm_Q D cl wc w1 H.size rv a) (va_A wc H.size))
    (hP : va_P D cl ws H) (hD : va_D A0 ws) (hS : va_S A0 H0 H locs) (hA : ∀ q, H0.size ≤ q → A0 q) (isC isR : List Nat) (hC : isC.map (fun i => ws[i]?) = wc.map some) (hR : isR.map (fun i => ws[i]?) = wr.map some) (hn : va_nd isR = true) (hdis : ∀ i ∈ isR, i ∉ isC)
    (hwn : wr ++ w1 = wn) (hs1 : rv.toList ++ rest = st1) (kk : ∀ (H1 : Heap) (locs1 : List Loc), va_P D cl wn H1 → va_D A0 wn → va_S A0 H0 H1 locs1 → W p l e R s m args below meth c H1 locs1 (cells + mc) (slots + ms) Q (F0 m (pc + 3) ls st1)) : W p l e R s m args below meth c H locs cells slots Q (F0 m pc ls st0) := by
  have hF := va_free (wc := wc) hD hS hA isC hC
  subst hwn; subst hs1
  intro T hT X
  obtain ⟨v, st₀, t, T', L, h0, X', hL, e1, e2, ⟨⟨hv, hp1, hd1⟩, hz, hk⟩, st⟩ := hr T hT X
  cases hv
  rw [h0] at hz hk
  have hk' : ∀ q : Nat, q < H.size → ¬ va_A wc H.size q → T'.heap[q]? = H[q]? := fun q h1 h2 => by rw [e1]; exact hk q h1 h2
  obtain ⟨jP, jD⟩ := va_join (w1 := w1) hP hD isC isR hC hR hn hdis hk' hF (by rw [e1]; exact hp1) hd1
  obtain ⟨t2, a1, b1⟩ := kk T'.heap (locs ++ L) jP jD
    ⟨Nat.le_trans hS.1 (by rw [e1]; exact hz), fun q h1 h2 => by rw [e1, hk q (Nat.lt_of_lt_of_le h1 hS.1) (fun z => h2 (hF q z))]; exact hS.2.1 q h1 h2, fun q hq => by
      rcases List.mem_append.mp hq with h | h
      · exact hS.2.2 q h
      · exact hF _ (hL q h)⟩ T' rfl X'
  exact ⟨t2, st t2 a1, b1⟩
variable {y : MethodName} {bytes cc : ByteArray} {maxL nL n index : Nat} {ret : Option FieldType} {wz : List Cond} {rm : Room} {Ts : List Cond} {own C : String} {b : Nat} {As : List Value}
theorem sm_pre {av : List Value} (hK : va_K D cl tys s) (hP : va_P D cl wc H) (hD : va_D A0 wc) : ∀ U : State, U.heap = H → s.WarmedH U.vm → va_Pc av (sm_P D cl tys wc H.size) av.toArray U :=
  fun U hU hW => ⟨rfl, by rw [hU], by rw [hU]; exact hP, va_K.moved hW.alike hK, hD.weaken (fun _ _ _ _ => trivial)⟩
/-- a static method -/
theorem sm_callS (S : CallFix p m c cc nL s args Ts own) (hC : sm_C l y wz rm D cl tysc As wc rv w1) (cw : CallB R s args own index y bytes maxL ret wz rm rm.cells rm.slots n ∧ (Cond.static y).before args s = true)
    (hK : va_K D cl tys s) (tis : List Nat) (hti : tis.filterMap (fun i => tys[i]?) = tysc) (hP : va_P D cl ws H) (hD : va_D A0 ws) (hS : va_S A0 H0 H locs) (hA : ∀ q, H0.size ≤ q → A0 q)
    (isC isR : List Nat) (hCm : isC.map (fun i => ws[i]?) = wc.map some) (hRm : isR.map (fun i => ws[i]?) = wr.map some) (hnC : va_nd isC = true) (hnR : va_nd isR = true) (hdis : ∀ i ∈ isR, i ∉ isC)
    (hn : As.length = n) (hsize : ls.size = nL) (hst : st0 = As.reverse ++ rest) (hW : (rest.map fun v => v.category).sum ≤ 8) (hdg : decode cc pc = .ok (.invokestatic index, 3)) (hf : cells + rm.cells ≤ R.cells ∧ slots + rm.slots ≤ R.slots)
    (hwn : wr ++ w1 = wn) (hs1 : rv.toList ++ rest = st1) (kk : ∀ (H1 : Heap) (locs1 : List Loc), va_P D cl wn H1 → va_D A0 wn → va_S A0 H0 H1 locs1 → W p l e R s m args below meth c H1 locs1 (cells + rm.cells) (slots + rm.slots) Q (F0 m (pc + 3) ls st1)) : W p l e R s m args below meth c H locs cells slots Q (F0 m pc ls st0) :=
  sm_after (va_runS (g := F0 m pc ls st0) S (hC H.size) cw ⟨sm_blind, sm_pre (hK.sub tis hti) (hP.sub isC (sm_fm hCm)) (hD.sub isC hnC hCm)⟩ rfl hn hsize hst (lv_room hW) hdg hf) hP hD hS hA isC isR hCm hRm hnR hdis hwn hs1 kk
/-- an instance method, of a receiver whose class is known -/
theorem sm_callV (S : CallFix p m c cc nL s args Ts own) (hC : sm_C l y wz rm D cl tysc (.ref b :: As) wc rv w1) (cw : CallW R s args own C index y bytes maxL ret wz rm rm.cells rm.slots n)
    (hK : va_K D cl tys s) (tis : List Nat) (hti : tis.filterMap (fun i => tys[i]?) = tysc) (hP : va_P D cl ws H) (hD : va_D A0 ws) (hS : va_S A0 H0 H locs) (hA : ∀ q, H0.size ≤ q → A0 q)
    (q0 : Nat) {ci : Nat} {fs : List Value} {T : u_T} {N : Nat} (he : ws[q0]? = some (b, .inr (ci, fs))) (hc : cl[ci]? = some (C, T, N))
    (isC isR : List Nat) (hCm : isC.map (fun i => ws[i]?) = wc.map some) (hRm : isR.map (fun i => ws[i]?) = wr.map some) (hnC : va_nd isC = true) (hnR : va_nd isR = true) (hdis : ∀ i ∈ isR, i ∉ isC)
    (hn : As.length = n) (hsize : ls.size = nL) (hst : st0 = As.reverse ++ .ref b :: rest) (hW : (rest.map fun v => v.category).sum ≤ 8) (hdg : decode cc pc = .ok (.invokevirtual index, 3)) (hf : cells + rm.cells ≤ R.cells ∧ slots + rm.slots ≤ R.slots)
    (hwn : wr ++ w1 = wn) (hs1 : rv.toList ++ rest = st1) (kk : ∀ (H1 : Heap) (locs1 : List Loc), va_P D cl wn H1 → va_D A0 wn → va_S A0 H0 H1 locs1 → W p l e R s m args below meth c H1 locs1 (cells + rm.cells) (slots + rm.slots) Q (F0 m (pc + 3) ls st1)) : W p l e R s m args below meth c H locs cells slots Q (F0 m pc ls st0) :=
  sm_after (va_runV (g := F0 m pc ls st0) S (hC H.size) cw ⟨sm_blind, va_recv hK hP hc he, sm_pre (hK.sub tis hti) (hP.sub isC (sm_fm hCm)) (hD.sub isC hnC hCm)⟩ rfl hn hsize hst (lv_room hW) hdg hf) hP hD hS hA isC isR hCm hRm hnR hdis hwn hs1 kk
/-- a constructor -/
theorem sm_callI (S : CallFix p m c cc nL s args Ts own) (hC : sm_C l y wz rm D cl tysc (.ref b :: As) wc rv w1) (cw : CallB R s args own index y bytes maxL none wz rm rm.cells rm.slots n ∧ y.name = "<init>" ∧ (Cond.instanceMethod y).before args s = true)
    (hK : va_K D cl tys s) (tis : List Nat) (hti : tis.filterMap (fun i => tys[i]?) = tysc) (hP : va_P D cl ws H) (hD : va_D A0 ws) (hS : va_S A0 H0 H locs) (hA : ∀ q, H0.size ≤ q → A0 q)
    (isC isR : List Nat) (hCm : isC.map (fun i => ws[i]?) = wc.map some) (hRm : isR.map (fun i => ws[i]?) = wr.map some) (hnC : va_nd isC = true) (hnR : va_nd isR = true) (hdis : ∀ i ∈ isR, i ∉ isC)
    (hn : As.length = n) (hsize : ls.size = nL) (hst : st0 = As.reverse ++ .ref b :: rest) (hW : (rest.map fun v => v.category).sum ≤ 8) (hdg : decode cc pc = .ok (.invokespecial index, 3)) (hf : cells + rm.cells ≤ R.cells ∧ slots + rm.slots ≤ R.slots)
    (hwn : wr ++ w1 = wn) (hs1 : rv.toList ++ rest = st1) (kk : ∀ (H1 : Heap) (locs1 : List Loc), va_P D cl wn H1 → va_D A0 wn → va_S A0 H0 H1 locs1 → W p l e R s m args below meth c H1 locs1 (cells + rm.cells) (slots + rm.slots) Q (F0 m (pc + 3) ls st1)) : W p l e R s m args below meth c H locs cells slots Q (F0 m pc ls st0) :=
  sm_after (va_runI (g := F0 m pc ls st0) S (hC H.size) cw ⟨sm_blind, sm_pre (hK.sub tis hti) (hP.sub isC (sm_fm hCm)) (hD.sub isC hnC hCm)⟩ rfl hn hsize hst (lv_room hW) hdg hf) hP hD hS hA isC isR hCm hRm hnR hdis hwn hs1 kk
/-- answers -/
theorem sm_iret {v : Int32} (hx : p.tables.exec = Jvm.exec) (hb : c.code = cc) (hr : meth.sig.returnType = some .int) (hlocks : meth.locks = false) (hS : va_S (va_A wc s.heap.size) s.heap H locs) (hP : va_P D cl w1 H) (hD : va_D (va_A wc s.heap.size) w1)
    (hdg : decode cc pc = .ok (.ireturn, 1)) : W p l e R s m args below meth c H locs cells slots (MQ below (sm_Q D cl wc w1 s.heap.size (some (.int v))) args s cells slots (va_A wc s.heap.size)) (F0 m pc ls [.int v]) :=
  W.iret (v := v) hx hb hr (fun t ht hW => ⟨⟨rfl, by rw [ht]; exact hP, hD⟩, hS.F ht⟩) hS.2.2 hdg hlocks
end SMC
theorem sm_loop {P : Nat → Prop} (n : Nat) (hx : P n) (hs : ∀ k, k < n → P (k + 1) → P k) : ∀ k, k ≤ n → P k := by
  intro k hk
  obtain ⟨d, hd⟩ : ∃ d, d = n - k := ⟨_, rfl⟩
  induction d generalizing k with
  | zero => rw [show k = n by omega]; exact hx
  | succ d ih => exact hs k (by omega) (ih (k + 1) (by omega) (by omega))

def sm_ushr (x y : Int32) : Int32 := (x.toUInt32 >>> (y.toUInt32 &&& Int32.toUInt32 31)).toInt32
def sm_lshl (x : Int64) (y : Int32) : Int64 := x <<< (y.toInt64 &&& 63)
def sm_lshr (x : Int64) (y : Int32) : Int64 := x >>> (y.toInt64 &&& 63)
def sm_lushr (x : Int64) (y : Int32) : Int64 := (x.toUInt64 >>> (y.toInt64.toUInt64 &&& Int64.toUInt64 63)).toInt64
def sm_bI (b : Bool) : Int32 := if b then 1 else 0
theorem sm_bI0 {b : Bool} (h : sm_bI b = 0) : b = false := by cases b <;> first | rfl | exact absurd h (by decide)
theorem sm_bI1 {b : Bool} (h : ¬ sm_bI b = 0) : b = true := by cases b <;> first | rfl | exact absurd rfl h
theorem sm_bIn (b : Bool) : narrow .boolean (.int (sm_bI b)) = .int (sm_bI b) := by cases b <;> decide +kernel
theorem sm_bIv (b : Bool) : vp_nar .boolean (sm_bI b) = sm_bI b := by cases b <;> decide +kernel
theorem sm_cP {D : va_G} {cl : List vw_C} {w w' : va_W} {H : Heap} (h : w = w') (hP : va_P D cl w H) : va_P D cl w' H := h ▸ hP
theorem sm_cD {A : Nat → Prop} {w w' : va_W} (h : w = w') (hD : va_D A w) : va_D A w' := h ▸ hD
section SMR
variable {p : Program} {l : Launch} {e : Env} {R : Room} {s : State} {m : MethodId} {args : Array Value} {below : List Frame} {meth : Method} {c : Code} {H : Heap} {locs : List Loc} {cells slots : Nat} {Q : State → Prop}
variable {cc : ByteArray} {pc : Nat} {ls : Array Slot} {rest : List Value} {D : va_G} {cl : List vw_C} {A : Nat → Prop} {a : Nat} {tys : List (ClassId × FieldType)} {ws wc w1 : va_W} {H0 : Heap}
theorem sm_eqi {x y : Int32} (h : x = y) (k : W p l e R s m args below meth c H locs cells slots Q (F0 m pc ls (.int y :: rest))) : W p l e R s m args below meth c H locs cells slots Q (F0 m pc ls (.int x :: rest)) := h ▸ k
theorem sm_eql {x y : Int64} (h : x = y) (k : W p l e R s m args below meth c H locs cells slots Q (F0 m pc ls (.long y :: rest))) : W p l e R s m args below meth c H locs cells slots Q (F0 m pc ls (.long x :: rest)) := h ▸ k
/-- roads that meet: what lies there on top of the stack is t, by whatever road -/
theorem sm_join {pcJ nL : Nat} {t : Int32} {lv : List (Nat × Value)} {w : va_W} {st : List Value}
    (k : (∀ (H : Heap) (locs : List Loc) (ls : Array Slot), lv_has ls nL lv → va_P D cl w H → va_D A w → va_S A H0 H locs → W p l e R s m args below meth c H locs cells slots Q (F0 m pcJ ls (.int t :: rest))) → W p l e R s m args below meth c H locs cells slots Q (F0 m pc ls st))
    (hj : ∀ (H : Heap) (locs : List Loc) (ls : Array Slot), lv_has ls nL lv → va_P D cl w H → va_D A w → va_S A H0 H locs → W p l e R s m args below meth c H locs cells slots Q (F0 m pcJ ls (.int t :: rest))) : W p l e R s m args below meth c H locs cells slots Q (F0 m pc ls st) := k hj
/-- a loop of n rounds: locals and cells behind k of them are lv k, w k -/
theorem sm_loopW {nL : Nat} {lv : Nat → List (Nat × Value)} {w : Nat → va_W} (n : Nat)
    (hx : ∀ (H : Heap) (locs : List Loc) (ls : Array Slot), lv_has ls nL (lv n) → va_P D cl (w n) H → va_D A (w n) → va_S A H0 H locs → W p l e R s m args below meth c H locs cells slots Q (F0 m pc ls rest))
    (hs : ∀ k, k < n → (∀ (H : Heap) (locs : List Loc) (ls : Array Slot), lv_has ls nL (lv (k + 1)) → va_P D cl (w (k + 1)) H → va_D A (w (k + 1)) → va_S A H0 H locs → W p l e R s m args below meth c H locs cells slots Q (F0 m pc ls rest)) →
      ∀ (H : Heap) (locs : List Loc) (ls : Array Slot), lv_has ls nL (lv k) → va_P D cl (w k) H → va_D A (w k) → va_S A H0 H locs → W p l e R s m args below meth c H locs cells slots Q (F0 m pc ls rest))
    (hl : lv_has ls nL (lv 0)) (hP : va_P D cl (w 0) H) (hD : va_D A (w 0)) (hS : va_S A H0 H locs) : W p l e R s m args below meth c H locs cells slots Q (F0 m pc ls rest) :=
  sm_loop (P := fun k => ∀ (H : Heap) (locs : List Loc) (ls : Array Slot), lv_has ls nL (lv k) → va_P D cl (w k) H → va_D A (w k) → va_S A H0 H locs → W p l e R s m args below meth c H locs cells slots Q (F0 m pc ls rest)) n hx hs 0 (Nat.zero_le _) H locs ls hl hP hD hS
theorem sm_ifb_eq (hexec : p.tables.exec = Jvm.exec) (hb : c.code = cc) {b : Bool} {off : Int} {tgt : Nat} (hdg : decode cc pc = .ok (.ifCond .eq off, 3)) (ht : (pc : Int) + off = (tgt : Int))
    (kt : b = false → W p l e R s m args below meth c H locs cells slots Q (F0 m tgt ls rest)) (kf : b = true → W p l e R s m args below meth c H locs cells slots Q (F0 m (pc + 3) ls rest)) : W p l e R s m args below meth c H locs cells slots Q (F0 m pc ls (.int (sm_bI b) :: rest)) :=
  lv_if_eq hexec hb hdg ht (fun h => kt (sm_bI0 h)) (fun h => kf (sm_bI1 h))
theorem sm_ifb_ne (hexec : p.tables.exec = Jvm.exec) (hb : c.code = cc) {b : Bool} {off : Int} {tgt : Nat} (hdg : decode cc pc = .ok (.ifCond .ne off, 3)) (ht : (pc : Int) + off = (tgt : Int))
    (kt : b = true → W p l e R s m args below meth c H locs cells slots Q (F0 m tgt ls rest)) (kf : b = false → W p l e R s m args below meth c H locs cells slots Q (F0 m (pc + 3) ls rest)) : W p l e R s m args below meth c H locs cells slots Q (F0 m pc ls (.int (sm_bI b) :: rest)) :=
  lv_if_ne hexec hb hdg ht (fun h => kt (sm_bI1 h)) (fun h => kf (sm_bI0 h))
theorem sm_iast (hexec : p.tables.exec = Jvm.exec) (hb : c.code = cc) (hK : va_K D cl tys s) (hP : va_P D cl ws H) (hD : va_D A ws) (hS : va_S A H0 H locs) (q0 t0 : Nat) {cA : ClassId} {n : Nat} {f f' : Nat → Int32} (ha : ws[q0]? = some (a, .inl (cA, n, .inl f))) (ht : tys[t0]? = some (cA, .int)) {i : Int32} {x : Int32} (hin : vp_in i n) (hdg : decode cc pc = .ok (.iastore, 1))
    (hf : upd f i.toNatClampNeg x = f') {ws' : va_W} (hw : ws.set q0 (a, .inl (cA, n, .inl f')) = ws')
    (kk : ∀ (H1 : Heap) (locs1 : List Loc), va_P D cl ws' H1 → va_D A ws' → va_S A H0 H1 locs1 → W p l e R s m args below meth c H1 locs1 cells slots Q (F0 m (pc + 1) ls rest)) : W p l e R s m args below meth c H locs cells slots Q (F0 m pc ls (.int x :: .int i :: .ref a :: rest)) := by
  subst hf; subst hw
  exact va_iast hexec hb hK hP hD hS q0 t0 ha ht hin hdg kk
theorem sm_zast (hexec : p.tables.exec = Jvm.exec) (hb : c.code = cc) (hK : va_K D cl tys s) (hP : va_P D cl ws H) (hD : va_D A ws) (hS : va_S A H0 H locs) (q0 t0 : Nat) {cA : ClassId} {n : Nat} {f f' : Nat → Int32} (ha : ws[q0]? = some (a, .inl (cA, n, .inl f))) (ht : tys[t0]? = some (cA, .boolean)) {i : Int32} {b : Bool} (hin : vp_in i n) (hdg : decode cc pc = .ok (.bastore, 1))
    (hf : upd f i.toNatClampNeg (sm_bI b) = f') {ws' : va_W} (hw : ws.set q0 (a, .inl (cA, n, .inl f')) = ws')
    (kk : ∀ (H1 : Heap) (locs1 : List Loc), va_P D cl ws' H1 → va_D A ws' → va_S A H0 H1 locs1 → W p l e R s m args below meth c H1 locs1 cells slots Q (F0 m (pc + 1) ls rest)) : W p l e R s m args below meth c H locs cells slots Q (F0 m pc ls (.int (sm_bI b) :: .int i :: .ref a :: rest)) := by
  subst hf; subst hw
  refine va_zast hexec hb hK hP hD hS q0 t0 ha ht hin hdg ?_
  rw [sm_bIv]
  exact kk
theorem sm_last (hexec : p.tables.exec = Jvm.exec) (hb : c.code = cc) (hK : va_K D cl tys s) (hP : va_P D cl ws H) (hD : va_D A ws) (hS : va_S A H0 H locs) (q0 t0 : Nat) {cA : ClassId} {n : Nat} {f f' : Nat → Int64} (ha : ws[q0]? = some (a, .inl (cA, n, .inr (.inl f)))) (ht : tys[t0]? = some (cA, .long)) {i : Int32} {x : Int64} (hin : vp_in i n) (hdg : decode cc pc = .ok (.lastore, 1))
    (hf : vp_updL f i.toNatClampNeg x = f') {ws' : va_W} (hw : ws.set q0 (a, .inl (cA, n, .inr (.inl f'))) = ws')
    (kk : ∀ (H1 : Heap) (locs1 : List Loc), va_P D cl ws' H1 → va_D A ws' → va_S A H0 H1 locs1 → W p l e R s m args below meth c H1 locs1 cells slots Q (F0 m (pc + 1) ls rest)) : W p l e R s m args below meth c H locs cells slots Q (F0 m pc ls (.long x :: .int i :: .ref a :: rest)) := by
  subst hf; subst hw
  exact va_last hexec hb hK hP hD hS q0 t0 ha ht hin hdg kk
theorem sm_put (hexec : p.tables.exec = Jvm.exec) (hb : c.code = cc) {own ref C : String} {T : u_T} {N ci index : Nat} {Ts : List Cond} (hts : ∀ w ∈ Ts, w.before args s = true) (hin : ∀ w ∈ u_ws C T N, w ∈ Ts) (ty0 : Nat → FieldType) (hty : ∀ k, k < N → parseFieldDescriptor (T k).2.2.1 = some (ty0 k)) (hnm : ∀ a, a < N → ∀ b, b < N → a ≠ b → (T a).2.1 ≠ (T b).2.1) (hown : s.vm.findClass own = some m.cls) (hK : va_K D cl tys s) (hP : va_P D cl ws H) (hD : va_D A ws) (hS0 : va_S A H0 H locs) (q0 : Nat) {fs : List Value} (he : ws[q0]? = some (a, .inr (ci, fs))) (hc : cl[ci]? = some (C, T, N)) (k : Nat) (hk : k < N) (hlink : (Cond.fieldLink own index ref (T k).2.1 (T k).2.2.1).before args s = true) (hsame : ∀ x, s.fieldFound? (T k).1 (T k).2.1 (T k).2.2.1 = some x → s.fieldFound? ref (T k).2.1 (T k).2.2.1 = some x) (hfin : (T k).2.2.2 = false) {ty : FieldType} {v : Value} (hd : parseFieldDescriptor (T k).2.2.1 = some ty) (hn : narrow ty v = v) (hfit : fits ty v = true) (hl : k < fs.length)
    (hdg : decode cc pc = .ok (.putfield index, 3)) {ws' : va_W} (hw : ws.set q0 (a, .inr (ci, fs.set k v)) = ws') (kk : ∀ (H1 : Heap) (locs1 : List Loc), va_P D cl ws' H1 → va_D A ws' → va_S A H0 H1 locs1 → W p l e R s m args below meth c H1 locs1 cells slots Q (F0 m (pc + 3) ls rest)) : W p l e R s m args below meth c H locs cells slots Q (F0 m pc ls (v :: .ref a :: rest)) := by
  subst hw
  exact va_put hexec hb hts hin ty0 hty hnm hown hK hP hD hS0 q0 he hc k hk hlink hsame hfin hd hn hfit hl hdg kk
theorem sm_zret {b : Bool} (hx : p.tables.exec = Jvm.exec) (hb : c.code = cc) (hr : meth.sig.returnType = some .boolean) (hlocks : meth.locks = false) (hS : va_S (va_A wc s.heap.size) s.heap H locs) (hP : va_P D cl w1 H) (hD : va_D (va_A wc s.heap.size) w1)
    (hdg : decode cc pc = .ok (.ireturn, 1)) : W p l e R s m args below meth c H locs cells slots (MQ below (sm_Q D cl wc w1 s.heap.size (some (.int (sm_bI b)))) args s cells slots (va_A wc s.heap.size)) (F0 m pc ls [.int (sm_bI b)]) :=
  W.zret (v := sm_bI b) (ty := .boolean) hx hb hr (sm_bIn b) (fun t ht hW => ⟨⟨rfl, by rw [ht]; exact hP, hD⟩, hS.F ht⟩) hS.2.2 hdg hlocks
theorem sm_lret {v : Int64} (hx : p.tables.exec = Jvm.exec) (hb : c.code = cc) (hr : meth.sig.returnType = some .long) (hlocks : meth.locks = false) (hS : va_S (va_A wc s.heap.size) s.heap H locs) (hP : va_P D cl w1 H) (hD : va_D (va_A wc s.heap.size) w1)
    (hdg : decode cc pc = .ok (.lreturn, 1)) : W p l e R s m args below meth c H locs cells slots (MQ below (sm_Q D cl wc w1 s.heap.size (some (.long v))) args s cells slots (va_A wc s.heap.size)) (F0 m pc ls [.long v]) :=
  W.lret (v := v) hx hb hr (fun t ht hW => ⟨⟨rfl, by rw [ht]; exact hP, hD⟩, hS.F ht⟩) hS.2.2 hdg hlocks
theorem sm_vret (hx : p.tables.exec = Jvm.exec) (hb : c.code = cc) (hr : meth.sig.returnType = none) (hlocks : meth.locks = false) (hS : va_S (va_A wc s.heap.size) s.heap H locs) (hP : va_P D cl w1 H) (hD : va_D (va_A wc s.heap.size) w1)
    (hdg : decode cc pc = .ok (.return_, 1)) : W p l e R s m args below meth c H locs cells slots (MQ below (sm_Q D cl wc w1 s.heap.size none) args s cells slots (va_A wc s.heap.size)) (F0 m pc ls []) :=
  W.vret hx hb hr (fun t ht hW => ⟨⟨rfl, by rw [ht]; exact hP, hD⟩, hS.F ht⟩) hS.2.2 hdg hlocks
end SMR
/-- a contract out of the walk of a method's body -/
theorem sm_start {l : Launch} {y : MethodName} {ws ws' : List Cond} {rm : Room} {D : va_G} {cl : List vw_C} {tys : List (ClassId × FieldType)} {av : List Value} {w0 w1 : va_W} {rv : Option Value} {cc : ByteArray} {maxL : Nat} {ret : Option FieldType} {lv : List (Nat × Value)}
    (hy : plainName y.cls = true) (hw : ws = Cond.code y cc maxL ret :: ws') (hsl : (lg_sl av).length ≤ maxL) (hlv : lv_args 0 av = lv)
    (body : ∀ (p : Program) (e : Env) (s : State) (m : MethodId) (below : List Frame) (meth : Method) (c : Code), p.tables.exec = Jvm.exec → c.code = cc → meth.sig.returnType = ret → (∀ w ∈ ws, w.before av.toArray s = true) → s.vm.findClass y.cls = some m.cls → meth.locks = false → c.maxLocals = maxL → meth.name = y.name →
      va_K D cl tys s → va_P D cl w0 s.heap → va_D (va_A w0 s.heap.size) w0 → va_S (va_A w0 s.heap.size) s.heap s.heap [] → (∀ q : Nat, s.heap.size ≤ q → va_A w0 s.heap.size q) → ∀ ls : Array Slot, lv_has ls maxL lv →
      W p l e rm s m av.toArray below meth c s.heap [] 0 0 (MQ below (sm_Q D cl w0 w1 s.heap.size rv) av.toArray s rm.cells rm.slots (va_A w0 s.heap.size)) (F0 m 0 ls [])) : sm_C l y ws rm D cl tys av w0 rv w1 := by
  subst hlv
  intro sz
  refine Met.ofW (cc := cc) (maxL := maxL) (ret := ret) hy hw ?_
  intro p e s m args below meth c s₁ B hml hv
  obtain ⟨rfl, hsz, hP, hK, hD0⟩ := hv
  subst hsz
  rw [lg_entry_eq]
  exact body p e s m below meth c B.exec B.bytes B.returns (atoms_spec (ws := ws) B.pre) (findClass_of_methodNamed B.named) B.notSynchronized hml (name_of_methodNamed B.named B.method).1 hK hP (hD0.self) va_S.rf (fun q h => Or.inr h) _ (lv_entry av hsl)
