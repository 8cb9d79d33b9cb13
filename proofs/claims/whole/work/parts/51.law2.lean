/-! THE CLAIM OUT OF ONE WALK OF THE LAW'S BODY. Your part is whole_start (and what it stands on); all else here is the same for every law, but numbers. -/
def R_law : String := "ShadowMathLaw"
def lw_P (b : Addr) (xs : List Int32) (args : Array Value) (s : State) : Prop := args = #[.ref b] ∧ s.IntsAt b xs ∧ xs.length ≤ 2560 ∧ (Jvm.Cond.and given_1 narrow_1).before args s = true
def lw_Q (_ : Array Value) (s : State) (o : Outcome) (t : State) : Prop := o = .returned (some (.int 1)) ∧ Framed s o t [] 1041 13705
def lw_Z (below : List Frame) (a : Array Value) (s : State) : State → Prop := fun t => ∃ o, t.status = .running ∧ Ended t below o ∧ lw_Q a s o t
/-- the law's own end, with 1 on the stack, nothing written that was there before, its room as the claim has it -/
theorem lw_ret {p : Program} {l : Launch} {e : Env} {s : State} {m : MethodId} {below : List Frame} {meth : Method} {c : Code} {b : Nat} (hx : p.tables.exec = Jvm.exec) (hb : c.code = code) (hr : meth.sig.returnType = ret) (hlocks : meth.locks = false) {pc : Nat} {H : Heap} {ls : Array Slot} (hdg : decode code pc = .ok (.ireturn, 1)) : W p l e room_1 s m #[Value.ref b] below meth c H [] 1041 13705 (lw_Z below #[Value.ref b] s) (F0 m pc ls [.int 1]) := by
  intro T hT X
  obtain ⟨fs, hret, hrun, hended, hW, hframe⟩ := X.leave (v := some (.int 1)) (hlocks := hlocks) (fun h => by rw [hr] at h; cases h)
  have hmeth' : T.vm.method? m = some meth := X.method'
  refine ⟨T.setFrames fs, ?_, .returned (some (.int 1)), hrun, hended, rfl, ⟨_, rfl⟩, hW, hframe⟩
  jvm_step X.here [X.here.top, hx, hb, hdg, hmeth', hr, ret, narrow_b1]
  (try refine ⟨rfl, ?_⟩); (try refine ⟨rfl, ?_⟩)
  first | (intro acts; rw [hret _ acts rfl rfl rfl]) | rw [hret _ _ rfl rfl rfl]
  exact Steps.refl _
/-- what holds at the law's entry: the machine, the code, the tables' words (any of lw_tbl by 'hts w (by decide +kernel)'), the script of L ints xs at the cell b, what the Statement gives of the start (any of its parts by flat_of_before) -/
def lw_At (p : Program) (s : State) (m : MethodId) (meth : Method) (c : Code) (b L : Nat) (xs : Nat → Int32) : Prop :=
  p.tables.exec = Jvm.exec ∧ c.code = code ∧ meth.sig.returnType = ret ∧ c.maxLocals = 7 ∧ s.vm.findClass R_law = some m.cls ∧ (∀ w ∈ lw_tbl, w.before #[Value.ref b] s = true) ∧ va_X b L xs s s.heap ∧ b < s.heap.size ∧ meth.locks = false ∧ (Jvm.Cond.and given_1 narrow_1).before #[Value.ref b] s = true
theorem lx_gt {L i : Nat} (h : L < i + 5) (hL : i + 5 < 2 ^ 30) : nI L - nI 5 < nI i := by
  rw [Int32.lt_iff_toInt_lt, pk_sub_toInt (by omega) (by decide), nI_toInt (by omega)]
  omega
theorem lx_ngt {L i : Nat} (h : i + 5 ≤ L) (hL : L < 2 ^ 30) : ¬ nI L - nI 5 < nI i := by
  rw [Int32.lt_iff_toInt_lt, pk_sub_toInt (by omega) (by decide), nI_toInt (by omega)]
  omega
theorem lx_inc (j : Nat) : nI (5 * j) + Int32.ofInt 5 = nI (5 * (j + 1)) := by
  rw [show Int32.ofInt 5 = nI 5 from by decide +kernel, nI_add, Nat.mul_succ]
set_option maxHeartbeats 4000000 in
set_option maxRecDepth 100000 in
theorem lx_loop {p : Program} {l : Launch} {e : Env} {s : State} {m : MethodId} {below : List Frame} {meth : Method} {c : Code} {b L : Nat} {xs : Nat → Int32} {D : va_G} {cI cZ cJ : ClassId} {x0 x1 x2 x3 o0 m0 m1 m2 m3 m4 m5 m6 : Nat} (hlt : l.stackTraces = false) (hF : lx_F p s m c b L xs D cI cZ cJ) (hL : L ≤ 2560) (hrt : meth.sig.returnType = ret) (hlocks : meth.locks = false) (j : Nat) (hj : j ≤ L / 5) : ∀ (V S M : Nat → Int32) (U : Nat → Int64) (err O G : Int32) (H : Heap) (locs : List Loc) (ls : Array Slot), (∀ a, M a = M a &&& 65535) → lv_has ls 7 (lx_l b x0 m0 o0 (5 * j)) → va_P D vwCl (lx_w cI cZ cJ x0 x1 x2 x3 o0 m0 m1 m2 m3 m4 m5 m6 V S M U err O G) H → va_D (lx_A s) (lx_w cI cZ cJ x0 x1 x2 x3 o0 m0 m1 m2 m3 m4 m5 m6 V S M U err O G) → va_S (lx_A s) s.heap H locs → W p l e room_1 s m #[Value.ref b] below meth c H locs (12 + j) (5483 + 6 * j) (lw_Z below #[Value.ref b] s) (F0 m 23 ls []) := by
  refine sm_loop (P := fun j => ∀ (V S M : Nat → Int32) (U : Nat → Int64) (err O G : Int32) (H : Heap) (locs : List Loc) (ls : Array Slot), (∀ a, M a = M a &&& 65535) → lv_has ls 7 (lx_l b x0 m0 o0 (5 * j)) → va_P D vwCl (lx_w cI cZ cJ x0 x1 x2 x3 o0 m0 m1 m2 m3 m4 m5 m6 V S M U err O G) H → va_D (lx_A s) (lx_w cI cZ cJ x0 x1 x2 x3 o0 m0 m1 m2 m3 m4 m5 m6 V S M U err O G) → va_S (lx_A s) s.heap H locs → W p l e room_1 s m #[Value.ref b] below meth c H locs (12 + j) (5483 + 6 * j) (lw_Z below #[Value.ref b] s) (F0 m 23 ls [])) (L / 5) ?_ ?_ j hj
  · intro V S M U err O G H locs ls hM hl hP hD hS
    obtain ⟨hx, hb, hml, hown, hts, hX, hbl, hZ, hN, hK⟩ := hF
    have hbA : ¬ lx_A s b := Nat.not_le.mpr hbl
    refine lv_iload hx hb dL_law_23 (lv_at hl 4 rfl) ?_
    refine lv_aload_n hx hb dL_law_25 rfl (lv_at hl 0 rfl) ?_
    refine va_slen hx hb hX hbl hbA hS dL_law_26 ?_
    refine lv_iconst (v := nI 5) hx hb dL_law_27 (by decide +kernel) ?_
    refine lv_isub hx hb dL_law_28 ?_
    refine lv_icmp_gt (tgt := 671) hx hb dL_law_29 rfl (fun _ => ?_) (fun h => absurd (lx_gt (by omega) (by omega)) h)
    refine lv_iconst (v := 1) hx hb dL_law_671 (by decide) ?_
    refine va_forget (fun q h => hS.2.2 q h) ?_
    refine W.widen (k := 1041) (n := 13705) (by omega) (by omega) ?_
    exact lw_ret hx hb hrt hlocks dL_law_672
  · intro j hj0 IH V S M U err O G H locs ls hM hl hP hD hS
    have F1 := hF
    obtain ⟨hx, hb, hml, hown, hts, hX, hbl, hZ, hN, hK⟩ := F1
    have hbA : ¬ lx_A s b := Nat.not_le.mpr hbl
    have hi : 5 * j + 5 ≤ L := by omega
    have hcl : 12 + j + 1 ≤ 1041 := by omega
    have hsl : 5483 + 6 * j + 6 ≤ 13705 := by omega
    refine lv_iload hx hb dL_law_23 (lv_at hl 4 rfl) ?_
    refine lv_aload_n hx hb dL_law_25 rfl (lv_at hl 0 rfl) ?_
    refine va_slen hx hb hX hbl hbA hS dL_law_26 ?_
    refine lv_iconst (v := nI 5) hx hb dL_law_27 (by decide +kernel) ?_
    refine lv_isub hx hb dL_law_28 ?_
    refine lv_icmp_gt (tgt := 671) hx hb dL_law_29 rfl (fun h => absurd h (lx_ngt hi (by omega))) (fun _ => ?_)
    have K : ∀ (V S M : Nat → Int32) (U : Nat → Int64) (err O G : Int32) (H : Heap) (locs : List Loc) (ls : Array Slot), (∀ a, M a = M a &&& 65535) → lv_has ls 7 (lx_l b x0 m0 o0 (5 * j)) → va_P D vwCl (lx_w cI cZ cJ x0 x1 x2 x3 o0 m0 m1 m2 m3 m4 m5 m6 V S M U err O G) H → va_D (lx_A s) (lx_w cI cZ cJ x0 x1 x2 x3 o0 m0 m1 m2 m3 m4 m5 m6 V S M U err O G) → va_S (lx_A s) s.heap H locs → W p l e room_1 s m #[Value.ref b] below meth c H locs (12 + j + 1) (5483 + 6 * j + 6) (lw_Z below #[Value.ref b] s) (F0 m 665 ls []) := by
      intro V S M U err O G H locs ls hM hl hP hD hS
      refine lv_iinc (k := 4) (v := nI (5 * (j + 1))) (lv' := [(4, .int (nI (5 * (j + 1)))), (0, .ref b), (1, .ref x0), (2, .ref m0), (3, .ref o0)]) hx hb dL_law_665 hl rfl (lx_inc j) (by decide) rfl (fun ls hl => ?_)
      refine lv_goto (tgt := 23) hx hb dL_law_668 rfl ?_
      exact IH V S M U err O G H locs ls hM (lv_sub hl [1, 2, 3, 4, 0] rfl) hP hD hS
    refine lv_aload_n hx hb dL_law_32 rfl (lv_at hl 0 rfl) ?_
    refine lv_iload hx hb dL_law_33 (lv_at hl 4 rfl) ?_
    refine va_sld hx hb hX hbl hbA hS (vp_in_nI (by omega) (by omega)) dL_law_35 ?_
    refine lv_bipush (v := 15) hx hb dL_law_36 (by decide) ?_
    refine lv_iand hx hb dL_law_38 ?_
    generalize xs (nI (5 * j)).toNatClampNeg = xv
    obtain ⟨t, ht, he⟩ := pk_andE xv (m := 15) 4 (by decide +kernel)
    refine sm_eqi he ?_
    have ht : t < 16 := ht
    exact match t, ht with
    | 0, _ => lv_tableIn (tgt := 92) (off := 53) hx hb dL_law_39 (by decide) (by decide) rfl rfl (lx_set hlt hF hi hL hcl hsl V S M U err O G hM hl hP hD hS K)
    | 1, _ => lv_tableIn (tgt := 152) (off := 113) hx hb dL_law_39 (by decide) (by decide) rfl rfl (lx_op hlt hF hi hL hcl hsl V S M U err O G hM hl hP hD hS K)
    | 2, _ => lv_tableIn (tgt := 224) (off := 185) hx hb dL_law_39 (by decide) (by decide) rfl rfl (lx_store hlt hF hi hL hcl hsl V S M U err O G hM hl hP hD hS K)
    | 3, _ => lv_tableIn (tgt := 284) (off := 245) hx hb dL_law_39 (by decide) (by decide) rfl rfl (lx_load hlt hF hi hL hcl hsl V S M U err O G hM hl hP hD hS K)
    | 4, _ => lv_tableIn (tgt := 372) (off := 333) hx hb dL_law_39 (by decide) (by decide) rfl rfl (lx_value hlt hF hi hL hcl hsl V S M U err O G hM hl hP hD hS K)
    | 5, _ => lv_tableIn (tgt := 428) (off := 389) hx hb dL_law_39 (by decide) (by decide) rfl rfl (lx_not hlt hF hi hL hcl hsl V S M U err O G hM hl hP hD hS K)
    | 6, _ => lv_tableIn (tgt := 484) (off := 445) hx hb dL_law_39 (by decide) (by decide) rfl rfl (lx_least hlt hF hi hL hcl hsl V S M U err O G hM hl hP hD hS K)
    | 7, _ => lv_tableIn (tgt := 540) (off := 501) hx hb dL_law_39 (by decide) (by decide) rfl rfl (lx_greatest hlt hF hi hL hcl hsl V S M U err O G hM hl hP hD hS K)
    | 8, _ => lv_tableIn (tgt := 596) (off := 557) hx hb dL_law_39 (by decide) (by decide) rfl rfl (lx_octet hlt hF hi hL hcl hsl V S M U err O G hM hl hP hD hS K)
    | 9, _ => lv_tableIn (tgt := 652) (off := 613) hx hb dL_law_39 (by decide) (by decide) rfl rfl (lx_count hlt hF hi hL hcl hsl V S M U err O G hM hl hP hD hS K)
    | t + 10, ht => lv_tableOut (tgt := 665) hx hb dL_law_39 (Or.inr (by rw [nI_toInt (by omega)]; omega)) rfl (W.widen (k := 12 + j + 1) (n := 5483 + 6 * j + 6) (Nat.le_add_right _ _) (Nat.le_add_right _ _) (K V S M U err O G H locs ls hM hl hP hD hS))
set_option maxHeartbeats 4000000 in
set_option maxRecDepth 100000 in
theorem whole_start {p : Program} {e : Env} {s : State} {m : MethodId} {below : List Frame} {meth : Method} {c : Code} (l : Launch) (hlt : l.stackTraces = false) {b L : Nat} {xs : Nat → Int32} (hL : L ≤ 2560) (C0 : lw_At p s m meth c b L xs) : W p l e room_1 s m #[Value.ref b] below meth c s.heap [] 0 0 (lw_Z below #[Value.ref b] s) (entryFrame m ([Value.ref b] : List Value).toArray 7) := by
  obtain ⟨hx, hb, hrt, hml, hown, htl, hX, hbl, hlocks, hgv⟩ := C0
  have hts : ∀ w ∈ lx_T, w.before #[Value.ref b] s = true := fun w h => htl w (by
    rcases List.mem_cons.mp h with rfl | h
    · exact smW_in _ (List.mem_of_getElem? (i := 1) rfl)
    · exact smW_in _ h)
  have hw := sm_hw hts
  have hfl := flat_of_before _ hgv
  have hN : va_Nc sm_IO sm_IA s := va_Nc.of (hfl _ (by decide +kernel))
  have hZ : sm_Z (lx_A s) s s.heap := ⟨sm_Zl.of (htl _ (List.mem_append_right _ (List.mem_of_getElem? (i := 77) (by decide +kernel)))) (hfl _ (by decide +kernel)) (fun a h => Nat.not_le.mpr h), sm_Zl.of (htl _ (List.mem_append_right _ (List.mem_of_getElem? (i := 79) (by decide +kernel)))) (hfl _ (by decide +kernel)) (fun a h => Nat.not_le.mpr h)⟩
  obtain ⟨c0, i0, k0⟩ := u_known (C := RX0) (T := TX0) (N := 3) (n := 3) hts inX0 (hw 11 rfl)
  obtain ⟨c1, i1, k1⟩ := u_known (C := RX1) (T := TX1) (N := 7) (n := 7) hts inX1 (hw 227 rfl)
  obtain ⟨D, hK⟩ : ∃ D : va_G, va_K D vwCl [] s := ⟨(fun k => match k with
      | 0 => c0
      | _ => c1, fun k => match k with
      | 0 => i0
      | _ => i1), fun k q hq => match k, hq with
      | 0, hq => by cases hq; exact k0
      | 1, hq => by cases hq; exact k1
      | k + 2, hq => by simp [vwCl] at hq, fun k q hq => by simp at hq⟩
  have hP : va_P D vwCl [] s.heap := fun k q hq => by simp at hq
  have hD : va_D (lx_A s) [] := ⟨fun i j p q hp => by simp at hp, fun k q hq => by simp at hq⟩
  have hS : va_S (lx_A s) s.heap s.heap [] := va_S.rf
  have hA : ∀ q : Nat, s.heap.size ≤ q → lx_A s q := fun _ h => h
  have hl := lv_entry ([.ref b]) (n := 7) (Nat.le_of_ble_eq_true rfl)
  rw [lg_entry_eq]
  generalize (lg_sl ([.ref b]) ++ List.replicate (7 - (lg_sl ([.ref b])).length) Slot.unset).toArray = ls at hl ⊢
  have hl : lv_has ls 7 [(0, .ref b)] := hl
  refine va_new (ci := 0) (C := RX0) (T := TX0) (N := 3) (fs := [.null, .null, .null]) hx hb hts inX0 tyX0 tyX0_ok hown (hw 10 rfl) (hw 11 rfl) (hw 1 rfl) hK hP hD hS hA rfl (fun j hj => match j, hj with
    | 0, _ => rfl
    | 1, _ => rfl
    | 2, _ => rfl
    | j + 3, hj => absurd hj (by omega)) (Nat.le_of_ble_eq_true rfl) (Nat.le_of_ble_eq_true rfl) dL_law_0 (fun x0 H hP hD hS => ?_)
  refine lv_dup hx hb dL_law_3 rfl ?_
  refine sm_afterE (va_runI (g := F0 m 4 ls [.ref x0, .ref x0]) (As := []) (rest := [.ref x0]) ⟨hx, hb, hml, hown, hts⟩ (i_X0 l D x0 H.size) (cwI 0 hts (sm_gI (i5 := 14) rfl) rfl rfl rfl (hw 1 rfl) (hw 12 rfl) (hw 13 rfl) rfl (by decide +kernel) ⟨Nat.le_of_ble_eq_true rfl, Nat.le_of_ble_eq_true rfl⟩) ⟨sm_blind, sm_pre (hK.sub [] rfl) (hP.sub [0] rfl) (hD.sub [0] (by decide) rfl)⟩ rfl rfl hl.1 rfl (lv_room (Nat.le_of_ble_eq_true rfl)) dL_law_4 ⟨Nat.le_of_ble_eq_true rfl, Nat.le_of_ble_eq_true rfl⟩) hK hP hD hS hA [0] [] rfl (wr := []) rfl (by decide) (by decide) (fun u H locs hK hP hD hS => ?_)
  obtain ⟨cI, x1, x2, x3⟩ := u
  have hK : va_K D vwCl [(cI, .int)] s := hK
  have hP : va_P D vwCl (sm_wX cI x0 x1 x2 x3 (fun _ => 0) (fun _ => 0) (fun _ => 0)) H := hP
  have hD : va_D (lx_A s) (sm_wX cI x0 x1 x2 x3 (fun _ => 0) (fun _ => 0) (fun _ => 0)) := hD
  refine lv_astore_n (lv' := [(1, .ref x0), (0, .ref b)]) hx hb dL_law_7 rfl hl (by decide) rfl (fun ls hl => ?_)
  refine va_new (ci := 1) (C := RX1) (T := TX1) (N := 7) (fs := [.int 0, .null, .null, .null, .null, .null, .null]) hx hb hts inX1 tyX1 tyX1_ok hown (hw 226 rfl) (hw 227 rfl) (hw 2 rfl) hK hP hD hS hA rfl (fun j hj => match j, hj with
    | 0, _ => rfl
    | 1, _ => rfl
    | 2, _ => rfl
    | 3, _ => rfl
    | 4, _ => rfl
    | 5, _ => rfl
    | 6, _ => rfl
    | j + 7, hj => absurd hj (by omega)) (Nat.le_of_ble_eq_true rfl) (Nat.le_of_ble_eq_true rfl) dL_law_8 (fun m0 H hP hD hS => ?_)
  refine lv_dup hx hb dL_law_11 rfl ?_
  refine sm_afterE (va_runI (g := F0 m 12 ls [.ref m0, .ref m0]) (As := []) (rest := [.ref m0]) ⟨hx, hb, hml, hown, hts⟩ (i_X1 l D m0 H.size) (cwI 0 hts (sm_gI (i5 := 230) rfl) rfl rfl rfl (hw 2 rfl) (hw 228 rfl) (hw 229 rfl) rfl (by decide +kernel) ⟨Nat.le_of_ble_eq_true rfl, Nat.le_of_ble_eq_true rfl⟩) ⟨sm_blind, sm_pre (hK.sub [] rfl) (hP.sub [4] rfl) (hD.sub [4] (by decide) rfl)⟩ rfl rfl hl.1 rfl (lv_room (Nat.le_of_ble_eq_true rfl)) dL_law_12 ⟨Nat.le_of_ble_eq_true rfl, Nat.le_of_ble_eq_true rfl⟩) hK hP hD hS hA [4] [0, 1, 2, 3] rfl (wr := (sm_wX cI x0 x1 x2 x3 (fun _ => 0) (fun _ => 0) (fun _ => 0))) rfl (by decide) (by decide) (fun u H locs hK hP hD hS => ?_)
  obtain ⟨cZ, m1, m2, m3, m4, m5, m6⟩ := u
  have hK : va_K D vwCl [(cI, .int), (cZ, .boolean)] s := hK
  have hP : va_P D vwCl ((sm_wX cI x0 x1 x2 x3 (fun _ => 0) (fun _ => 0) (fun _ => 0)) ++ (sm_wM cZ m0 m1 m2 m3 m4 m5 m6 0 (sm_fb (fun _ => 0)) (sm_fb (fun _ => 0)) (sm_fo (fun _ => 0)) (sm_fl (fun _ => 0)) (sm_fw 0) (sm_fw 0))) H := hP
  have hD : va_D (lx_A s) ((sm_wX cI x0 x1 x2 x3 (fun _ => 0) (fun _ => 0) (fun _ => 0)) ++ (sm_wM cZ m0 m1 m2 m3 m4 m5 m6 0 (sm_fb (fun _ => 0)) (sm_fb (fun _ => 0)) (sm_fo (fun _ => 0)) (sm_fl (fun _ => 0)) (sm_fw 0) (sm_fw 0))) := hD
  refine lv_astore_n (lv' := [(2, .ref m0), (1, .ref x0), (0, .ref b)]) hx hb dL_law_15 rfl hl (by decide) rfl (fun ls hl => ?_)
  refine lv_iconst (v := 1) hx hb dL_law_16 (by decide) ?_
  refine va_newa (ty := .long) (a0 := (1, .inr (.inl (fun _ => 0)))) (N' := 1) hx hb (hw 342 rfl) rfl hK hP hD hS hA (fun _ => rfl) (by decide) (by decide) (by decide) (Nat.le_of_ble_eq_true rfl) (Nat.le_of_ble_eq_true rfl) dL_law_17 (fun o0 cJ H hK hP hD hS => ?_)
  have hK : va_K D vwCl [(cI, .int), (cZ, .boolean), (cJ, .long)] s := hK
  have hP : va_P D vwCl (lx_w cI cZ cJ x0 x1 x2 x3 o0 m0 m1 m2 m3 m4 m5 m6 (fun _ => 0) (fun _ => 0) (fun _ => 0) (fun _ => 0) 0 0 0) H := hP.sub [11, 0, 1, 2, 3, 4, 5, 6, 7, 8, 9, 10] rfl
  have hD : va_D (lx_A s) (lx_w cI cZ cJ x0 x1 x2 x3 o0 m0 m1 m2 m3 m4 m5 m6 (fun _ => 0) (fun _ => 0) (fun _ => 0) (fun _ => 0) 0 0 0) := hD.sub [11, 0, 1, 2, 3, 4, 5, 6, 7, 8, 9, 10] (by decide) rfl
  refine lv_astore_n (lv' := [(3, .ref o0), (2, .ref m0), (1, .ref x0), (0, .ref b)]) hx hb dL_law_19 rfl hl (by decide) rfl (fun ls hl => ?_)
  refine lv_iconst (v := nI (5 * 0)) hx hb dL_law_20 (by decide +kernel) ?_
  refine lv_istore (lv' := [(4, .int (nI (5 * 0))), (3, .ref o0), (2, .ref m0), (1, .ref x0), (0, .ref b)]) hx hb dL_law_21 hl (by decide) rfl (fun ls hl => ?_)
  exact lx_loop hlt ⟨hx, hb, hml, hown, hts, hX, hbl, hZ, hN, hK⟩ hL hrt hlocks 0 (Nat.zero_le _) _ _ _ _ _ _ _ H locs ls (fun _ => rfl) (lv_sub hl [4, 3, 2, 1, 0] rfl) hP hD hS
