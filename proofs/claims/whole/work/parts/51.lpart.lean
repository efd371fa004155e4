def xHh : List (Nat × Nat × Nat × Nat) := [(0, 8, 11, 13)]
theorem cdL_part : Cond.codeWith yL_part cL_part 4 (some .int) xHh ∈ qT := qT_in (by decide +kernel) (by decide +kernel)
theorem kdL_part : Cond.static yL_part ∈ qT := qT_in (by decide +kernel) (by decide +kernel)
theorem lkmL_36 : Cond.methodLink RL 36 yL_part ∈ qT := qT_in (by decide +kernel) (by decide +kernel)
theorem xclL : Cond.classLink RL 13 RJx00060 ∈ qT := qT_in (by decide +kernel) (by decide +kernel)
def qWx (M : qM) (hh : List (Nat × Nat × Nat × Nat)) : List Cond := Cond.codeWith M.1 M.2.1 M.2.2.1 M.2.2.2.1 hh :: qT
def qMetX (G : qG) (M : qM) (hh : List (Nat × Nat × Nat × Nat)) (av : List Value) (h : qH) (Q : Option Value → qH → Prop) : Prop :=
  Met G.1 M.1 (qWx M hh) M.2.2.2.2 (xPc G av h) (qQc G Q) M.2.2.2.2.cells M.2.2.2.2.slots (fun q => G.2.1 ≤ q)
theorem xPc.blind {G : qG} {av : List Value} {h : qH} : FrameBlind (xPc G av h) := fun a U g mk q => ⟨qPc.blind a U g mk q.1, xW.same (s := U) q.2 rfl rfl⟩
theorem qMetX.of {G : qG} {M : qM} {hh : List (Nat × Nat × Nat × Nat)} {av : List Value} {h : qH} {Q : Option Value → qH → Prop} {L : List (Option Value)} (hy : plainName M.1.cls = true) (hn : (lg_sl av).length ≤ M.2.2.1) (hL : qArgs av ++ List.replicate (M.2.2.1 - (lg_sl av).length) none = L)
    (k : QP G M qTr (qMZ G M Q) 0 L [] h 0 0) : qMetX G M hh av h Q := by
  refine va_MetW (hh := hh) (cc := M.2.1) (maxL := M.2.2.1) (ret := M.2.2.2.1) hy rfl ?_
  intro p e s m args below meth c s₁ B hml hv
  obtain ⟨⟨rfl, hR, hK, hN⟩, hx⟩ := hv
  have hts := atoms_spec (ws := qWx M hh) B.pre
  have hl := lv_entry av (n := M.2.2.1) hn
  rw [lg_entry_eq]
  refine k p e s m _ below meth c ⟨B.exec, B.bytes, hml, B.returns, B.notSynchronized, findClass_of_methodNamed B.named, fun w hw => hts w (List.mem_cons_of_mem _ hw), hK, (name_of_methodNamed B.named B.method).1, hN⟩ trivial s.heap _ [] hR ⟨hl.1, hl.2.1, fun i v hi => ?_⟩ va_S.rf
  rw [← hL] at hi
  by_cases hlt : i < (qArgs av).length
  · rw [List.getElem?_append_left hlt] at hi
    have := hl.2.2 _ (qArgs_mem av 0 i v hi)
    rwa [Nat.zero_add] at this
  · rw [List.getElem?_append_right (by omega)] at hi
    have := List.eq_of_mem_replicate (List.mem_of_getElem? hi)
    cases this
section XB
variable {G : qG} {M' : qM} {h : qH} {av : List Value} {R : Room} {p : Program} {e : Env} {below : List Frame} {s : State} {sargs : Array Value}
def xPre (G : qG) (M' : qM) (R : Room) (av : List Value) (h : qH) : Pt → Array Value → Prop := fun A a => A.cells + M'.2.2.2.2.cells ≤ R.cells ∧ A.slots + M'.2.2.2.2.slots ≤ R.slots ∧ xPc G av h a A.U
def xPost (G : qG) (M' : qM) (h : qH) : Pt → Array Value → Addr → Pt → Prop := fun A a v B =>
  ∃ (g : JFrame) (mk : MethodId) (t : State) (L : List Loc), B.U.heap = t.heap ∧ B.U.vm = t.vm ∧ xQ G h a (A.U.calling g mk a) (.threw v) t ∧ B.locs = A.locs ++ L ∧ (∀ q ∈ L, G.2.1 ≤ q.base) ∧ B.cells = A.cells + M'.2.2.2.2.cells ∧ B.slots = A.slots + M'.2.2.2.2.slots
theorem x_back (hM : xThr G M' av h) (hframes : M'.2.2.2.2.frames + 1 ≤ R.frames) (hlocals : 8 + (M'.2.2.1 + 11) + M'.2.2.2.2.locals ≤ R.locals)
    (hws : ∀ w ∈ qWs M', ∀ (a' : Array Value) (U : State), s.WarmedH U.vm → w.before a' U = true) (hinit : ∀ (a' : Array Value) (U : State), s.WarmedH U.vm → (Cond.initialized M'.1.cls).before a' U = true) :
    BackT G.1 R p e below s sargs M'.1 3 8 (xPre G M' R av h) (xPost G M' h) := by
  refine BackT.of_free (S := headSpec (qWs M') M'.2.2.2.2) (P := xPc G av h) (K := fun _ _ _ _ _ => True) (Q := xQF G M' h) (bytes := M'.2.1) (maxL := M'.2.2.1) (ret := M'.2.2.2.1)
    (E := fun a st o t L k n => k = M'.2.2.2.2.cells ∧ n = M'.2.2.2.2.slots ∧ ∀ q ∈ L, G.2.1 ≤ q.base) hM hframes hlocals ?_ ?_ (fun _ _ _ _ _ _ _ _ _ => trivial) ?_ ?_
  · intro m meth c A a X hp
    exact ⟨atoms_intro fun w hw => hws w hw _ _ X.warmed, hws _ List.mem_cons_self _ _ X.warmed, hinit _ _ X.warmed, hp.1, hp.2.1⟩
  · intro m meth c A a g mk X hp
    exact xPc.blind _ _ _ _ hp.2.2
  · intro a st o t ⟨hq, L, hF, hL⟩
    exact ⟨L, _, _, hF, rfl, rfl, hL⟩
  · intro m meth c A a g mk v t L k n X hp hq hF ⟨e1, e2, hL⟩
    subst e1; subst e2
    exact ⟨g, mk, t, L, rfl, rfl, hq.1, rfl, hL, rfl, rfl⟩
end XB
theorem qL_of_has {ls : Array Slot} {n j : Nat} {av : List Value} {L : List (Option Value)} (hl : lv_has ls n (lv_args 0 av)) (hL : qArgs av ++ List.replicate j none = L) : qL ls n L := by
  refine ⟨hl.1, hl.2.1, fun i v hi => ?_⟩
  rw [← hL] at hi
  by_cases hlt : i < (qArgs av).length
  · rw [List.getElem?_append_left hlt] at hi
    have := hl.2.2 _ (qArgs_mem av 0 i v hi)
    rwa [Nat.zero_add] at this
  · rw [List.getElem?_append_right (by omega)] at hi
    have := List.eq_of_mem_replicate (List.mem_of_getElem? hi)
    cases this
set_option maxHeartbeats 4000000 in
theorem x_lpart2 {G : qG} {h : qH} {a o r k0 : Nat} {lat tol : Option Nat} {i : Int32} {Q : Option Value → qH → Prop} {p : Program} {e : Env} {s : State} {m : MethodId} {below : List Frame} {meth : Method} {c : Code} {ls : Array Slot} {args : Array Value} (hl : G.1.stackTraces = false) (ga : h a = some (csCell r k0 lat tol)) (hi : lat = none ∨ i < 0 ∨ 4 < i)
    (k : ∀ x : Nat, QP G M_L_part qTr (qMZ G M_L_part Q) 11 [some (.ref a), some (.int i), some (.ref o), none] [.ref x] h 1 6) (C : qC G M_L_part p s m args meth c) (hnm : s.methodNamed? yL_part = some m) (hts0 : ∀ w ∈ qWx M_L_part xHh, w.before args s = true) (hown : s.vm.findClass RL = some m.cls) (hR : qRep G h s.heap) (hx : xW G.2.1 s) (hcd : meth.code = some c) (hme : s.vm.method? m = some meth) (hw : lv_has ls 4 (lv_args 0 [.ref a, .int i, .ref o])) :
    W p G.1 e M_L_part.2.2.2.2 s m args below meth c s.heap [] 0 0 (qMZ G M_L_part Q below args s) (F0 m 4 ls [.int i, .ref a, .int 0, .ref o]) := by
  intro T hT X
  obtain ⟨hexec, hb, hml, hr, hlk, -, hts, hK0, hnm1, hN⟩ := id C
  have hK : BackT G.1 M_L_part.2.2.2.2 p e below s args yX3_part 3 8 (xPre G M_X3_part M_L_part.2.2.2.2 [.ref a, .int i] h) (xPost G M_X3_part h) :=
    x_back (x_part G i hl ga hi) (by decide) (by decide) (pay_in hts (qGood cdX3_part)) (fun a' U hW => word_at hW (qT_good iniX3) (hts _ iniX3))
  obtain ⟨r', h1, cellB, hcB, q2, q3, -⟩ := hR a _ ga
  have h1' : vwCl[4]? = some r' := h1
  have er : r'.1 = RX3 := by
    have : (vwCl[4]?).map (fun r => r.1) = some RX3 := rfl
    rw [h1'] at this
    exact Option.some.inj this
  have hcls : s.vm.findClass RX3 = some cellB.cls := by rw [q2, ← er]; exact (hK0.1.1 4 r' h1').2.1
  have hstatB : cellB.vm.isStatics = false := by rw [q3]; rfl
  have hy : yX3_part.cls ≠ "java/lang/invoke/MethodHandle" ∧ yX3_part.cls ≠ "java/lang/invoke/VarHandle" := by decide +kernel
  obtain ⟨mk, methM, hnamed, hmethM, hstM, habM⟩ := Cond.instanceMethod_spec (hts _ kdX3_part)
  obtain ⟨methM', cM, hmethM', hcodeM', -, hlocalsM, -, -, -, hsigM⟩ := Cond.code_spec hnamed (hts _ cdX3_part)
  cases hmethM.symm.trans hmethM'
  obtain ⟨c2, r2, m2, u1, u2, u3, u4, kP, hkP, hkPi⟩ := Cond.selects_spec (hts _ slX3_part)
  cases hcls.symm.trans u1
  cases (State.methodFound?_of_named hnamed hy).symm.trans u2
  cases hnamed.symm.trans u3
  have hselP : selectMethod e.platform s.vm cellB.cls mk = .method mk := by rw [Launch.admits_selectMethod X.admits]; exact u4
  have hsize : ls.size = c.maxLocals := hw.1.trans hml.symm
  have hlen : ([Value.int i] : List Value).length = methM.sig.parameters.length := by
    have h9 : (parseMethodDescriptor yX3_part.desc).map (fun d => d.parameters.length) = some 1 := by decide +kernel
    rw [hsigM] at h9
    exact (Option.some.inj h9).symm
  obtain ⟨vm₁, X₁, hstep₁⟩ := X.invokevirtual hexec hown (hts _ lkmL_7) hnamed hmethM hstM hkP hkPi hy (a := a) (cell := cellB) (by rw [hT]; exact hcB) (fun z h => by rw [h] at hstatB; cases hstatB) hselP hmethM habM hkP hkPi
    (g := F0 m 4 ls [.int i, .ref a, .int 0, .ref o]) rfl (argsL := [.int i]) (rest := [.int 0, .ref o]) hlen rfl (by rw [hb]; exact dL_part_4)
  have hpre : xPre G M_X3_part M_L_part.2.2.2.2 [.ref a, .int i] h ⟨T.setVm vm₁, [], 0, 0⟩ ([Value.ref a, .int i] : List Value).toArray := by
    refine ⟨Nat.le_of_ble_eq_true rfl, Nat.le_of_ble_eq_true rfl, ⟨rfl, ?_, hK0.warm X₁.warmed, ?_⟩, hx.moved X₁.warmed (fun q _ => ?_)⟩
    · show qRep G h T.heap
      rw [hT]; exact hR
    · show G.2.1 ≤ T.heap.size
      rw [hT]; exact hN
    · show T.heap[q]? = _
      rw [hT]
  obtain ⟨v, Bp, X', hpost, hsteps⟩ := hK m meth c ⟨T.setVm vm₁, [], 0, 0⟩ (F0 m 4 ls [.int 0, .ref o]) (.invokevirtual 7) mk ([Value.ref a, .int i] : List Value).toArray X₁ rfl hsize (by rw [hb]; exact dL_part_4) (Nat.le_of_ble_eq_true rfl) (X₁.named hnamed) hpre
  obtain ⟨g', mk', t, Ls, e1, e2, ⟨b, ce, eo, hce, hvm, hfc, hrep, hsz, hkeep⟩, e3, e4, e5, e6⟩ := hpost
  cases eo
  have hfc2 : s.vm.findClass RJx00060 = some ce.cls := by
    have h9 : (T.setVm vm₁).vm.findClass RJx00060 = some ce.cls := hfc
    rw [X₁.warmed.alike.findClass] at h9
    exact h9
  obtain ⟨m9, meth9, c9, n1, n2, n3, n4, n5, n6, -⟩ := Cond.codeWith_spec (hts0 _ List.mem_cons_self)
  cases hnm.symm.trans n1
  cases hme.symm.trans n2
  cases hcd.symm.trans n3
  obtain ⟨x, hx1, hx2⟩ : ∃ x : ExceptionTableEntry, c.exceptionTable.toList = [x] ∧ (x.startPc, x.endPc, x.handlerPc, x.catchType) = (0, 8, 11, 13) := by
    match hE : c.exceptionTable.toList, n6 with
    | [], n6 => exact absurd n6 (by simp [xHh])
    | [x], n6 => exact ⟨x, rfl, by simpa [xHh] using n6⟩
    | x :: y :: z, n6 => exact absurd n6 (by simp [xHh])
  simp only [Prod.mk.injEq] at hx2
  obtain ⟨x1, x2, x3, x4⟩ := hx2
  obtain ⟨c3, c4, hc3, hc4, hasg⟩ := Cond.castable_spec (va_Nw.use (A := args) rfl (hx.2.2.1 (.castable RJx00060 RJx00060) (by simp [xDs])))
  cases hfc2.symm.trans hc3
  cases hfc2.symm.trans hc4
  obtain ⟨hend, hk0⟩ := X'.catches_of_link hown (x := x) (by rw [x4]; decide) (by rw [x4]; exact hts _ xclL) hfc2 hasg
  obtain ⟨vm', X2, st2⟩ := X'.thenCaughtThrough v (g := F0 m 4 ls [.int 0, .ref o]) rfl (s₀ := T.setTop (F0 m 4 ls [.int i, .ref a, .int 0, .ref o])) (hstep₁ _ fun acts => by rw [doInvoke_state]; exact hsteps)
    (cell := ce) (by rw [e1]; exact hce) (by rw [hvm]; rfl) hk0 [] x [] hx1 (fun y hy => nomatch hy) (by show (decide (x.startPc ≤ 4) && decide (4 < x.endPc)) = true; rw [x1, x2]; rfl) hend
  have hszT : (T.setVm vm₁).heap = s.heap := hT
  have hS : va_S (fun q : Nat => G.2.1 ≤ q) s.heap Bp.U.heap Bp.locs := by
    refine ⟨?_, fun q h1 h2 => ?_, fun q hq => ?_⟩
    · rw [e1, ← hszT]; exact hsz
    · rw [e1, hkeep q (Nat.not_le.mp h2), ← hszT]; rfl
    · rw [e3] at hq
      exact e4 q hq
  have hW2 := k v p e s m args below meth c C trivial Bp.U.heap ls Bp.locs (by rw [e1]; exact hrep) (qL_of_has (j := 1) hw rfl) hS
  have e5' : Bp.cells = 1 := e5
  have e6' : Bp.slots = 6 := e6
  rw [e5', e6'] at X2
  obtain ⟨t2, a1, b1⟩ := hW2 (Bp.U.setVm vm') rfl X2
  rw [x3] at st2
  exact ⟨t2, st2.trans a1, b1⟩
set_option maxHeartbeats 4000000 in
/-- the law's part(): what x.part() throws is caught -/
theorem x_lpart (G : qG) {h : qH} {a o r k0 : Nat} {lat tol : Option Nat} (i : Int32) {Q : Option Value → qH → Prop} (hl : G.1.stackTraces = false) (ga : h a = some (csCell r k0 lat tol)) (hi : lat = none ∨ i < 0 ∨ 4 < i)
    (k : ∀ x : Nat, QP G M_L_part qTr (qMZ G M_L_part Q) 11 [some (.ref a), some (.int i), some (.ref o), none] [.ref x] h 1 6) : qMetX G M_L_part xHh [.ref a, .int i, .ref o] h Q := by
  refine va_MetW (hh := xHh) (cc := cL_part) (maxL := 4) (ret := some .int) (by decide) rfl ?_
  intro p e s m args below meth c s₁ B hml hv
  obtain ⟨⟨rfl, hR, hK, hN⟩, hx⟩ := hv
  have hts0 := atoms_spec (ws := qWx M_L_part xHh) B.pre
  have hw := lv_entry [.ref a, .int i, .ref o] (n := 4) (Nat.le_of_ble_eq_true rfl)
  have hts : ∀ w ∈ qT, w.before ([Value.ref a, .int i, .ref o] : List Value).toArray s = true := fun w hw => hts0 w (List.mem_cons_of_mem _ hw)
  have C : qC G M_L_part p s m ([Value.ref a, .int i, .ref o] : List Value).toArray meth c := ⟨B.exec, B.bytes, hml, B.returns, B.notSynchronized, findClass_of_methodNamed B.named, hts, hK, (name_of_methodNamed B.named B.method).1, hN⟩
  have hown : s.vm.findClass RL = some m.cls := findClass_of_methodNamed B.named
  rw [lg_entry_eq]
  have l0 := hw.2.2 (0, .ref a) (by simp [lv_args, Value.category])
  have l1 := hw.2.2 (1, .int i) (by simp [lv_args, Value.category])
  have l2 := hw.2.2 (2, .ref o) (by simp [lv_args, Value.category])
  refine lv_aload_n C.1 C.2.1 dL_part_0 rfl l2 ?_
  refine lv_iconst (v := 0) C.1 C.2.1 dL_part_1 (by decide) ?_
  refine lv_aload_n C.1 C.2.1 dL_part_2 rfl l0 ?_
  refine lv_iload_n C.1 C.2.1 dL_part_3 rfl l1 ?_
  exact x_lpart2 hl ga hi k C B.named hts0 hown hR hx (Stand.of_body B).code B.method hw
