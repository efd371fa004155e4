def xHh : List (Nat × Nat × Nat × Nat) := [(0, 8, 11, 13)]
theorem cdL_part : Cond.codeWith yL_part cL_part 4 (some .int) xHh ∈ qT := qT_in (by decide +kernel) (by decide +kernel)
theorem kdL_part : Cond.static yL_part ∈ qT := qT_in (by decide +kernel) (by decide +kernel)
theorem lkmL_36 : Cond.methodLink RL 36 yL_part ∈ qT := qT_in (by decide +kernel) (by decide +kernel)
theorem xclL : Cond.classLink RL 13 RJx00060 ∈ qT := qT_in (by decide +kernel) (by decide +kernel)
def qWx (M : qM) (hh : List (Nat × Nat × Nat × Nat)) : List Cond := Cond.codeWith M.1 M.2.1 M.2.2.1 M.2.2.2.1 hh :: qT
def qMetX (G : qG) (M : qM) (hh : List (Nat × Nat × Nat × Nat)) (av : List Value) (h : qH) (Q : Option Value → qH → Prop) : Prop :=
  Met G.1 M.1 (qWx M hh) M.2.2.2.2 (xPc G av h) (qQc G Q) M.2.2.2.2.cells M.2.2.2.2.slots (fun q => G.2.1 ≤ q)
theorem xPc.blind {G : qG} {av : List Value} {h : qH} : FrameBlind (xPc G av h) := fun a U g mk q => ⟨qPc.blind a U g mk q.1, xW.same (s := U) q.2 rfl rfl⟩
theorem qMetX.of {G : qG} {M : qM} {hh : List (Nat × Nat × Nat × Nat)} {av : List Value} {h : qH} {Q : Option Value → qH → Prop} {L : List (Option Value)} (hy : plainName M.1.cls = true) (hn : (lg_sl av).length ≤ M.2.2.1) (hL : qArgs av ++ List.replicate (M.2.2.1 - (lg_sl av).length) none = L)
    (k : QP G M qTr (qMZ G M Q) 0 L [] h 0 0) : qMetX G M hh av h Q := by
  refine va_MetW (hh := hh) (cc := M.2.1) (maxL := M.2.2.1) (ret := M.2.2.2.1) hy rfl ?_
  intro p e s m args below meth c s₁ B hml hv
  obtain ⟨⟨rfl, hR, hK, hN⟩, hx⟩ := hv
  have hts := atoms_spec (ws := qWx M hh) B.pre
  have hl := lv_entry av (n := M.2.2.1) hn
  rw [lg_entry_eq]
  refine k p e s m _ below meth c ⟨B.exec, B.bytes, hml, B.returns, B.notSynchronized, findClass_of_methodNamed B.named, fun w hw => hts w (List.mem_cons_of_mem _ hw), hK, (name_of_methodNamed B.named B.method).1, hN⟩ trivial s.heap _ [] hR ⟨hl.1, hl.2.1, fun i v hi => ?_⟩ va_S.rf
  rw [← hL] at hi
  by_cases hlt : i < (qArgs av).length
  · rw [List.getElem?_append_left hlt] at hi
    have := hl.2.2 _ (qArgs_mem av 0 i v hi)
    rwa [Nat.zero_add] at this
  · rw [List.getElem?_append_right (by omega)] at hi
    have := List.eq_of_mem_replicate (List.mem_of_getElem? hi)
    cases this
section XB
variable {G : qG} {M' : qM} {h : qH} {av : List Value} {R : Room} {p : Program} {e : Env} {below : List Frame} {s : State} {sargs : Array Value} {m : MethodId} {meth : Method} {c : Code} {U : State} {locs : List Loc} {cn sn : Nat}
/-- a call whose contract says that it throws: the caller stands again, the note of the throw over its frame -/
theorem x_call (X : Stand p G.1 e R s m sargs below meth c U locs cn sn) (hM : xThr G M' av h) {g : JFrame} (hg : g.method = m) (hsize : g.locals.size = c.maxLocals) {ig : Instr} {len : Nat} (hdg : decode c.code g.pc = .ok (ig, len)) {mk : MethodId} (hn : U.methodNamed? M'.1 = some mk)
    (hws : ∀ w ∈ qWs M', w.before av.toArray U = true) (hin : (Cond.initialized M'.1.cls).before av.toArray U = true) (hP : xPc G av h av.toArray U)
    (hfr : M'.2.2.2.2.frames + 1 ≤ R.frames) (hlo : 2 * g.monitorRoom + (g.stack.map fun v => v.category).sum + (M'.2.2.1 + 11) + M'.2.2.2.2.locals ≤ R.locals) (hce : cn + M'.2.2.2.2.cells ≤ R.cells) (hsl : sn + M'.2.2.2.2.slots ≤ R.slots) :
    ∃ (b : Nat) (ce : Cell) (T : State) (L : List Loc), Stand p G.1 e R s m sargs below meth c T (locs ++ L) (cn + M'.2.2.2.2.cells) (sn + M'.2.2.2.2.slots) ∧ T.heap[b]? = some ce ∧ ce.vm = .none ∧ U.vm.findClass RJx00060 = some ce.cls ∧ qRep G h T.heap ∧ U.heap.size ≤ T.heap.size ∧ (∀ q : Nat, q < G.2.1 → T.heap[q]? = U.heap[q]?) ∧ (∀ q ∈ L, G.2.1 ≤ q.base) ∧
      Steps p.tables e below (doInvoke e (U.setTop g) [] mk av.toArray).1 ((T.setTop g).pushFrame (.throwing b)) := by
  have hA : At U g.method c below := by rw [hg]; exact X.here
  obtain ⟨meth1, c1, e1, e2, -, e3, -, -, -, -⟩ := Cond.code_spec hn (hws _ List.mem_cons_self)
  obtain ⟨k1, e4, -⟩ := className_of_methodNamed hn
  have e5 := Cond.initialized_spec (findClass_of_methodNamed hn) e4 hin
  have hroom : (U.calling g mk av.toArray).hasRoom e.platform M'.2.2.2.2 = true := X.room_calling hsize e1 e2 hfr (by rw [e3]; exact hlo) hce hsl
  have happ : (headSpec (qWs M') M'.2.2.2.2).appliesLoose M'.1 e.platform (U.calling g mk av.toArray) = true := Spec.appliesLoose_calling hA hdg hn e4 e5 hroom (atoms_intro hws)
  have hF : (U.setTop g).frames = .java g :: below := by rw [State.frames_setTop' g X.here.top, X.tail]
  obtain ⟨o, t, hsteps, -, hend, ⟨b, ce, rfl, r1, r2, r3, r4, r5, r6⟩, L, r7, r8, r9⟩ := Steps.callFree hM p X.admits X.cas X.clock (acts := []) (mid := [.java g]) (below := below) hF happ (xPc.blind _ _ _ _ hP) trivial
  rw [hF] at hend
  obtain ⟨T, XT, -, -, ht⟩ := X.outOfThrown hg hend r7 r8
  have hh : t.heap = T.heap := by rw [ht]; exact Stand.throwing_heap T g b
  rw [hh] at r1 r4 r5 r6
  rw [ht] at hsteps
  exact ⟨b, ce, T, L, XT, r1, r2, r3, r4, r5, r6, r9, hsteps⟩
/-- a table of one row, whose class isn't looked up yet or is: the row takes what is thrown, and the look-up is noted -/
theorem x_row {Q : Handler → Pre} {E : CtlPost} {d : Bool} {acts : List Action} {f : JFrame} {a : Addr} {x : ExceptionTableEntry} {k : ClassId} {ce : Cell} (hx : covers x f.pc = true) (h0 : x.catchType ≠ 0) (hl : U.vm.ClassLinks e.platform f.method.cls x.catchType k) (h1 : U.heap[a]? = some ce) (h2 : ce.vm.isStatics = false)
    (h3 : ∃ z, (U.vm.noted f.method.cls x.catchType (.cls k)).classes[ce.cls]? = some z) (h4 : ∃ z, (U.vm.noted f.method.cls x.catchType (.cls k)).classes[k]? = some z) (h5 : (U.vm.noted f.method.cls x.catchType (.cls k)).assignable ce.cls k = true) :
    wp (findHandler.go f a [x]) Q E e d acts U ↔ Q (.found x.handlerPc) d acts (U.setVm (U.vm.noted f.method.cls x.catchType (.cls k))) := by
  obtain ⟨q1, q2⟩ := (resolveClass_links e.toSetting hl).op (op := .resolveClass f.method.cls x.catchType) rfl
  have hx' : (decide (x.startPc ≤ f.pc) && decide (f.pc < x.endPc)) = true := hx
  obtain ⟨z3, h3⟩ := h3
  obtain ⟨z4, h4⟩ := h4
  have h6 : ∀ j, ce.vm ≠ .statics j := VmData.ne_statics_of h2
  simp [findHandler.go, hx', h0, q1, q2, h1, h6, h3, h4, h5, VmOp.dirties, VmOp.acts]
/-- what is thrown is caught by the only row of the caller's table -/
theorem x_catch (X : Stand p G.1 e R s m sargs below meth c U locs cn sn) {g : JFrame} (hg : g.method = m) {own name : String} (hown : s.vm.findClass own = some m.cls) {x : ExceptionTableEntry} (ht : c.exceptionTable.toList = [x]) (hx : covers x g.pc = true) (h0 : x.catchType ≠ 0) (hlink : (Cond.classLink own x.catchType name).before sargs s = true)
    {a : Addr} {ce : Cell} {k : ClassId} (h1 : U.heap[a]? = some ce) (h2 : ce.vm.isStatics = false) (hk : s.vm.findClass name = some k) (h5 : s.vm.assignable ce.cls k = true) :
    ∃ v : Vm, Stand p G.1 e R s m sargs below meth c (U.setVm v) locs cn sn ∧ Steps p.tables e below ((U.setTop g).pushFrame (.throwing a)) ((U.setVm v).setTop { g with pc := x.handlerPc, stack := [.ref a] }) := by
  subst hg
  obtain ⟨k', hk', hcl⟩ := Cond.classLink_spec hown hlink e.platform (by rw [X.admits.platform])
  cases hk.symm.trans hk'
  obtain ⟨dk, _, _, kt, hd, _, _, _, _, hkt, _, hop⟩ := hcl.here
  obtain ⟨ks, hks⟩ := Vm.classAt_of_assignable h5 ⟨kt, hkt⟩
  have hW : s.WarmedH (U.vm.noted g.method.cls x.catchType (.cls k)) := X.warmed.noted hd hop (State.rightAt_cls hcl)
  obtain ⟨ks', w3, -⟩ := hW.alike.2.2 _ _ hks
  obtain ⟨kt', w4, -⟩ := hW.alike.2.2 _ _ hkt
  refine ⟨_, X.noted hW, ?_⟩
  obtain ⟨hgo, hw⟩ := X.here.throwing a
  refine Steps.head hgo hw ?_
  rw [stepThread_throwing (frames_entered X.here.top _)]
  have hm : ((U.setTop g).pushFrame (.throwing a)).vm.method? g.method = some meth := by
    rw [Stand.throwing_vm, X.warmed.alike.method?]; exact X.method
  have hfind : ∀ (Q : Handler → Pre) (E : CtlPost) (d : Bool) (acts : List Action), wp (findHandler g a) Q E e d acts ((U.setTop g).pushFrame (.throwing a)) ↔ Q (.found x.handlerPc) d acts (((U.setTop g).pushFrame (.throwing a)).setVm (U.vm.noted g.method.cls x.catchType (.cls k))) := fun Q E d acts => by
    rw [W.findHandler_eq hm X.code, ht]
    have hv : ((U.setTop g).pushFrame (.throwing a)).vm = U.vm := Stand.throwing_vm U g a
    have := x_row (U := (U.setTop g).pushFrame (.throwing a)) (e := e) (Q := Q) (E := E) (d := d) (acts := acts) (f := g) (a := a) (x := x) (k := k) (ce := ce) hx h0 (by rw [hv]; exact X.warmed.classLinks hcl) (by rw [Stand.throwing_heap]; exact h1) h2 (by rw [hv]; exact ⟨_, w3⟩) (by rw [hv]; exact ⟨_, w4⟩) (by rw [hv, hW.alike.assignable]; exact h5)
    rw [this, hv]
  have hstep : (stepThrowing e ((U.setTop g).pushFrame (.throwing a)) a (.java g :: U.frames.tail)).1 = (((U.setTop g).pushFrame (.throwing a)).setVm (U.vm.noted g.method.cls x.catchType (.cls k))).setFrames (.java { g with pc := x.handlerPc, stack := [.ref a] } :: U.frames.tail) := by
    simp only [stepThrowing, searchFrame, vmDo]
    generalize hr : Sem.go _ e false [] ((U.setTop g).pushFrame (.throwing a)) = res
    obtain ⟨as, rfl, -⟩ := Sem.eq_ok_of hr (a := Handler.found x.handlerPc) (s' := ((U.setTop g).pushFrame (.throwing a)).setVm (U.vm.noted g.method.cls x.catchType (.cls k))) (acts' := []) (by simp [hfind _ _ _ _])
    rfl
  rw [hstep]
  obtain ⟨g0, hr⟩ := X.frames_eq
  have hr2 : (U.setVm (U.vm.noted g.method.cls x.catchType (.cls k))).frames = .java g0 :: below := hr
  rw [State.setTop_of_frames _ hr2, State.pushFrame, State.setTop_of_frames _ hr, State.setFrames_setFrames, hr]
  show Steps p.tables e below (((U.setVm (U.vm.noted g.method.cls x.catchType (.cls k))).setFrames _).setFrames _) _
  rw [State.setFrames_setFrames]
  exact Steps.refl _
end XB
theorem qL_of_has {ls : Array Slot} {n j : Nat} {av : List Value} {L : List (Option Value)} (hl : lv_has ls n (lv_args 0 av)) (hL : qArgs av ++ List.replicate j none = L) : qL ls n L := by
  refine ⟨hl.1, hl.2.1, fun i v hi => ?_⟩
  rw [← hL] at hi
  by_cases hlt : i < (qArgs av).length
  · rw [List.getElem?_append_left hlt] at hi
    have := hl.2.2 _ (qArgs_mem av 0 i v hi)
    rwa [Nat.zero_add] at this
  · rw [List.getElem?_append_right (by omega)] at hi
    have := List.eq_of_mem_replicate (List.mem_of_getElem? hi)
    cases this
set_option maxHeartbeats 4000000 in
theorem x_lpart2 {G : qG} {h : qH} {a o r k0 : Nat} {lat tol : Option Nat} {i : Int32} {Q : Option Value → qH → Prop} {p : Program} {e : Env} {s : State} {m : MethodId} {below : List Frame} {meth : Method} {c : Code} {ls : Array Slot} {args : Array Value} (hl : G.1.stackTraces = false) (ga : h a = some (csCell r k0 lat tol)) (hi : lat = none ∨ i < 0 ∨ 4 < i)
    (k : ∀ x : Nat, QP G M_L_part qTr (qMZ G M_L_part Q) 11 [some (.ref a), some (.int i), some (.ref o), none] [.ref x] h 1 6) (C : qC G M_L_part p s m args meth c) (hnm : s.methodNamed? yL_part = some m) (hts0 : ∀ w ∈ qWx M_L_part xHh, w.before args s = true) (hown : s.vm.findClass RL = some m.cls) (hR : qRep G h s.heap) (hx : xW G.2.1 s) (hcd : meth.code = some c) (hme : s.vm.method? m = some meth) (hw : lv_has ls 4 (lv_args 0 [.ref a, .int i, .ref o])) :
    W p G.1 e M_L_part.2.2.2.2 s m args below meth c s.heap [] 0 0 (qMZ G M_L_part Q below args s) (F0 m 4 ls [.int i, .ref a, .int 0, .ref o]) := by
  intro T hT X
  obtain ⟨hexec, hb, hml, hr, hlk, -, hts, hK0, hnm1, hN⟩ := id C
  obtain ⟨r', h1, cellB, hcB, q2, q3, -⟩ := hR a _ ga
  have h1' : vwCl[4]? = some r' := h1
  have er : r'.1 = RX3 := by
    have : (vwCl[4]?).map (fun r => r.1) = some RX3 := rfl
    rw [h1'] at this
    exact Option.some.inj this
  have hcls : s.vm.findClass RX3 = some cellB.cls := by rw [q2, ← er]; exact (hK0.1.1 4 r' h1').2.1
  have hstatB : cellB.vm.isStatics = false := by rw [q3]; rfl
  have hy : yX3_part.cls ≠ "java/lang/invoke/MethodHandle" ∧ yX3_part.cls ≠ "java/lang/invoke/VarHandle" := by decide +kernel
  obtain ⟨mk, methM, hnamed, hmethM, hstM, habM⟩ := Cond.instanceMethod_spec (hts _ kdX3_part)
  obtain ⟨methM', cM, hmethM', hcodeM', -, hlocalsM, -, -, -, hsigM⟩ := Cond.code_spec hnamed (hts _ cdX3_part)
  cases hmethM.symm.trans hmethM'
  obtain ⟨c2, r2, m2, u1, u2, u3, u4, kP, hkP, hkPi⟩ := Cond.selects_spec (hts _ slX3_part)
  cases hcls.symm.trans u1
  cases (State.methodFound?_of_named hnamed hy).symm.trans u2
  cases hnamed.symm.trans u3
  have hselP : selectMethod e.platform s.vm cellB.cls mk = .method mk := by rw [Launch.admits_selectMethod X.admits]; exact u4
  have hsize : ls.size = c.maxLocals := hw.1.trans hml.symm
  have hlen : ([Value.int i] : List Value).length = methM.sig.parameters.length := by
    have h9 : (parseMethodDescriptor yX3_part.desc).map (fun d => d.parameters.length) = some 1 := by decide +kernel
    rw [hsigM] at h9
    exact (Option.some.inj h9).symm
  obtain ⟨vm₁, X₁, hstep₁⟩ := X.invokevirtual hexec hown (hts _ lkmL_7) hnamed hmethM hstM hkP hkPi hy (a := a) (cell := cellB) (by rw [hT]; exact hcB) (fun z h => by rw [h] at hstatB; cases hstatB) hselP hmethM habM hkP hkPi
    (g := F0 m 4 ls [.int i, .ref a, .int 0, .ref o]) rfl (argsL := [.int i]) (rest := [.int 0, .ref o]) hlen rfl (by rw [hb]; exact dL_part_4)
  have hpre : xPc G [.ref a, .int i] h ([Value.ref a, .int i] : List Value).toArray (T.setVm vm₁) := by
    refine ⟨⟨rfl, ?_, hK0.warm X₁.warmed, ?_⟩, hx.moved X₁.warmed (fun q _ => ?_)⟩
    · show qRep G h T.heap
      rw [hT]; exact hR
    · show G.2.1 ≤ T.heap.size
      rw [hT]; exact hN
    · show T.heap[q]? = _
      rw [hT]
  obtain ⟨v, ce, T', Ls, X', hce, hvm, hfc, hrep, hsz, hkeep, e4, hsteps⟩ := x_call X₁ (x_part G i hl ga hi) (g := F0 m 4 ls [.int 0, .ref o]) rfl hsize (ig := .invokevirtual 7) (len := 3) (by rw [hb]; exact dL_part_4) (X₁.named hnamed)
    (fun w hw => pay_in hts (qGood cdX3_part) w hw _ _ X₁.warmed) (word_at X₁.warmed (qT_good iniX3) (hts _ iniX3)) hpre (by decide) (Nat.le_of_ble_eq_true rfl) (Nat.le_of_ble_eq_true rfl) (Nat.le_of_ble_eq_true rfl)
  have hfc2 : s.vm.findClass RJx00060 = some ce.cls := by
    have h9 : (T.setVm vm₁).vm.findClass RJx00060 = some ce.cls := hfc
    rw [X₁.warmed.alike.findClass] at h9
    exact h9
  obtain ⟨m9, meth9, c9, n1, n2, n3, n4, n5, n6, -⟩ := Cond.codeWith_spec (hts0 _ List.mem_cons_self)
  cases hnm.symm.trans n1
  cases hme.symm.trans n2
  cases hcd.symm.trans n3
  obtain ⟨x, hx1, hx2⟩ : ∃ x : ExceptionTableEntry, c.exceptionTable.toList = [x] ∧ (x.startPc, x.endPc, x.handlerPc, x.catchType) = (0, 8, 11, 13) := by
    match hE : c.exceptionTable.toList, n6 with
    | [], n6 => exact absurd n6 (by simp [xHh])
    | [x], n6 => exact ⟨x, rfl, by simpa [xHh] using n6⟩
    | x :: y :: z, n6 => exact absurd n6 (by simp [xHh])
  simp only [Prod.mk.injEq] at hx2
  obtain ⟨x1, x2, x3, x4⟩ := hx2
  obtain ⟨c3, c4, hc3, hc4, hasg⟩ := Cond.castable_spec (va_Nw.use (A := args) rfl (hx.2.2.1 (.castable RJx00060 RJx00060) (by simp [xDs])))
  cases hfc2.symm.trans hc3
  cases hfc2.symm.trans hc4
  obtain ⟨vm', X2, st2⟩ := x_catch X' (g := F0 m 4 ls [.int 0, .ref o]) rfl hown hx1 (by show (decide (x.startPc ≤ 4) && decide (4 < x.endPc)) = true; rw [x1, x2]; rfl) (by rw [x4]; decide) (by rw [x4]; exact hts _ xclL) hce (by rw [hvm]; rfl) hfc2 hasg
  have st1 := (hstep₁ _ fun acts => by rw [doInvoke_state]; exact hsteps).trans st2
  have hszT : (T.setVm vm₁).heap = s.heap := hT
  have hS : va_S (fun q : Nat => G.2.1 ≤ q) s.heap T'.heap Ls := by
    refine ⟨?_, fun q h1 h2 => ?_, fun q hq => e4 q hq⟩
    · rw [← hszT]; exact hsz
    · rw [hkeep q (Nat.not_le.mp h2), ← hszT]
  have hW2 := k v p e s m args below meth c C trivial T'.heap ls Ls hrep (qL_of_has (j := 1) hw rfl) hS
  obtain ⟨t2, a1, b1⟩ := hW2 (T'.setVm vm') rfl X2
  rw [x3] at st1
  exact ⟨t2, st1.trans a1, b1⟩
set_option maxHeartbeats 4000000 in
/-- the law's part(): what x.part() throws is caught -/
theorem x_lpart (G : qG) {h : qH} {a o r k0 : Nat} {lat tol : Option Nat} (i : Int32) {Q : Option Value → qH → Prop} (hl : G.1.stackTraces = false) (ga : h a = some (csCell r k0 lat tol)) (hi : lat = none ∨ i < 0 ∨ 4 < i)
    (k : ∀ x : Nat, QP G M_L_part qTr (qMZ G M_L_part Q) 11 [some (.ref a), some (.int i), some (.ref o), none] [.ref x] h 1 6) : qMetX G M_L_part xHh [.ref a, .int i, .ref o] h Q := by
  refine va_MetW (hh := xHh) (cc := cL_part) (maxL := 4) (ret := some .int) (by decide) rfl ?_
  intro p e s m args below meth c s₁ B hml hv
  obtain ⟨⟨rfl, hR, hK, hN⟩, hx⟩ := hv
  have hts0 := atoms_spec (ws := qWx M_L_part xHh) B.pre
  have hw := lv_entry [.ref a, .int i, .ref o] (n := 4) (Nat.le_of_ble_eq_true rfl)
  have hts : ∀ w ∈ qT, w.before ([Value.ref a, .int i, .ref o] : List Value).toArray s = true := fun w hw => hts0 w (List.mem_cons_of_mem _ hw)
  have C : qC G M_L_part p s m ([Value.ref a, .int i, .ref o] : List Value).toArray meth c := ⟨B.exec, B.bytes, hml, B.returns, B.notSynchronized, findClass_of_methodNamed B.named, hts, hK, (name_of_methodNamed B.named B.method).1, hN⟩
  have hown : s.vm.findClass RL = some m.cls := findClass_of_methodNamed B.named
  rw [lg_entry_eq]
  have l0 := hw.2.2 (0, .ref a) (by simp [lv_args, Value.category])
  have l1 := hw.2.2 (1, .int i) (by simp [lv_args, Value.category])
  have l2 := hw.2.2 (2, .ref o) (by simp [lv_args, Value.category])
  refine lv_aload_n C.1 C.2.1 dL_part_0 rfl l2 ?_
  refine lv_iconst (v := 0) C.1 C.2.1 dL_part_1 (by decide) ?_
  refine lv_aload_n C.1 C.2.1 dL_part_2 rfl l0 ?_
  refine lv_iload_n C.1 C.2.1 dL_part_3 rfl l1 ?_
  exact x_lpart2 hl ga hi k C B.named hts0 hown hR hx (Stand.of_body B).code B.method hw
