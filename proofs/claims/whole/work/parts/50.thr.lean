-- part 50: throwing
def xNm : List String := ["java/lang/IndexOutOfBoundsException", "java/lang/RuntimeException", "java/lang/Exception"]
def xS (N : Nat) (n d : String) (U : State) : Prop := ∃ (c : ClassId) (k : Class) (i : Nat) (f : Field) (a : Nat) (cell : Cell) (v : Value), U.vm.findClass Bundle.tN = some c ∧ U.fieldFound? Bundle.tN n d = some (c, k, i, f) ∧ f.isStatic = true ∧ k.statics = some a ∧ U.heap[a]? = some cell ∧ cell.vm.isStatics = true ∧ cell.cls = c ∧ f.slot < cell.slots.size ∧ k.staticTypes[f.slot]? = some f.type ∧ cell.slots[f.slot]? = some v ∧ v.isRef = true ∧ a < N
theorem xS.moved {N : Nat} {n d : String} {s U : State} (h : xS N n d s) (hvm : s.vm.Alike U.vm) (hH : ∀ q : Nat, q < N → U.heap[q]? = s.heap[q]?) : xS N n d U := by
  obtain ⟨c, k, i, f, a, cell, v, h1, h2, h3, h4, h5, h6, h7, h8, h9, h10, h11, h12⟩ := h
  obtain ⟨k', hi', he⟩ := State.fieldFound?_setVm hvm h2
  exact ⟨c, k', i, f, a, cell, v, by rw [hvm.findClass]; exact h1, hi', h3, by rw [he]; exact h4, by rw [hH a h12]; exact h5, h6, h7, h8, by rw [he]; exact h9, h10, h11, h12⟩
theorem xS.lays {N : Nat} {n d : String} {U : State} {A : Array Value} (h : xS N n d U) : (Cond.laysStatic Bundle.tN n d).before A U = true := by
  obtain ⟨c, k, i, f, a, cell, v, h1, h2, h3, h4, h5, h6, h7, h8, h9, h10, h11, h12⟩ := h
  exact Cond.laysStatic_of h1 h2 h3 h4 h5 h6 h7 h8 h9
theorem xS.ref {N : Nat} {n d : String} {U : State} {A : Array Value} (h : xS N n d U) : (Cond.isRef (.static Bundle.tN n d)).before A U = true := by
  obtain ⟨c, k, i, f, a, cell, v, h1, h2, h3, h4, h5, h6, h7, h8, h9, h10, h11, h12⟩ := h
  have e : (Term.static Bundle.tN n d).eval A U none [] U = some v := by
    simp [Term.eval, State.fieldNamed?, h2, h3, h4, h5, h6, h10]
  cases v <;> first | (simp [Cond.before, Cond.holds, Cond.value, e]; done) | (simp [Value.isRef] at h11)
theorem xS.of {N : Nat} {n d : String} {s : State} {A : Array Value} (hl : (Cond.laysStatic Bundle.tN n d).before A s = true) (hr : (Cond.isRef (.static Bundle.tN n d)).before A s = true) (hN : s.heap.size ≤ N) : xS N n d s := by
  obtain ⟨c, k, i, f, a, cell, hc, hi, hst, ha, hcell, hs, hcls, hlt, hty⟩ := Cond.laysStatic_spec hl
  cases hv : (Term.static Bundle.tN n d).eval A s none [] s with
  | none => simp [Cond.before, Cond.holds, Cond.value, hv] at hr
  | some w =>
    obtain ⟨hst', a', cell', ha', hcell', -, hslot⟩ := Term.static_spec hi hv
    cases ha.symm.trans ha'
    cases hcell.symm.trans hcell'
    refine ⟨c, k, i, f, a, cell, w, hc, hi, hst, ha, hcell, hs, hcls, hlt, hty, hslot, ?_, Nat.lt_of_lt_of_le (Array.getElem?_eq_some_iff.mp hcell).1 hN⟩
    simp only [Cond.before, Cond.holds, Cond.value, hv] at hr
    cases w <;> first | rfl | (simp at hr)
def xDs : List Cond := [.declares (Bundle.initS "java/lang/IndexOutOfBoundsException"), .declares (Bundle.initS "java/lang/RuntimeException"), .declares (Bundle.initS "java/lang/Exception"), .declares (Bundle.initS Bundle.tN), .castable RJx00060 RJx00060]
def xRs : List Cond := [.laysStatic Bundle.tN "UNASSIGNED_STACK" Bundle.steD, .laysStatic Bundle.tN "SUPPRESSED_SENTINEL" Bundle.listD, .isRef (.static Bundle.tN "UNASSIGNED_STACK" Bundle.steD), .isRef (.static Bundle.tN "SUPPRESSED_SENTINEL" Bundle.listD)]
def xW (N : Nat) (U : State) : Prop := xS N "UNASSIGNED_STACK" Bundle.steD U ∧ xS N "SUPPRESSED_SENTINEL" Bundle.listD U ∧ (∀ w ∈ xDs, va_Nw w U) ∧ ∃ sa : Nat, vk_R RX3 54 "no such part" sa U
theorem xW.moved {N : Nat} {s U : State} (h : xW N s) (hW : s.WarmedH U.vm) (hH : ∀ q : Nat, q < N → U.heap[q]? = s.heap[q]?) : xW N U := by
  obtain ⟨h1, h2, h3, sa, h4⟩ := h
  refine ⟨h1.moved hW.alike hH, h2.moved hW.alike hH, fun w hw => ?_, sa, vk_R.warm hW h4⟩
  have hz := h3 w hw
  simp only [xDs, List.mem_cons, List.not_mem_nil, or_false] at hw
  rcases hw with rfl | rfl | rfl | rfl | rfl <;> first | exact va_Nw.warmD hW hz | exact va_Nw.warmC hW hz
theorem xW.same {N : Nat} {s U : State} (h : xW N s) (hv : s.vm = U.vm) (hH : U.heap = s.heap) : xW N U := by
  obtain ⟨h1, h2, h3, sa, h4⟩ := h
  have ha : s.vm.Alike U.vm := by rw [hv]; exact Vm.Alike.refl _
  refine ⟨h1.moved ha (fun q _ => by rw [hH]), h2.moved ha (fun q _ => by rw [hH]), fun w hw => ?_, sa, vk_R.same hv.symm h4⟩
  have hz := h3 w hw
  simp only [xDs, List.mem_cons, List.not_mem_nil, or_false] at hw
  rcases hw with rfl | rfl | rfl | rfl | rfl <;> exact va_Nw.same rfl hv hz
set_option maxRecDepth 100000 in
theorem xAt_in : ∀ w ∈ Bundle.ownAtoms RX3 56 RJx00060 xNm, w ∈ qT ∨ w ∈ xDs ∨ w ∈ xRs := by decide +kernel
theorem xAt {N : Nat} {U : State} {A : Array Value} (h : xW N U) (ht : ∀ w ∈ qT, w.before A U = true) : ∀ w ∈ Bundle.ownAtoms RX3 56 RJx00060 xNm, w.before A U = true := by
  intro w hw
  rcases xAt_in w hw with h1 | h1 | h1
  · exact ht w h1
  · have hz := h.2.2.1 w h1
    simp only [xDs, List.mem_cons, List.not_mem_nil, or_false] at h1
    rcases h1 with rfl | rfl | rfl | rfl | rfl <;> exact va_Nw.use rfl hz
  · simp only [xRs, List.mem_cons, List.not_mem_nil, or_false] at h1
    rcases h1 with rfl | rfl | rfl | rfl
    · exact h.1.lays
    · exact h.2.1.lays
    · exact h.1.ref
    · exact h.2.1.ref
abbrev M_X3_part : qM := (yX3_part, cX3_part, 2, (some .long), { frames := 7, cells := 1, slots := 6, locals := 100 })
abbrev M_L_part : qM := (yL_part, cL_part, 4, (some .int), { frames := 8, cells := 1, slots := 6, locals := 121 })
theorem cdX3_part : Cond.code yX3_part cX3_part 2 (some .long) ∈ qT := qT_in (by decide +kernel) (by decide +kernel)
theorem lkX3_part : qLk M_X3_part 1 := ⟨cdX3_part, iniX3, by decide +kernel, by decide +kernel⟩
theorem kdX3_part : Cond.instanceMethod yX3_part ∈ qT := qT_in (by decide +kernel) (by decide +kernel)
theorem slX3_part : Cond.selects RX3 yX3_part yX3_part ∈ qT := qT_in (by decide +kernel) (by decide +kernel)
theorem lkmL_7 : Cond.methodLink RL 7 yX3_part ∈ qT := qT_in (by decide +kernel) (by decide +kernel)
theorem mL_7 : qLkV RL 7 M_X3_part 1 := ⟨lkX3_part, kdX3_part, slX3_part, Or.inl lkmL_7⟩
theorem xcl : Cond.classLink RX3 52 RJx00060 ∈ qT := qT_in (by decide +kernel) (by decide +kernel)
theorem xini : Cond.initialized RJx00060 ∈ qT := qT_in (by decide +kernel) (by decide +kernel)
theorem xinst : Cond.instantiable RJx00060 6 ∈ qT := qT_in (by decide +kernel) (by decide +kernel)
def xQ (G : qG) (h : qH) : Array Value → State → Outcome → State → Prop := fun _ st o t => ∃ (b : Nat) (ce : Cell), o = .threw b ∧ t.heap[b]? = some ce ∧ ce.vm = .none ∧ st.vm.findClass RJx00060 = some ce.cls ∧ qRep G h t.heap ∧ st.heap.size ≤ t.heap.size ∧ ∀ q : Nat, q < G.2.1 → t.heap[q]? = st.heap[q]?
def xQF (G : qG) (M : qM) (h : qH) : Array Value → State → Outcome → State → Prop := fun a st o t => xQ G h a st o t ∧ ∃ L : List Loc, st.WarmedH t.vm ∧ st.sameButNew ({ t with vm := st.vm } : State) L M.2.2.2.2.cells M.2.2.2.2.slots ∧ ∀ q ∈ L, G.2.1 ≤ q.base
def xPc (G : qG) (av : List Value) (h : qH) : Array Value → State → Prop := fun v U => qPc G av h v U ∧ xW G.2.1 U
def xThr (G : qG) (M : qM) (av : List Value) (h : qH) : Prop := MetFree G.1 M.1 (headSpec (qWs M) M.2.2.2.2) (xPc G av h) (fun _ _ _ _ _ => True) (xQF G M h)
section XT
variable {G : qG} {M : qM} {h : qH} {p : Program} {e : Env} {s : State} {m : MethodId} {args : Array Value} {below : List Frame} {meth : Method} {c : Code} {H : Heap} {locs : List Loc} {cn sn : Nat} {Q : State → Prop}
theorem w_getf {index ci kf a pc : Nat} {ls : Array Slot} {fs rest : List Value} {v : Value} (C : qC G M p s m args meth c) (hR : qRep G h H) (hd : decode M.2.1 pc = .ok (.getfield index, 3)) (hf : qFld M.1.cls index ci kf) (hh : h a = some (.inr (ci, fs))) (hv : fs[kf]? = some v) (kk : W p G.1 e M.2.2.2.2 s m args below meth c H locs cn sn Q (F0 m (pc + 3) ls (v :: rest))) : W p G.1 e M.2.2.2.2 s m args below meth c H locs cn sn Q (F0 m pc ls (.ref a :: rest)) := by
  obtain ⟨hx, hb, hml, hr, hlk, hown, hts, hK, hnm, hN⟩ := C
  obtain ⟨r, ⟨hrr, hin, -, -⟩, hk, hlink⟩ := hf
  obtain ⟨r', h1, cell, q1, q2, q3, q4⟩ := hR a _ hh
  have e1 : r' = r := Option.some.inj (h1.symm.trans hrr)
  subst e1
  obtain ⟨hSl, hfc, kC, hkC, hkind⟩ := hK.1.1 ci _ hrr
  obtain ⟨cf, kf', fi, f, hi, hsl⟩ := hSl kf hk
  have hst := (u_facts hfc hkC (u_lays hts hin hk) hi).1
  have hval : cell.slots[f.slot]? = some v := by
    rw [hsl, q4 kf hk]
    simp [vp_V, hv]
  rcases hlink with hlink | ⟨host, hlink⟩
  · exact W.getf hx hb hown (hts _ hlink) hi hst q1 (by rw [q3]; exact fun h => by cases h) hval rfl rfl hd kk
  · exact va_Wgetf hx hb hown (va_Nw.use rfl (hK.2.2 _ hlink)) hi hst q1 (by rw [q3]; exact fun h => by cases h) hval rfl rfl hd kk
set_option maxHeartbeats 4000000 in
/-- new; dup; ldc; invokespecial; athrow: from a state in which nothing has been done -/
theorem w_throw {ls : Array Slot} (C : qC G M_X3_part p s m args meth c) (hl : G.1.stackTraces = false) (hx : xW G.2.1 s) (hR : qRep G h s.heap) (hls : ls.size = 2) (hout : ∀ x ∈ c.exceptionTable.toList, covers x 25 = false) :
    W p G.1 e M_X3_part.2.2.2.2 s m args below meth c s.heap [] 0 0 (fun t => ∃ o, t.status = .running ∧ Ended t below o ∧ xQF G M_X3_part h args s o t) (F0 m 16 ls []) := by
  intro T hT X
  obtain ⟨hexec, hb, hml, hr, hlk, hown, hts, hK, hnm, hN⟩ := C
  have htr : e.platform.stackTraces = false := (show e.platform.stackTraces = G.1.stackTraces by rw [X.admits.platform]).trans hl
  obtain ⟨sa, hsa⟩ := hx.2.2.2
  have hat := xAt hx hts
  obtain ⟨vm₁, cX, kX, hfX, hkX, -, -, X₁, st1⟩ := X.newCold hexec (own := RX3) (C := RJx00060) (index := 52) (n := 6) hown (hts _ xcl) (hts _ xinst) (hts _ xini)
    (g := F0 m 16 ls []) rfl (by rw [hb]; exact dX3_part_16) (by decide) (by decide)
  generalize hT1 : (T.setVm vm₁).pushCell { cls := cX, slots := kX.instanceTypes.map defaultValue, vm := .none } = T1 at X₁ st1
  have hcellA : T1.heap[T.heap.size]? = some (freshCell cX kX) := by rw [← hT1]; exact State.heap_pushCell_size _ _
  obtain ⟨U, hsteps, hrun, hend, hW, hsame, ce, hce, hO⟩ := X₁.ctorThrowS hexec htr (own := RX3) (cls := RJx00060) (names := xNm) (ic := 56) hown (by decide +kernel) (by decide +kernel) hat (fun x hx => nomatch hx) hfX hkX hcellA (by rw [hT]; exact Nat.le_refl _) (msg := .ref sa) rfl
    (g := { method := m, pc := 22, locals := ls, stack := [.ref sa, .ref T.heap.size, .ref T.heap.size], locked := none }) rfl (hls.trans hml.symm) rfl rfl (rest := []) rfl
    (by rw [hb]; exact dX3_part_22) (by rw [hb]; exact dX3_part_25) hout (by decide) (Nat.le_of_ble_eq_true rfl) hlk
  have hkeep : ∀ (a : Nat) (c0 : Cell), s.heap[a]? = some c0 → U.heap[a]? = some c0 := fun a c0 h0 => hsame.old_cell h0
  refine ⟨U, ?_, .threw T.heap.size, hrun, hend, ⟨T.heap.size, ce, rfl, hce, hO.vm, hO.cls, fun a x hax => ?_, hsame.2.1, fun q hq => ?_⟩, [], hW, hsame, fun q hq => nomatch hq⟩
  · refine st1 _ ?_
    show Steps p.tables e below (T1.setTop { method := m, pc := 19, locals := ls, stack := [.ref T.heap.size], locked := none }) _
    have d3' : decode c.code 19 = .ok (.dup, 1) := by rw [hb]; exact dX3_part_19
    jvm_step X₁.here [X₁.here.top, hexec, d3', Value.category]
    exact X₁.ldcString hexec (own := RX3) (text := "no such part") (index := 54) (a := sa) hown hsa.1 hsa.2
      (g := { method := m, pc := 20, locals := ls, stack := [.ref T.heap.size, .ref T.heap.size], locked := none }) rfl (by rw [hb]; exact dX3_part_20) _ hsteps
  · exact (hR a x hax).kept (by
      have h1 := (hR a x hax).lt
      rw [hkeep a _ (Array.getElem?_eq_getElem h1), Array.getElem?_eq_getElem h1])
  · have h1 : q < s.heap.size := Nat.lt_of_lt_of_le hq hN
    rw [hkeep q _ (Array.getElem?_eq_getElem h1), Array.getElem?_eq_getElem h1]
end XT
set_option maxHeartbeats 4000000 in
theorem x_part (G : qG) {h : qH} {a r k0 : Nat} {lat tol : Option Nat} (i : Int32) (hl : G.1.stackTraces = false) (ga : h a = some (csCell r k0 lat tol)) (hi : lat = none ∨ i < 0 ∨ 4 < i) : xThr G M_X3_part [.ref a, .int i] h := by
  refine MetFree.of_bodyS (code := cX3_part) (maxLocals := 2) (ret := some .long) (by decide) ?_ ?_
  · intro args s m h hn
    obtain ⟨meth, c, h1, h2, h3, h4, h5, h6, -, -⟩ := Cond.code_spec hn (atoms_spec (ws := qWs M_X3_part) h _ List.mem_cons_self)
    exact ⟨meth, c, h1, h2, h3, h4, h5, h6⟩
  · intro p e s m args below meth c s₁ B hml hP _
    obtain ⟨⟨rfl, hR, hK, hN⟩, hx⟩ := hP
    have hts := atoms_spec (ws := qWs M_X3_part) B.pre
    have hw := lv_entry [.ref a, .int i] (n := 2) (Nat.le_of_ble_eq_true rfl)
    have hh0 : s₁.heap = s.heap := by rw [B.state]; rfl
    have C : qC G M_X3_part p s m ([Value.ref a, .int i] : List Value).toArray meth c := ⟨B.exec, B.bytes, hml, B.returns, B.notSynchronized, findClass_of_methodNamed B.named, fun w hw => hts w (List.mem_cons_of_mem _ hw), hK, (name_of_methodNamed B.named B.method).1, hN⟩
    have hout : ∀ x ∈ c.exceptionTable.toList, covers x 25 = false := covers_of_empty (B.noHandlers (hts _ List.mem_cons_self)) _
    have K : W p G.1 e M_X3_part.2.2.2.2 s m ([Value.ref a, .int i] : List Value).toArray below meth c s.heap [] 0 0 (fun t => ∃ o, t.status = .running ∧ Ended t below o ∧ xQF G M_X3_part h ([Value.ref a, .int i] : List Value).toArray s o t) (entryFrame m ([Value.ref a, .int i] : List Value).toArray 2) := by
      rw [lg_entry_eq]
      have l0 := hw.2.2 (0, .ref a) (by simp [lv_args, Value.category])
      have l1 := hw.2.2 (1, .int i) (by simp [lv_args, Value.category])
      refine lv_aload_n C.1 C.2.1 dX3_part_0 rfl l0 ?_
      refine w_getf C hR dX3_part_1 fX3_25 ga rfl ?_
      cases lat with
      | none =>
        refine lv_ifnullN C.1 C.2.1 dX3_part_4 (tgt := 16) (by decide) ?_
        exact w_throw C hl hx hR hw.1 hout
      | some x =>
        refine lv_ifnull C.1 C.2.1 dX3_part_4 ?_
        refine lv_iload_n C.1 C.2.1 dX3_part_7 rfl l1 ?_
        refine lv_if_lt C.1 C.2.1 dX3_part_8 (tgt := 16) (by decide) (fun q => ?_) (fun q => ?_)
        · exact w_throw C hl hx hR hw.1 hout
        · refine lv_iload_n C.1 C.2.1 dX3_part_11 rfl l1 ?_
          refine lv_iconst (v := 4) C.1 C.2.1 dX3_part_12 (by decide) ?_
          refine lv_icmp_le C.1 C.2.1 dX3_part_13 (tgt := 26) (by decide) (fun q2 => ?_) (fun q2 => ?_)
          · rcases hi with h1 | h1 | h1
            · cases h1
            · exact absurd h1 q
            · exact absurd q2 (i32_nle.mpr h1)
          · exact w_throw C hl hx hR hw.1 hout
    obtain ⟨t, a1, o, b1, b2, b3⟩ := K s₁ hh0 (Stand.of_body B)
    exact ⟨t, o, a1, b1, b2, b3⟩
