abbrev qE : Type := (Nat × vp_A) ⊕ (Nat × List Value)
abbrev qH : Type := Nat → Option qE
abbrev qG : Type := Launch × Nat × va_G × (Nat → ClassId)
abbrev qM : Type := MethodName × ByteArray × Nat × Option FieldType × Room
abbrev qM.y (M : qM) : MethodName := M.1
abbrev qM.code (M : qM) : ByteArray := M.2.1
abbrev qM.maxL (M : qM) : Nat := M.2.2.1
abbrev qM.ret (M : qM) : Option FieldType := M.2.2.2.1
abbrev qM.room (M : qM) : Room := M.2.2.2.2
/-- kinds of arrays: ints, bytes, longs, call numbers -/
def qty (t : Nat) : FieldType := match t with
  | 0 => .int
  | 1 => .byte
  | 2 => .long
  | _ => .object RX0
def qcell (G : qG) (e : qE) : va_E := match e with
  | .inl x => .inl (G.2.2.2 x.1, x.2)
  | .inr o => .inr o
/-- the heap holds the known cells -/
def qRep (G : qG) (h : qH) (H : Heap) : Prop := ∀ (a : Nat) (e : qE), h a = some e → va_at G.2.2.1 vwCl (a, qcell G e) H
def qNestQ : Cond → Bool
  | .fieldLinkNest _ _ _ _ _ _ => true
  | .methodLinkNest _ _ _ _ => true
  | .arrayOver (.object _) => true
  | _ => false
/-- the tables' words that every method carries; those of nest mates -/
def qT : List Cond := lw_tbl.filter goodWord
def qN : List Cond := lw_tbl.filter qNestQ
theorem qT_in {w : Cond} (h : w ∈ lw_tbl) (hg : goodWord w = true) : w ∈ qT := List.mem_filter.mpr ⟨h, hg⟩
theorem qN_in {w : Cond} (h : w ∈ lw_tbl) (hg : qNestQ w = true) : w ∈ qN := List.mem_filter.mpr ⟨h, hg⟩
theorem qT_good {w : Cond} (h : w ∈ qT) : (w.onTables && w.keeps) = true ∨ ∃ ty, w = .arrayClass ty := good_of_word (List.mem_filter.mp h).2
def qK (G : qG) (U : State) : Prop := va_K G.2.2.1 vwCl [] U ∧ (∀ t : Nat, ArrOfT U (G.2.2.2 t) (qty t) ∧ va_RA U (G.2.2.2 t) (qty t)) ∧ ∀ w ∈ qN, va_Nw w U
theorem qK.warm {G : qG} {s U : State} (hW : s.WarmedH U.vm) (h : qK G s) : qK G U := by
  obtain ⟨h1, h2, h3⟩ := h
  refine ⟨va_K.moved hW.alike h1, fun t => ⟨arrOfT_moved hW.alike (h2 t).1, (h2 t).2.moved hW.alike⟩, fun w hw => ?_⟩
  have hz := h3 w hw
  have hq := (List.mem_filter.mp hw).2
  cases w with
  | arrayOver ty => cases ty <;> first | exact va_AO.moved hW.alike hz | exact absurd hq (by simp [qNestQ])
  | _ => first | exact va_Nw.warmF hW hz | exact va_Nw.warmM hW hz | exact absurd hq (by simp [qNestQ])
theorem qK.call {G : qG} {U : State} (g : JFrame) (mk : MethodId) (a : Array Value) (h : qK G U) : qK G (U.calling g mk a) := by
  obtain ⟨h1, h2, h3⟩ := h
  refine ⟨va_K.moved (u := U) (U := U.calling g mk a) (Vm.Alike.refl U.vm) h1, fun t => ⟨arrOfT_moved (u := U) (E := U.calling g mk a) (Vm.Alike.refl U.vm) (h2 t).1, (h2 t).2.moved (U := U.calling g mk a) (Vm.Alike.refl U.vm)⟩, fun w hw => ?_⟩
  have hz := h3 w hw
  have hq := (List.mem_filter.mp hw).2
  cases w with
  | arrayOver ty => cases ty <;> first | exact va_AO.moved (u := U) (U := U.calling g mk a) (Vm.Alike.refl U.vm) hz | exact absurd hq (by simp [qNestQ])
  | _ => first | exact va_Nw.same (u := U) (U := U.calling g mk a) rfl rfl hz | exact absurd hq (by simp [qNestQ])
def qPc (G : qG) (av : List Value) (h : qH) : Array Value → State → Prop := fun v U => v = av.toArray ∧ qRep G h U.heap ∧ qK G U ∧ G.2.1 ≤ U.heap.size
def qQc (G : qG) (Q : Option Value → qH → Prop) : Array Value → State → Outcome → State → Prop := fun _ st o t =>
  ∃ (r : Option Value) (h' : qH), o = .returned r ∧ Q r h' ∧ qRep G h' t.heap ∧ st.heap.size ≤ t.heap.size ∧ ∀ q : Nat, q < G.2.1 → t.heap[q]? = st.heap[q]?
def qWs (M : qM) : List Cond := Cond.code M.1 M.2.1 M.2.2.1 M.2.2.2.1 :: qT
/-- a method's contract: from the arguments av and the known cells h it returns, with Q of the answer and the known cells then -/
def qMet (G : qG) (M : qM) (av : List Value) (h : qH) (Q : Option Value → qH → Prop) : Prop :=
  Met G.1 M.1 (qWs M) M.2.2.2.2 (qPc G av h) (qQc G Q) M.2.2.2.2.cells M.2.2.2.2.slots (fun q => G.2.1 ≤ q)
theorem qPc.blind {G : qG} {av : List Value} {h : qH} : FrameBlind (qPc G av h) := fun a U g mk q => ⟨q.1, q.2.1, q.2.2.1.call g mk a, q.2.2.2⟩
-- locals
def qL (ls : Array Slot) (n : Nat) (L : List (Option Value)) : Prop := ls.size = n ∧ lv_wf ls ∧ ∀ (i : Nat) (v : Value), L[i]? = some (some v) → ls[i]? = some (.val v)
def qPs : Nat → List (Option Value) → List (Nat × Value)
  | _, [] => []
  | k, none :: t => qPs (k + 1) t
  | k, some v :: t => (k, v) :: qPs (k + 1) t
theorem qPs_mem : ∀ (L : List (Option Value)) (k i : Nat) (v : Value), (i, v) ∈ qPs k L ↔ k ≤ i ∧ L[i - k]? = some (some v)
  | [], k, i, v => by simp [qPs]
  | none :: t, k, i, v => by
    rw [qPs, qPs_mem t (k + 1) i v]
    constructor
    · rintro ⟨h1, h2⟩
      refine ⟨by omega, ?_⟩
      rw [show i - k = (i - (k + 1)) + 1 by omega, List.getElem?_cons_succ]
      exact h2
    · rintro ⟨h1, h2⟩
      by_cases hk : i = k
      · subst hk; simp at h2
      · refine ⟨by omega, ?_⟩
        rw [show i - k = (i - (k + 1)) + 1 by omega, List.getElem?_cons_succ] at h2
        exact h2
  | some w :: t, k, i, v => by
    rw [qPs, List.mem_cons, qPs_mem t (k + 1) i v]
    constructor
    · rintro (h | ⟨h1, h2⟩)
      · cases h; simp
      · refine ⟨by omega, ?_⟩
        rw [show i - k = (i - (k + 1)) + 1 by omega, List.getElem?_cons_succ]
        exact h2
    · rintro ⟨h1, h2⟩
      by_cases hk : i = k
      · subst hk; simp at h2; subst h2; exact Or.inl rfl
      · refine Or.inr ⟨by omega, ?_⟩
        rw [show i - k = (i - (k + 1)) + 1 by omega, List.getElem?_cons_succ] at h2
        exact h2
theorem qL.has {ls : Array Slot} {n : Nat} {L : List (Option Value)} (h : qL ls n L) : lv_has ls n (qPs 0 L) := ⟨h.1, h.2.1, fun q hq => by
  obtain ⟨i, v⟩ := q
  exact h.2.2 i v (by simpa using ((qPs_mem L 0 i v).mp hq).2)⟩
def qClr (L : List (Option Value)) (i : Nat) : List (Option Value) := match i with
  | 0 => L
  | k + 1 => match L[k]? with
    | some (some (.long _)) => L.set k none
    | some (some (.double _)) => L.set k none
    | _ => L
def qS1 (L : List (Option Value)) (i : Nat) (v : Value) : List (Option Value) := (qClr L i).set i (some v)
def qS2 (L : List (Option Value)) (i : Nat) (v : Value) : List (Option Value) := ((qClr L i).set i (some v)).set (i + 1) none
theorem qClr_at {L : List (Option Value)} {i j : Nat} {w : Value} (h : (qClr L i)[j]? = some (some w)) : L[j]? = some (some w) ∧ ¬ (j + 1 = i ∧ w.category = 2) := by
  cases i with
  | zero => exact ⟨h, fun q => absurd q.1 (by omega)⟩
  | succ k =>
    have keep : ∀ L' : List (Option Value), L' = L.set k none → L'[j]? = some (some w) → L[j]? = some (some w) ∧ ¬ (j + 1 = k + 1 ∧ w.category = 2) := by
      intro L' e hj
      subst e
      by_cases hjk : j = k
      · subst hjk
        have hl : j < L.length := by
          have := (List.getElem?_eq_some_iff.mp hj).1
          simpa using this
        rw [List.getElem?_set_self hl] at hj
        cases hj
      · rw [List.getElem?_set_ne (Ne.symm hjk)] at hj
        exact ⟨hj, fun q => hjk (by omega)⟩
    have same : (∀ x, L[k]? ≠ some (some (.long x))) → (∀ x, L[k]? ≠ some (some (.double x))) → L[j]? = some (some w) → L[j]? = some (some w) ∧ ¬ (j + 1 = k + 1 ∧ w.category = 2) := by
      intro n1 n2 hj
      refine ⟨hj, fun q => ?_⟩
      have hjk : j = k := by omega
      subst hjk
      cases w with
      | long x => exact n1 x hj
      | double x => exact n2 x hj
      | _ => simp [Value.category] at q
    unfold qClr at h
    dsimp only at h
    split at h
    · exact keep _ rfl h
    · exact keep _ rfl h
    · next n1 n2 => exact same (fun x q => n1 x q) (fun x q => n2 x q) h
theorem qS1_of {ls' : Array Slot} {n i : Nat} {L : List (Option Value)} {v : Value} (h : lv_has ls' n ((i, v) :: (qPs 0 L).filter (fun q => !(q.1 == i) && !(q.1 + 1 == i && q.2.category == 2)))) : qL ls' n (qS1 L i v) := by
  refine ⟨h.1, h.2.1, fun j w hj => ?_⟩
  unfold qS1 at hj
  by_cases hji : j = i
  · subst hji
    have hl : j < (qClr L j).length := by
      have := (List.getElem?_eq_some_iff.mp hj).1
      simpa using this
    rw [List.getElem?_set_self hl] at hj
    cases hj
    exact h.2.2 (j, v) List.mem_cons_self
  · rw [List.getElem?_set_ne (Ne.symm hji)] at hj
    obtain ⟨h1, h2⟩ := qClr_at hj
    refine h.2.2 (j, w) (List.mem_cons_of_mem _ (List.mem_filter.mpr ⟨(qPs_mem L 0 j w).mpr ⟨Nat.zero_le _, by simpa using h1⟩, ?_⟩))
    by_cases hc : j + 1 = i
    · have h3 : ¬ w.category = 2 := fun q => h2 ⟨hc, q⟩
      simp [hji, h3]
    · simp [hji, hc]
theorem qS2_of {ls' : Array Slot} {n i : Nat} {L : List (Option Value)} {v : Value} (h : lv_has ls' n ((i, v) :: (qPs 0 L).filter (fun q => !(q.1 == i) && (!(q.1 == i + 1) && !(q.1 + 1 == i && q.2.category == 2))))) : qL ls' n (qS2 L i v) := by
  refine ⟨h.1, h.2.1, fun j w hj => ?_⟩
  unfold qS2 at hj
  by_cases hj1 : j = i + 1
  · subst hj1
    have hl : i + 1 < ((qClr L i).set i (some v)).length := by
      have := (List.getElem?_eq_some_iff.mp hj).1
      simpa using this
    rw [List.getElem?_set_self hl] at hj
    cases hj
  · rw [List.getElem?_set_ne (Ne.symm hj1)] at hj
    by_cases hji : j = i
    · subst hji
      have hl : j < (qClr L j).length := by
        have := (List.getElem?_eq_some_iff.mp hj).1
        simpa using this
      rw [List.getElem?_set_self hl] at hj
      cases hj
      exact h.2.2 (j, v) List.mem_cons_self
    · rw [List.getElem?_set_ne (Ne.symm hji)] at hj
      obtain ⟨h1, h2⟩ := qClr_at hj
      refine h.2.2 (j, w) (List.mem_cons_of_mem _ (List.mem_filter.mpr ⟨(qPs_mem L 0 j w).mpr ⟨Nat.zero_le _, by simpa using h1⟩, ?_⟩))
      by_cases hc : j + 1 = i
      · have h3 : ¬ w.category = 2 := fun q => h2 ⟨hc, q⟩
        simp [hji, hj1, h3]
      · simp [hji, hj1, hc]
theorem qL.int {ls : Array Slot} {n i : Nat} {L : List (Option Value)} {x : Int32} (h : qL ls n L) (hi : L[i]? = some (some (.int x))) : ∃ k : Nat, (qPs 0 L)[k]? = some (i, .int x) :=
  List.getElem?_of_mem ((qPs_mem L 0 i (.int x)).mpr ⟨Nat.zero_le _, by simpa using hi⟩)
def qArgs : List Value → List (Option Value)
  | [] => []
  | v :: vs => if v.category = 2 then some v :: none :: qArgs vs else some v :: qArgs vs
theorem qArgs_mem : ∀ (vs : List Value) (k i : Nat) (v : Value), (qArgs vs)[i]? = some (some v) → (k + i, v) ∈ lv_args k vs
  | [], k, i, v, h => by simp [qArgs] at h
  | u :: vs, k, i, v, h => by
    by_cases hc : u.category = 2
    · simp only [qArgs, lv_args, hc, if_true] at h ⊢
      match i, h with
      | 0, h => simp at h; subst h; exact List.mem_cons_self
      | 1, h => simp at h
      | i + 2, h =>
        simp only [List.getElem?_cons_succ] at h
        have := qArgs_mem vs (k + 2) i v h
        rw [show k + (i + 2) = k + 2 + i by omega]
        exact List.mem_cons_of_mem _ this
    · simp only [qArgs, lv_args, hc, if_false] at h ⊢
      match i, h with
      | 0, h => simp at h; subst h; exact List.mem_cons_self
      | i + 1, h =>
        simp only [List.getElem?_cons_succ] at h
        have := qArgs_mem vs (k + 1) i v h
        rw [show k + (i + 1) = k + 1 + i by omega]
        exact List.mem_cons_of_mem _ this
/-- what holds of the machine in a walk of M -/
def qC (G : qG) (M : qM) (p : Program) (s : State) (m : MethodId) (args : Array Value) (meth : Method) (c : Code) : Prop :=
  p.tables.exec = Jvm.exec ∧ c.code = M.2.1 ∧ c.maxLocals = M.2.2.1 ∧ meth.sig.returnType = M.2.2.2.1 ∧ meth.locks = false ∧ s.vm.findClass M.1.cls = some m.cls ∧ (∀ w ∈ qT, w.before args s = true) ∧ qK G s ∧ meth.name = M.1.name ∧ G.2.1 ≤ s.heap.size
abbrev qZ : Type := List Frame → Array Value → State → State → Prop
abbrev qX : Type := Array Value → State → Prop
/-- THE JUDGEMENT: at pc with locals L, stack st, known cells h, cn cells and sn slots made so far, M comes to Z -/
def QP (G : qG) (M : qM) (E : qX) (Z : qZ) (pc : Nat) (L : List (Option Value)) (st : List Value) (h : qH) (cn sn : Nat) : Prop :=
  ∀ (p : Program) (e : Env) (s : State) (m : MethodId) (args : Array Value) (below : List Frame) (meth : Method) (c : Code), qC G M p s m args meth c → E args s →
    ∀ (H : Heap) (ls : Array Slot) (locs : List Loc), qRep G h H → qL ls M.2.2.1 L → va_S (fun q : Nat => G.2.1 ≤ q) s.heap H locs →
      W p G.1 e M.2.2.2.2 s m args below meth c H locs cn sn (Z below args s) (F0 m pc ls st)
def qMZ (G : qG) (M : qM) (Q : Option Value → qH → Prop) : qZ := fun below args s => MQ below (qQc G Q) args s M.2.2.2.2.cells M.2.2.2.2.slots (fun q => G.2.1 ≤ q)
def qTr : qX := fun _ _ => True
theorem qMet.of {G : qG} {M : qM} {av : List Value} {h : qH} {Q : Option Value → qH → Prop} {L : List (Option Value)} (hy : plainName M.1.cls = true) (hn : (lg_sl av).length ≤ M.2.2.1) (hL : qArgs av ++ List.replicate (M.2.2.1 - (lg_sl av).length) none = L)
    (k : QP G M qTr (qMZ G M Q) 0 L [] h 0 0) : qMet G M av h Q := by
  refine Met.ofW (cc := M.2.1) (maxL := M.2.2.1) (ret := M.2.2.2.1) hy rfl ?_
  intro p e s m args below meth c s₁ B hml hv
  obtain ⟨rfl, hR, hK, hN⟩ := hv
  have hts := atoms_spec (ws := qWs M) B.pre
  have hl := lv_entry av (n := M.2.2.1) hn
  rw [lg_entry_eq]
  refine k p e s m _ below meth c ⟨B.exec, B.bytes, hml, B.returns, B.notSynchronized, findClass_of_methodNamed B.named, fun w hw => hts w (List.mem_cons_of_mem _ hw), hK, (name_of_methodNamed B.named B.method).1, hN⟩ trivial s.heap _ [] hR ⟨hl.1, hl.2.1, fun i v hi => ?_⟩ va_S.rf
  rw [← hL] at hi
  by_cases hlt : i < (qArgs av).length
  · rw [List.getElem?_append_left hlt] at hi
    have := hl.2.2 _ (qArgs_mem av 0 i v hi)
    rwa [Nat.zero_add] at this
  · rw [List.getElem?_append_right (by omega)] at hi
    have := List.eq_of_mem_replicate (List.mem_of_getElem? hi)
    cases this
theorem qMet.mono {G : qG} {M : qM} {av : List Value} {h : qH} {Q Q' : Option Value → qH → Prop} (hm : qMet G M av h Q) (hq : ∀ r h', Q r h' → Q' r h') : qMet G M av h Q' := by
  intro p e a1 a2 a3 s m args below hf hfit hap hpre
  obtain ⟨k, o, h1, h2, h3, ⟨⟨r, h', e1, e2, e3⟩, h5⟩⟩ := hm p e a1 a2 a3 s m args below hf hfit hap hpre
  exact ⟨k, o, h1, h2, h3, ⟨⟨r, h', e1, hq _ _ e2, e3⟩, h5⟩⟩
def qUp (h : qH) (a : Nat) (e : qE) : qH := fun q => if q = a then some e else h q
theorem qUp_self (h : qH) (a : Nat) (e : qE) : qUp h a e a = some e := if_pos rfl
theorem qUp_ne {h : qH} {a b : Nat} {e : qE} (hb : b ≠ a) : qUp h a e b = h b := if_neg hb
theorem qRep.up {G : qG} {h : qH} {H H1 : Heap} {a : Nat} {e : qE} (hR : qRep G h H) (ha : va_at G.2.2.1 vwCl (a, qcell G e) H1) (ho : ∀ q : Nat, q ≠ a → H1[q]? = H[q]?) : qRep G (qUp h a e) H1 := by
  intro b x hb
  by_cases hba : b = a
  · subst hba
    rw [qUp_self] at hb
    cases hb
    exact ha
  · rw [qUp_ne hba] at hb
    exact (hR b x hb).kept (ho b hba)
theorem qRep.push {G : qG} {h : qH} {H H1 : Heap} {e : qE} (hR : qRep G h H) (ha : va_at G.2.2.1 vwCl (H.size, qcell G e) H1) (ho : ∀ q : Nat, q < H.size → H1[q]? = H[q]?) : qRep G (qUp h H.size e) H1 := by
  intro b x hb
  by_cases hba : b = H.size
  · subst hba
    rw [qUp_self] at hb
    cases hb
    exact ha
  · rw [qUp_ne hba] at hb
    have := (hR b x hb).lt
    exact (hR b x hb).kept (ho b this)
theorem qRep.fresh {G : qG} {h : qH} {H : Heap} (hR : qRep G h H) : h H.size = none := by
  cases hh : h H.size with
  | none => rfl
  | some e => exact absurd (hR _ _ hh).lt (Nat.lt_irrefl _)

section QPS
variable {G : qG} {M : qM} {E : qX} {Z : qZ} {pc : Nat} {L : List (Option Value)} {st : List Value} {h : qH} {cn sn : Nat}
theorem qp_iconst {n : Int} {v : Int32} (hd : decode M.2.1 pc = .ok (.iconst n, 1)) (hv : Int32.ofInt n = v) (k : QP G M E Z (pc + 1) L (.int v :: st) h cn sn) : QP G M E Z pc L st h cn sn :=
  fun p e s m args below meth c C hE H ls locs hR hL hS => lv_iconst C.1 C.2.1 hd hv (k p e s m args below meth c C hE H ls locs hR hL hS)
theorem qp_bipush {n : Int} {v : Int32} (hd : decode M.2.1 pc = .ok (.bipush n, 2)) (hv : (Int8.ofInt n).toInt32 = v) (k : QP G M E Z (pc + 2) L (.int v :: st) h cn sn) : QP G M E Z pc L st h cn sn :=
  fun p e s m args below meth c C hE H ls locs hR hL hS => lv_bipush C.1 C.2.1 hd hv (k p e s m args below meth c C hE H ls locs hR hL hS)
theorem qp_sipush {n : Int} {v : Int32} (hd : decode M.2.1 pc = .ok (.sipush n, 3)) (hv : (Int16.ofInt n).toInt32 = v) (k : QP G M E Z (pc + 3) L (.int v :: st) h cn sn) : QP G M E Z pc L st h cn sn :=
  fun p e s m args below meth c C hE H ls locs hR hL hS => lv_sipush C.1 C.2.1 hd hv (k p e s m args below meth c C hE H ls locs hR hL hS)
theorem qp_lconst {n : Fin 2} {v : Int64} (hd : decode M.2.1 pc = .ok (.lconst n, 1)) (hv : Int64.ofNat (n : Nat) = v) (k : QP G M E Z (pc + 1) L (.long v :: st) h cn sn) : QP G M E Z pc L st h cn sn :=
  fun p e s m args below meth c C hE H ls locs hR hL hS => lv_lconst C.1 C.2.1 hd hv (k p e s m args below meth c C hE H ls locs hR hL hS)
theorem qp_null  (hd : decode M.2.1 pc = .ok (.aconst_null, 1))  (k : QP G M E Z (pc + 1) L (.null :: st) h cn sn) : QP G M E Z pc L st h cn sn :=
  fun p e s m args below meth c C hE H ls locs hR hL hS => lv_null C.1 C.2.1 hd (k p e s m args below meth c C hE H ls locs hR hL hS)
theorem qp_iload_n {i : Fin 4} {x : Int32} (hd : decode M.2.1 pc = .ok (.iload_n i, 1)) (hl : L[(i : Nat)]? = some (some (.int x))) (k : QP G M E Z (pc + 1) L (.int x :: st) h cn sn) : QP G M E Z pc L st h cn sn :=
  fun p e s m args below meth c C hE H ls locs hR hL hS => lv_iload_n C.1 C.2.1 hd rfl (hL.2.2 _ _ hl) (k p e s m args below meth c C hE H ls locs hR hL hS)
theorem qp_iload {i : Nat} {x : Int32} (hd : decode M.2.1 pc = .ok (.iload i, 2)) (hl : L[i]? = some (some (.int x))) (k : QP G M E Z (pc + 2) L (.int x :: st) h cn sn) : QP G M E Z pc L st h cn sn :=
  fun p e s m args below meth c C hE H ls locs hR hL hS => lv_iload C.1 C.2.1 hd (hL.2.2 _ _ hl) (k p e s m args below meth c C hE H ls locs hR hL hS)
theorem qp_lload_n {i : Fin 4} {x : Int64} (hd : decode M.2.1 pc = .ok (.lload_n i, 1)) (hl : L[(i : Nat)]? = some (some (.long x))) (k : QP G M E Z (pc + 1) L (.long x :: st) h cn sn) : QP G M E Z pc L st h cn sn :=
  fun p e s m args below meth c C hE H ls locs hR hL hS => lv_lload_n C.1 C.2.1 hd rfl (hL.2.2 _ _ hl) (k p e s m args below meth c C hE H ls locs hR hL hS)
theorem qp_lload {i : Nat} {x : Int64} (hd : decode M.2.1 pc = .ok (.lload i, 2)) (hl : L[i]? = some (some (.long x))) (k : QP G M E Z (pc + 2) L (.long x :: st) h cn sn) : QP G M E Z pc L st h cn sn :=
  fun p e s m args below meth c C hE H ls locs hR hL hS => lv_lload C.1 C.2.1 hd (hL.2.2 _ _ hl) (k p e s m args below meth c C hE H ls locs hR hL hS)
theorem qp_aload_n {i : Fin 4} {x : Nat} (hd : decode M.2.1 pc = .ok (.aload_n i, 1)) (hl : L[(i : Nat)]? = some (some (.ref x))) (k : QP G M E Z (pc + 1) L (.ref x :: st) h cn sn) : QP G M E Z pc L st h cn sn :=
  fun p e s m args below meth c C hE H ls locs hR hL hS => lv_aload_n C.1 C.2.1 hd rfl (hL.2.2 _ _ hl) (k p e s m args below meth c C hE H ls locs hR hL hS)
theorem qp_aload {i : Nat} {x : Nat} (hd : decode M.2.1 pc = .ok (.aload i, 2)) (hl : L[i]? = some (some (.ref x))) (k : QP G M E Z (pc + 2) L (.ref x :: st) h cn sn) : QP G M E Z pc L st h cn sn :=
  fun p e s m args below meth c C hE H ls locs hR hL hS => lv_aload C.1 C.2.1 hd (hL.2.2 _ _ hl) (k p e s m args below meth c C hE H ls locs hR hL hS)
theorem qp_aload_nN {i : Fin 4} (hd : decode M.2.1 pc = .ok (.aload_n i, 1)) (hl : L[(i : Nat)]? = some (some .null)) (k : QP G M E Z (pc + 1) L (.null :: st) h cn sn) : QP G M E Z pc L st h cn sn :=
  fun p e s m args below meth c C hE H ls locs hR hL hS => lv_aload_nN C.1 C.2.1 hd rfl (hL.2.2 _ _ hl) (k p e s m args below meth c C hE H ls locs hR hL hS)
theorem qp_aloadN {i : Nat} (hd : decode M.2.1 pc = .ok (.aload i, 2)) (hl : L[i]? = some (some .null)) (k : QP G M E Z (pc + 2) L (.null :: st) h cn sn) : QP G M E Z pc L st h cn sn :=
  fun p e s m args below meth c C hE H ls locs hR hL hS => lv_aloadN C.1 C.2.1 hd (hL.2.2 _ _ hl) (k p e s m args below meth c C hE H ls locs hR hL hS)
theorem qp_istore_n {i : Fin 4} {x : Int32} (hd : decode M.2.1 pc = .ok (.istore_n i, 1)) (hn : (i : Nat) < M.2.2.1) (k : QP G M E Z (pc + 1) (qS1 L (i : Nat) (.int x)) st h cn sn) : QP G M E Z pc L ((.int x) :: st) h cn sn :=
  fun p e s m args below meth c C hE H ls locs hR hL hS => lv_istore_n C.1 C.2.1 hd rfl hL.has hn rfl (fun ls1 h1 => k p e s m args below meth c C hE H ls1 locs hR (qS1_of h1) hS)
theorem qp_istore {i : Nat} {x : Int32} (hd : decode M.2.1 pc = .ok (.istore i, 2)) (hn : i < M.2.2.1) (k : QP G M E Z (pc + 2) (qS1 L i (.int x)) st h cn sn) : QP G M E Z pc L ((.int x) :: st) h cn sn :=
  fun p e s m args below meth c C hE H ls locs hR hL hS => lv_istore C.1 C.2.1 hd hL.has hn rfl (fun ls1 h1 => k p e s m args below meth c C hE H ls1 locs hR (qS1_of h1) hS)
theorem qp_astore_n {i : Fin 4} {x : Nat} (hd : decode M.2.1 pc = .ok (.astore_n i, 1)) (hn : (i : Nat) < M.2.2.1) (k : QP G M E Z (pc + 1) (qS1 L (i : Nat) (.ref x)) st h cn sn) : QP G M E Z pc L ((.ref x) :: st) h cn sn :=
  fun p e s m args below meth c C hE H ls locs hR hL hS => lv_astore_n C.1 C.2.1 hd rfl hL.has hn rfl (fun ls1 h1 => k p e s m args below meth c C hE H ls1 locs hR (qS1_of h1) hS)
theorem qp_astore {i : Nat} {x : Nat} (hd : decode M.2.1 pc = .ok (.astore i, 2)) (hn : i < M.2.2.1) (k : QP G M E Z (pc + 2) (qS1 L i (.ref x)) st h cn sn) : QP G M E Z pc L ((.ref x) :: st) h cn sn :=
  fun p e s m args below meth c C hE H ls locs hR hL hS => lv_astore C.1 C.2.1 hd hL.has hn rfl (fun ls1 h1 => k p e s m args below meth c C hE H ls1 locs hR (qS1_of h1) hS)
theorem qp_astore_nN {i : Fin 4} (hd : decode M.2.1 pc = .ok (.astore_n i, 1)) (hn : (i : Nat) < M.2.2.1) (k : QP G M E Z (pc + 1) (qS1 L (i : Nat) .null) st h cn sn) : QP G M E Z pc L (.null :: st) h cn sn :=
  fun p e s m args below meth c C hE H ls locs hR hL hS => lv_astore_nN C.1 C.2.1 hd rfl hL.has hn rfl (fun ls1 h1 => k p e s m args below meth c C hE H ls1 locs hR (qS1_of h1) hS)
theorem qp_astoreN {i : Nat} (hd : decode M.2.1 pc = .ok (.astore i, 2)) (hn : i < M.2.2.1) (k : QP G M E Z (pc + 2) (qS1 L i .null) st h cn sn) : QP G M E Z pc L (.null :: st) h cn sn :=
  fun p e s m args below meth c C hE H ls locs hR hL hS => lv_astoreN C.1 C.2.1 hd hL.has hn rfl (fun ls1 h1 => k p e s m args below meth c C hE H ls1 locs hR (qS1_of h1) hS)
theorem qp_lstore_n {i : Fin 4} {x : Int64} (hd : decode M.2.1 pc = .ok (.lstore_n i, 1)) (hn : (i : Nat) + 1 < M.2.2.1) (k : QP G M E Z (pc + 1) (qS2 L (i : Nat) (.long x)) st h cn sn) : QP G M E Z pc L ((.long x) :: st) h cn sn :=
  fun p e s m args below meth c C hE H ls locs hR hL hS => lv_lstore_n C.1 C.2.1 hd rfl hL.has hn rfl (fun ls1 h1 => k p e s m args below meth c C hE H ls1 locs hR (qS2_of h1) hS)
theorem qp_lstore {i : Nat} {x : Int64} (hd : decode M.2.1 pc = .ok (.lstore i, 2)) (hn : i + 1 < M.2.2.1) (k : QP G M E Z (pc + 2) (qS2 L i (.long x)) st h cn sn) : QP G M E Z pc L ((.long x) :: st) h cn sn :=
  fun p e s m args below meth c C hE H ls locs hR hL hS => lv_lstore C.1 C.2.1 hd hL.has hn rfl (fun ls1 h1 => k p e s m args below meth c C hE H ls1 locs hR (qS2_of h1) hS)
theorem qp_iinc {i : Nat} {n : Int} {x v : Int32} (hd : decode M.2.1 pc = .ok (.iinc i n, 3)) (hl : L[i]? = some (some (.int x))) (hn : i < M.2.2.1) (hv : x + Int32.ofInt n = v) (k : QP G M E Z (pc + 3) (qS1 L i (.int v)) st h cn sn) : QP G M E Z pc L st h cn sn := by
  intro p e s m args below meth c C hE H ls locs hR hL hS
  obtain ⟨j, hj⟩ := hL.int hl
  exact lv_iinc C.1 C.2.1 hd hL.has hj hv hn rfl (fun ls1 h1 => k p e s m args below meth c C hE H ls1 locs hR (qS1_of h1) hS)
theorem qp_iadd {x y : Int32} (hd : decode M.2.1 pc = .ok (.iadd, 1))  (k : QP G M E Z (pc + 1) L (.int (x + y) :: st) h cn sn) : QP G M E Z pc L (.int y :: .int x :: st) h cn sn :=
  fun p e s m args below meth c C hE H ls locs hR hL hS => lv_iadd C.1 C.2.1 hd (k p e s m args below meth c C hE H ls locs hR hL hS)
theorem qp_isub {x y : Int32} (hd : decode M.2.1 pc = .ok (.isub, 1))  (k : QP G M E Z (pc + 1) L (.int (x - y) :: st) h cn sn) : QP G M E Z pc L (.int y :: .int x :: st) h cn sn :=
  fun p e s m args below meth c C hE H ls locs hR hL hS => lv_isub C.1 C.2.1 hd (k p e s m args below meth c C hE H ls locs hR hL hS)
theorem qp_imul {x y : Int32} (hd : decode M.2.1 pc = .ok (.imul, 1))  (k : QP G M E Z (pc + 1) L (.int (x * y) :: st) h cn sn) : QP G M E Z pc L (.int y :: .int x :: st) h cn sn :=
  fun p e s m args below meth c C hE H ls locs hR hL hS => lv_imul C.1 C.2.1 hd (k p e s m args below meth c C hE H ls locs hR hL hS)
theorem qp_iand {x y : Int32} (hd : decode M.2.1 pc = .ok (.iand, 1))  (k : QP G M E Z (pc + 1) L (.int (x &&& y) :: st) h cn sn) : QP G M E Z pc L (.int y :: .int x :: st) h cn sn :=
  fun p e s m args below meth c C hE H ls locs hR hL hS => lv_iand C.1 C.2.1 hd (k p e s m args below meth c C hE H ls locs hR hL hS)
theorem qp_ior {x y : Int32} (hd : decode M.2.1 pc = .ok (.ior, 1))  (k : QP G M E Z (pc + 1) L (.int (x ||| y) :: st) h cn sn) : QP G M E Z pc L (.int y :: .int x :: st) h cn sn :=
  fun p e s m args below meth c C hE H ls locs hR hL hS => lv_ior C.1 C.2.1 hd (k p e s m args below meth c C hE H ls locs hR hL hS)
theorem qp_ishl {x y : Int32} (hd : decode M.2.1 pc = .ok (.ishl, 1))  (k : QP G M E Z (pc + 1) L (.int (x <<< (y &&& 31)) :: st) h cn sn) : QP G M E Z pc L (.int y :: .int x :: st) h cn sn :=
  fun p e s m args below meth c C hE H ls locs hR hL hS => lv_ishl C.1 C.2.1 hd (k p e s m args below meth c C hE H ls locs hR hL hS)
theorem qp_ishr {x y : Int32} (hd : decode M.2.1 pc = .ok (.ishr, 1))  (k : QP G M E Z (pc + 1) L (.int (x >>> (y &&& 31)) :: st) h cn sn) : QP G M E Z pc L (.int y :: .int x :: st) h cn sn :=
  fun p e s m args below meth c C hE H ls locs hR hL hS => lv_ishr C.1 C.2.1 hd (k p e s m args below meth c C hE H ls locs hR hL hS)
theorem qp_idiv {x y : Int32} (hd : decode M.2.1 pc = .ok (.idiv, 1)) (hne : ¬ y = 0) (k : QP G M E Z (pc + 1) L (.int (x / y) :: st) h cn sn) : QP G M E Z pc L (.int y :: .int x :: st) h cn sn :=
  fun p e s m args below meth c C hE H ls locs hR hL hS => lv_idiv C.1 C.2.1 hd hne (k p e s m args below meth c C hE H ls locs hR hL hS)
theorem qp_irem {x y : Int32} (hd : decode M.2.1 pc = .ok (.irem, 1)) (hne : ¬ y = 0) (k : QP G M E Z (pc + 1) L (.int (x - x / y * y) :: st) h cn sn) : QP G M E Z pc L (.int y :: .int x :: st) h cn sn :=
  fun p e s m args below meth c C hE H ls locs hR hL hS => lv_irem C.1 C.2.1 hd hne (k p e s m args below meth c C hE H ls locs hR hL hS)
theorem qp_ladd {x y : Int64} (hd : decode M.2.1 pc = .ok (.ladd, 1))  (k : QP G M E Z (pc + 1) L (.long (x + y) :: st) h cn sn) : QP G M E Z pc L (.long y :: .long x :: st) h cn sn :=
  fun p e s m args below meth c C hE H ls locs hR hL hS => lv_ladd C.1 C.2.1 hd (k p e s m args below meth c C hE H ls locs hR hL hS)
theorem qp_lsub {x y : Int64} (hd : decode M.2.1 pc = .ok (.lsub, 1))  (k : QP G M E Z (pc + 1) L (.long (x - y) :: st) h cn sn) : QP G M E Z pc L (.long y :: .long x :: st) h cn sn :=
  fun p e s m args below meth c C hE H ls locs hR hL hS => lv_lsub C.1 C.2.1 hd (k p e s m args below meth c C hE H ls locs hR hL hS)
theorem qp_lmul {x y : Int64} (hd : decode M.2.1 pc = .ok (.lmul, 1))  (k : QP G M E Z (pc + 1) L (.long (x * y) :: st) h cn sn) : QP G M E Z pc L (.long y :: .long x :: st) h cn sn :=
  fun p e s m args below meth c C hE H ls locs hR hL hS => lv_lmul C.1 C.2.1 hd (k p e s m args below meth c C hE H ls locs hR hL hS)
theorem qp_land {x y : Int64} (hd : decode M.2.1 pc = .ok (.land, 1))  (k : QP G M E Z (pc + 1) L (.long (x &&& y) :: st) h cn sn) : QP G M E Z pc L (.long y :: .long x :: st) h cn sn :=
  fun p e s m args below meth c C hE H ls locs hR hL hS => lv_land C.1 C.2.1 hd (k p e s m args below meth c C hE H ls locs hR hL hS)
theorem qp_lor {x y : Int64} (hd : decode M.2.1 pc = .ok (.lor, 1))  (k : QP G M E Z (pc + 1) L (.long (x ||| y) :: st) h cn sn) : QP G M E Z pc L (.long y :: .long x :: st) h cn sn :=
  fun p e s m args below meth c C hE H ls locs hR hL hS => lv_lor C.1 C.2.1 hd (k p e s m args below meth c C hE H ls locs hR hL hS)
theorem qp_i2l {x : Int32} (hd : decode M.2.1 pc = .ok (.i2l, 1))  (k : QP G M E Z (pc + 1) L (.long x.toInt64 :: st) h cn sn) : QP G M E Z pc L (.int x :: st) h cn sn :=
  fun p e s m args below meth c C hE H ls locs hR hL hS => lv_i2l C.1 C.2.1 hd rfl (k p e s m args below meth c C hE H ls locs hR hL hS)
theorem qp_l2i {x : Int64} (hd : decode M.2.1 pc = .ok (.l2i, 1))  (k : QP G M E Z (pc + 1) L (.int x.toInt32 :: st) h cn sn) : QP G M E Z pc L (.long x :: st) h cn sn :=
  fun p e s m args below meth c C hE H ls locs hR hL hS => lv_l2i C.1 C.2.1 hd rfl (k p e s m args below meth c C hE H ls locs hR hL hS)
theorem qp_i2b {x : Int32} (hd : decode M.2.1 pc = .ok (.i2b, 1))  (k : QP G M E Z (pc + 1) L (.int x.toInt8.toInt32 :: st) h cn sn) : QP G M E Z pc L (.int x :: st) h cn sn :=
  fun p e s m args below meth c C hE H ls locs hR hL hS => lv_i2b C.1 C.2.1 hd rfl (k p e s m args below meth c C hE H ls locs hR hL hS)
theorem qp_lshl {x : Int64} {y : Int32} (hd : decode M.2.1 pc = .ok (.lshl, 1))  (k : QP G M E Z (pc + 1) L (.long (x <<< (y.toInt64 &&& 63)) :: st) h cn sn) : QP G M E Z pc L (.int y :: .long x :: st) h cn sn :=
  fun p e s m args below meth c C hE H ls locs hR hL hS => lv_lshl C.1 C.2.1 hd rfl (k p e s m args below meth c C hE H ls locs hR hL hS)
theorem qp_lcmp {x y : Int64} (hd : decode M.2.1 pc = .ok (.lcmp, 1))  (k : QP G M E Z (pc + 1) L (.int (lg_cmp x y) :: st) h cn sn) : QP G M E Z pc L (.long y :: .long x :: st) h cn sn :=
  fun p e s m args below meth c C hE H ls locs hR hL hS => W.lcmp C.1 C.2.1 hd (k p e s m args below meth c C hE H ls locs hR hL hS)
theorem qp_dup {v : Value} (hd : decode M.2.1 pc = .ok (.dup, 1)) (hv : v.category = 1) (k : QP G M E Z (pc + 1) L (v :: v :: st) h cn sn) : QP G M E Z pc L (v :: st) h cn sn :=
  fun p e s m args below meth c C hE H ls locs hR hL hS => lv_dup C.1 C.2.1 hd hv (k p e s m args below meth c C hE H ls locs hR hL hS)
theorem qp_pop {v : Value} (hd : decode M.2.1 pc = .ok (.pop, 1)) (hv : v.category = 1) (k : QP G M E Z (pc + 1) L st h cn sn) : QP G M E Z pc L (v :: st) h cn sn :=
  fun p e s m args below meth c C hE H ls locs hR hL hS => lv_pop C.1 C.2.1 hd hv (k p e s m args below meth c C hE H ls locs hR hL hS)
theorem qp_dup2 {v u : Value} (hd : decode M.2.1 pc = .ok (.dup2, 1)) (hv : v.category = 1) (hu : u.category = 1) (k : QP G M E Z (pc + 1) L (v :: u :: v :: u :: st) h cn sn) : QP G M E Z pc L (v :: u :: st) h cn sn :=
  fun p e s m args below meth c C hE H ls locs hR hL hS => lv_dup2_11 C.1 C.2.1 hd hv hu (k p e s m args below meth c C hE H ls locs hR hL hS)
theorem qp_if_eq {x : Int32} {off : Int} (tgt : Nat) (hd : decode M.2.1 pc = .ok (.ifCond .eq off, 3)) (ht : (pc : Int) + off = (tgt : Int)) (kt : x = 0 → QP G M E Z tgt L st h cn sn) (kf : ¬ x = 0 → QP G M E Z (pc + 3) L st h cn sn) : QP G M E Z pc L (.int x :: st) h cn sn :=
  fun p e s m args below meth c C hE H ls locs hR hL hS => lv_if_eq C.1 C.2.1 hd ht (fun q => kt q p e s m args below meth c C hE H ls locs hR hL hS) (fun q => kf q p e s m args below meth c C hE H ls locs hR hL hS)
theorem qp_icmp_eq {x y : Int32} {off : Int} (tgt : Nat) (hd : decode M.2.1 pc = .ok (.if_icmp .eq off, 3)) (ht : (pc : Int) + off = (tgt : Int)) (kt : x = y → QP G M E Z tgt L st h cn sn) (kf : ¬ x = y → QP G M E Z (pc + 3) L st h cn sn) : QP G M E Z pc L (.int y :: .int x :: st) h cn sn :=
  fun p e s m args below meth c C hE H ls locs hR hL hS => lv_icmp_eq C.1 C.2.1 hd ht (fun q => kt q p e s m args below meth c C hE H ls locs hR hL hS) (fun q => kf q p e s m args below meth c C hE H ls locs hR hL hS)
theorem qp_if_ne {x : Int32} {off : Int} (tgt : Nat) (hd : decode M.2.1 pc = .ok (.ifCond .ne off, 3)) (ht : (pc : Int) + off = (tgt : Int)) (kt : ¬ x = 0 → QP G M E Z tgt L st h cn sn) (kf : x = 0 → QP G M E Z (pc + 3) L st h cn sn) : QP G M E Z pc L (.int x :: st) h cn sn :=
  fun p e s m args below meth c C hE H ls locs hR hL hS => lv_if_ne C.1 C.2.1 hd ht (fun q => kt q p e s m args below meth c C hE H ls locs hR hL hS) (fun q => kf q p e s m args below meth c C hE H ls locs hR hL hS)
theorem qp_icmp_ne {x y : Int32} {off : Int} (tgt : Nat) (hd : decode M.2.1 pc = .ok (.if_icmp .ne off, 3)) (ht : (pc : Int) + off = (tgt : Int)) (kt : ¬ x = y → QP G M E Z tgt L st h cn sn) (kf : x = y → QP G M E Z (pc + 3) L st h cn sn) : QP G M E Z pc L (.int y :: .int x :: st) h cn sn :=
  fun p e s m args below meth c C hE H ls locs hR hL hS => lv_icmp_ne C.1 C.2.1 hd ht (fun q => kt q p e s m args below meth c C hE H ls locs hR hL hS) (fun q => kf q p e s m args below meth c C hE H ls locs hR hL hS)
theorem qp_if_lt {x : Int32} {off : Int} (tgt : Nat) (hd : decode M.2.1 pc = .ok (.ifCond .lt off, 3)) (ht : (pc : Int) + off = (tgt : Int)) (kt : x < 0 → QP G M E Z tgt L st h cn sn) (kf : ¬ x < 0 → QP G M E Z (pc + 3) L st h cn sn) : QP G M E Z pc L (.int x :: st) h cn sn :=
  fun p e s m args below meth c C hE H ls locs hR hL hS => lv_if_lt C.1 C.2.1 hd ht (fun q => kt q p e s m args below meth c C hE H ls locs hR hL hS) (fun q => kf q p e s m args below meth c C hE H ls locs hR hL hS)
theorem qp_icmp_lt {x y : Int32} {off : Int} (tgt : Nat) (hd : decode M.2.1 pc = .ok (.if_icmp .lt off, 3)) (ht : (pc : Int) + off = (tgt : Int)) (kt : x < y → QP G M E Z tgt L st h cn sn) (kf : ¬ x < y → QP G M E Z (pc + 3) L st h cn sn) : QP G M E Z pc L (.int y :: .int x :: st) h cn sn :=
  fun p e s m args below meth c C hE H ls locs hR hL hS => lv_icmp_lt C.1 C.2.1 hd ht (fun q => kt q p e s m args below meth c C hE H ls locs hR hL hS) (fun q => kf q p e s m args below meth c C hE H ls locs hR hL hS)
theorem qp_if_ge {x : Int32} {off : Int} (tgt : Nat) (hd : decode M.2.1 pc = .ok (.ifCond .ge off, 3)) (ht : (pc : Int) + off = (tgt : Int)) (kt : 0 ≤ x → QP G M E Z tgt L st h cn sn) (kf : ¬ 0 ≤ x → QP G M E Z (pc + 3) L st h cn sn) : QP G M E Z pc L (.int x :: st) h cn sn :=
  fun p e s m args below meth c C hE H ls locs hR hL hS => lv_if_ge C.1 C.2.1 hd ht (fun q => kt q p e s m args below meth c C hE H ls locs hR hL hS) (fun q => kf q p e s m args below meth c C hE H ls locs hR hL hS)
theorem qp_icmp_ge {x y : Int32} {off : Int} (tgt : Nat) (hd : decode M.2.1 pc = .ok (.if_icmp .ge off, 3)) (ht : (pc : Int) + off = (tgt : Int)) (kt : y ≤ x → QP G M E Z tgt L st h cn sn) (kf : ¬ y ≤ x → QP G M E Z (pc + 3) L st h cn sn) : QP G M E Z pc L (.int y :: .int x :: st) h cn sn :=
  fun p e s m args below meth c C hE H ls locs hR hL hS => lv_icmp_ge C.1 C.2.1 hd ht (fun q => kt q p e s m args below meth c C hE H ls locs hR hL hS) (fun q => kf q p e s m args below meth c C hE H ls locs hR hL hS)
theorem qp_if_gt {x : Int32} {off : Int} (tgt : Nat) (hd : decode M.2.1 pc = .ok (.ifCond .gt off, 3)) (ht : (pc : Int) + off = (tgt : Int)) (kt : 0 < x → QP G M E Z tgt L st h cn sn) (kf : ¬ 0 < x → QP G M E Z (pc + 3) L st h cn sn) : QP G M E Z pc L (.int x :: st) h cn sn :=
  fun p e s m args below meth c C hE H ls locs hR hL hS => lv_if_gt C.1 C.2.1 hd ht (fun q => kt q p e s m args below meth c C hE H ls locs hR hL hS) (fun q => kf q p e s m args below meth c C hE H ls locs hR hL hS)
theorem qp_icmp_gt {x y : Int32} {off : Int} (tgt : Nat) (hd : decode M.2.1 pc = .ok (.if_icmp .gt off, 3)) (ht : (pc : Int) + off = (tgt : Int)) (kt : y < x → QP G M E Z tgt L st h cn sn) (kf : ¬ y < x → QP G M E Z (pc + 3) L st h cn sn) : QP G M E Z pc L (.int y :: .int x :: st) h cn sn :=
  fun p e s m args below meth c C hE H ls locs hR hL hS => lv_icmp_gt C.1 C.2.1 hd ht (fun q => kt q p e s m args below meth c C hE H ls locs hR hL hS) (fun q => kf q p e s m args below meth c C hE H ls locs hR hL hS)
theorem qp_if_le {x : Int32} {off : Int} (tgt : Nat) (hd : decode M.2.1 pc = .ok (.ifCond .le off, 3)) (ht : (pc : Int) + off = (tgt : Int)) (kt : x ≤ 0 → QP G M E Z tgt L st h cn sn) (kf : ¬ x ≤ 0 → QP G M E Z (pc + 3) L st h cn sn) : QP G M E Z pc L (.int x :: st) h cn sn :=
  fun p e s m args below meth c C hE H ls locs hR hL hS => lv_if_le C.1 C.2.1 hd ht (fun q => kt q p e s m args below meth c C hE H ls locs hR hL hS) (fun q => kf q p e s m args below meth c C hE H ls locs hR hL hS)
theorem qp_icmp_le {x y : Int32} {off : Int} (tgt : Nat) (hd : decode M.2.1 pc = .ok (.if_icmp .le off, 3)) (ht : (pc : Int) + off = (tgt : Int)) (kt : x ≤ y → QP G M E Z tgt L st h cn sn) (kf : ¬ x ≤ y → QP G M E Z (pc + 3) L st h cn sn) : QP G M E Z pc L (.int y :: .int x :: st) h cn sn :=
  fun p e s m args below meth c C hE H ls locs hR hL hS => lv_icmp_le C.1 C.2.1 hd ht (fun q => kt q p e s m args below meth c C hE H ls locs hR hL hS) (fun q => kf q p e s m args below meth c C hE H ls locs hR hL hS)
theorem qp_goto {off : Int} (tgt : Nat) (hd : decode M.2.1 pc = .ok (.goto off, 3)) (ht : (pc : Int) + off = (tgt : Int)) (k : QP G M E Z tgt L st h cn sn) : QP G M E Z pc L st h cn sn :=
  fun p e s m args below meth c C hE H ls locs hR hL hS => lv_goto C.1 C.2.1 hd ht (k p e s m args below meth c C hE H ls locs hR hL hS)
theorem qp_ifnull {x : Nat} {off : Int} (hd : decode M.2.1 pc = .ok (.ifnull off, 3)) (k : QP G M E Z (pc + 3) L st h cn sn) : QP G M E Z pc L (.ref x :: st) h cn sn :=
  fun p e s m args below meth c C hE H ls locs hR hL hS => lv_ifnull C.1 C.2.1 hd (k p e s m args below meth c C hE H ls locs hR hL hS)
theorem qp_ifnullN {off : Int} (tgt : Nat) (hd : decode M.2.1 pc = .ok (.ifnull off, 3)) (ht : (pc : Int) + off = (tgt : Int)) (k : QP G M E Z tgt L st h cn sn) : QP G M E Z pc L (.null :: st) h cn sn :=
  fun p e s m args below meth c C hE H ls locs hR hL hS => lv_ifnullN C.1 C.2.1 hd ht (k p e s m args below meth c C hE H ls locs hR hL hS)
theorem qp_ifnonnull {x : Nat} {off : Int} (tgt : Nat) (hd : decode M.2.1 pc = .ok (.ifnonnull off, 3)) (ht : (pc : Int) + off = (tgt : Int)) (k : QP G M E Z tgt L st h cn sn) : QP G M E Z pc L (.ref x :: st) h cn sn :=
  fun p e s m args below meth c C hE H ls locs hR hL hS => lv_ifnonnull C.1 C.2.1 hd ht (k p e s m args below meth c C hE H ls locs hR hL hS)
theorem qp_ifnonnullN {off : Int} (hd : decode M.2.1 pc = .ok (.ifnonnull off, 3)) (k : QP G M E Z (pc + 3) L st h cn sn) : QP G M E Z pc L (.null :: st) h cn sn :=
  fun p e s m args below meth c C hE H ls locs hR hL hS => lv_ifnonnullN C.1 C.2.1 hd (k p e s m args below meth c C hE H ls locs hR hL hS)
theorem qp_tableOut {dflt lo hi : Int} {offs : Array Int} {len : Nat} {x : Int32} (tgt : Nat) (hd : decode M.2.1 pc = .ok (.tableswitch dflt lo hi offs, len)) (hx : x.toInt < lo ∨ hi < x.toInt) (ht : (pc : Int) + dflt = (tgt : Int)) (k : QP G M E Z tgt L st h cn sn) : QP G M E Z pc L (.int x :: st) h cn sn :=
  fun p e s m args below meth c C hE H ls locs hR hL hS => lv_tableOut C.1 C.2.1 hd hx ht (k p e s m args below meth c C hE H ls locs hR hL hS)
theorem qp_tableIn {dflt lo hi : Int} {offs : Array Int} {len : Nat} {x : Int32} {off : Int} (tgt : Nat) (hd : decode M.2.1 pc = .ok (.tableswitch dflt lo hi offs, len)) (h1 : ¬ x.toInt < lo) (h2 : ¬ hi < x.toInt) (ho : offs[(x.toInt - lo).toNat]? = some off) (ht : (pc : Int) + off = (tgt : Int)) (k : QP G M E Z tgt L st h cn sn) : QP G M E Z pc L (.int x :: st) h cn sn :=
  fun p e s m args below meth c C hE H ls locs hR hL hS => lv_tableIn C.1 C.2.1 hd h1 h2 ho ht (k p e s m args below meth c C hE H ls locs hR hL hS)
theorem qp_ldc2 {index : Nat} {v : Int64} (hd : decode M.2.1 pc = .ok (.ldc2_w index, 3)) (hw : Cond.constantLong M.1.cls index v ∈ qT) (k : QP G M E Z (pc + 3) L (.long v :: st) h cn sn) : QP G M E Z pc L st h cn sn :=
  fun p e s m args below meth c C hE H ls locs hR hL hS => lv_ldc2 C.1 C.2.1 C.2.2.2.2.2.1 (C.2.2.2.2.2.2.1 _ hw) hd (k p e s m args below meth c C hE H ls locs hR hL hS)

end QPS
