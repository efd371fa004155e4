def qfty (ci : Nat) : Nat → FieldType := match ci with
  | 0 => tyJx00060
  | 1 => tyX0
  | 2 => tyX1
  | 3 => tyX2
  | 4 => tyX3
  | _ => tyX4
/-- a class of the table: its words, its fields' types and names -/
def qCls (ci : Nat) (r : vw_C) : Prop := vwCl[ci]? = some r ∧ (∀ w ∈ u_ws r.1 r.2.1 r.2.2, w ∈ qT) ∧ (∀ k, k < r.2.2 → parseFieldDescriptor (r.2.1 k).2.2.1 = some (qfty ci k)) ∧ (∀ a, a < r.2.2 → ∀ b, b < r.2.2 → a ≠ b → (r.2.1 a).2.1 ≠ (r.2.1 b).2.1)
def qFin (ci kf : Nat) : Bool := match vwCl[ci]? with
  | some r => (r.2.1 kf).2.2.2
  | none => true
def qDecl (ci kf : Nat) : String := match vwCl[ci]? with
  | some r => (r.2.1 kf).1
  | none => ""
/-- the entry 'index' of own's pool is the field kf of the class ci -/
def qFld (own : String) (index ci kf : Nat) : Prop := ∃ r, qCls ci r ∧ kf < r.2.2 ∧ (Cond.fieldLink own index (r.2.1 kf).1 (r.2.1 kf).2.1 (r.2.1 kf).2.2.1 ∈ qT ∨ ∃ host, Cond.fieldLinkNest own index (r.2.1 kf).1 (r.2.1 kf).2.1 (r.2.1 kf).2.2.1 host ∈ qN)
def qNw (own : String) (index ci N : Nat) : Prop := ∃ r, qCls ci r ∧ r.2.2 = N ∧ Cond.classLink own index r.1 ∈ qT ∧ Cond.instantiable r.1 r.2.2 ∈ qT ∧ Cond.initialized r.1 ∈ qT
def qNewFs (ci N : Nat) : List Value := (List.range N).map (fun j => defaultValue (qfty ci j))
/-- what the tables say of a method that is called -/
def qLk (M' : qM) (n : Nat) : Prop := Cond.code M'.1 M'.2.1 M'.2.2.1 M'.2.2.2.1 ∈ qT ∧ Cond.initialized M'.1.cls ∈ qT ∧ (M'.1.cls ≠ "java/lang/invoke/MethodHandle" ∧ M'.1.cls ≠ "java/lang/invoke/VarHandle") ∧ (parseMethodDescriptor M'.1.desc).map (fun d => d.parameters.length) = some n
def qLnk (own : String) (index : Nat) (y : MethodName) : Prop := Cond.methodLink own index y ∈ qT ∨ ∃ host, Cond.methodLinkNest own index y host ∈ qN
def qLkV (own : String) (index : Nat) (M' : qM) (n : Nat) : Prop := qLk M' n ∧ Cond.instanceMethod M'.1 ∈ qT ∧ Cond.selects M'.1.cls M'.1 M'.1 ∈ qT ∧ qLnk own index M'.1
def qLkS (own : String) (index : Nat) (M' : qM) (n : Nat) : Prop := qLk M' n ∧ Cond.static M'.1 ∈ qT ∧ qLnk own index M'.1
def qLkI (own : String) (index : Nat) (M' : qM) (n : Nat) : Prop := qLk M' n ∧ M'.1.name = "<init>" ∧ M'.2.2.2.1 = none ∧ Cond.instanceMethod M'.1 ∈ qT ∧ qLnk own index M'.1
def qRm (M M' : qM) : Prop := M'.2.2.2.2.frames + 1 ≤ M.2.2.2.2.frames ∧ 8 + (M'.2.2.1 + 11) + M'.2.2.2.2.locals ≤ M.2.2.2.2.locals
theorem qGood {M' : qM} (h : Cond.code M'.1 M'.2.1 M'.2.2.1 M'.2.2.2.1 ∈ qT) : GoodIn qT (qWs M') := fun w hw => by
  rcases List.mem_cons.mp hw with e | e
  · subst e; exact ⟨h, qT_good h⟩
  · exact ⟨e, qT_good e⟩
section QPH
variable {G : qG} {M : qM} {E : qX} {Z : qZ} {pc : Nat} {L : List (Option Value)} {st : List Value} {h : qH} {cn sn : Nat}
theorem qp_getf {index ci kf a : Nat} {fs : List Value} {v : Value} (hd : decode M.2.1 pc = .ok (.getfield index, 3)) (hf : qFld M.1.cls index ci kf) (hh : h a = some (.inr (ci, fs))) (hv : fs[kf]? = some v) (k : QP G M E Z (pc + 3) L (v :: st) h cn sn) : QP G M E Z pc L (.ref a :: st) h cn sn := by
  intro p e s m args below meth c C hE H ls locs hR hL hS
  have kk := k p e s m args below meth c C hE H ls locs hR hL hS
  obtain ⟨hx, hb, hml, hr, hlk, hown, hts, hK, hnm, hN⟩ := C
  obtain ⟨r, ⟨hrr, hin, -, -⟩, hk, hlink⟩ := hf
  obtain ⟨r', h1, cell, q1, q2, q3, q4⟩ := hR a _ hh
  have e1 : r' = r := Option.some.inj (h1.symm.trans hrr)
  subst e1
  obtain ⟨hSl, hfc, kC, hkC, hkind⟩ := hK.1.1 ci _ hrr
  obtain ⟨cf, kf', fi, f, hi, hsl⟩ := hSl kf hk
  have hst := (u_facts hfc hkC (u_lays hts hin hk) hi).1
  have hval : cell.slots[f.slot]? = some v := by
    rw [hsl, q4 kf hk]
    simp [vp_V, hv]
  rcases hlink with hlink | ⟨host, hlink⟩
  · exact W.getf hx hb hown (hts _ hlink) hi hst q1 (by rw [q3]; exact fun h => by cases h) hval rfl rfl hd kk
  · exact va_Wgetf hx hb hown (va_Nw.use rfl (hK.2.2 _ hlink)) hi hst q1 (by rw [q3]; exact fun h => by cases h) hval rfl rfl hd kk
theorem qp_put {index ci kf a : Nat} {fs : List Value} {v : Value} {ty : FieldType} (hd : decode M.2.1 pc = .ok (.putfield index, 3)) (hf : qFld M.1.cls index ci kf) (hh : h a = some (.inr (ci, fs))) (ha : G.2.1 ≤ a) (hfin : qFin ci kf = false) (hl : Nat.ble (kf + 1) fs.length = true) (hty : qfty ci kf = ty) (hn : narrow ty v = v) (hfit : fits ty v = true)
    (k : QP G M E Z (pc + 3) L st (qUp h a (.inr (ci, fs.set kf v))) cn sn) : QP G M E Z pc L (v :: .ref a :: st) h cn sn := by
  intro p e s m args below meth c C hE H ls locs hR hL hS
  have kk := fun (H1 : Heap) (locs1 : List Loc) => k p e s m args below meth c C hE H1 ls locs1
  obtain ⟨hx, hb, hml, hr, hlk, hown, hts, hK, hnm, hN⟩ := C
  obtain ⟨r, ⟨hrr, hin, hty0, hnm0⟩, hk, hlink⟩ := hf
  obtain ⟨r', h1, cell, q1, q2, q3, q4⟩ := hR a _ hh
  have e1 : r' = r := Option.some.inj (h1.symm.trans hrr)
  subst e1
  have hfin' : (r'.2.1 kf).2.2.2 = false := by
    unfold qFin at hfin
    rw [hrr] at hfin
    exact hfin
  have hap := va_apart (own := r'.1) (cl := vwCl) hts hin (qfty ci) hty0 hnm0 hK.1 hrr
  obtain ⟨hSl, hfc, kC, hkC, hkind⟩ := hK.1.1 ci _ hrr
  obtain ⟨cf, kf', fi, f, hi, hsl⟩ := hSl kf hk
  have hlay := hts _ (hin _ (u_in_lay hk))
  unfold u_lay at hlay
  rw [if_neg (by rw [hfin']; decide)] at hlay
  have hst := (u_facts hfc hkC (u_lays hts hin hk) hi).1
  have h6 := u_store hfc hkC hkind hlay hi (by rw [hty0 kf hk, hty]) hn hfit
  have hl' : kf < fs.length := Nat.le_of_ble_eq_true hl
  have fin : ∀ H' : Heap, H'[a]? = some (cell.setSlot f.slot v) → H'.size = H.size → (∀ q, q ≠ a → H'[q]? = H[q]?) → W p G.1 e M.2.2.2.2 s m args below meth c H' (locs ++ [⟨a, f.slot⟩]) cn sn (Z below args s) (F0 m (pc + 3) ls st) := by
    intro H' e1 e2 e3
    rw [hsl] at e1 ⊢
    refine kk H' _ (hR.up (e := .inr (ci, fs.set kf v)) ⟨_, hrr, t_OB.to (V := updV (vp_V fs) kf v) ⟨_, e1, q2, q3, t_set q4 hap hk v⟩ (fun j _ => vp_updV_set hl' v j)⟩ e3) hL (hS.put e2 e3 ha)
  rcases hlink with hlink | ⟨host, hlink⟩
  · exact W.putK hx hb (f := f) ⟨hown, hts _ hlink, ⟨_, _, _, hi⟩, hst⟩ (by rw [q2]; exact h6) q1 q3 (by rw [hsl]; exact k2_hasslot (q4 kf hk)) rfl rfl hd fin
  · exact va_WputK hx hb (f := f) hown (va_Nw.use rfl (hK.2.2 _ hlink)) hi hst (by rw [q2]; exact h6) q1 q3 (by rw [hsl]; exact k2_hasslot (q4 kf hk)) rfl rfl hd fin
theorem qp_putF {index ci kf a : Nat} {fs : List Value} {v : Value} {ty : FieldType} (hd : decode M.2.1 pc = .ok (.putfield index, 3)) (hf : ∃ r, qCls ci r ∧ kf < r.2.2 ∧ Cond.fieldLink M.1.cls index (r.2.1 kf).1 (r.2.1 kf).2.1 (r.2.1 kf).2.2.1 ∈ qT) (hh : h a = some (.inr (ci, fs))) (ha : G.2.1 ≤ a) (hfin : qFin ci kf = true) (hdc : qDecl ci kf = M.1.cls) (hini : M.1.name = "<init>") (hl : Nat.ble (kf + 1) fs.length = true) (hty : qfty ci kf = ty) (hn : narrow ty v = v) (hfit : fits ty v = true)
    (k : QP G M E Z (pc + 3) L st (qUp h a (.inr (ci, fs.set kf v))) cn sn) : QP G M E Z pc L (v :: .ref a :: st) h cn sn := by
  intro p e s m args below meth c C hE H ls locs hR hL hS
  have kk := fun (H1 : Heap) (locs1 : List Loc) => k p e s m args below meth c C hE H1 ls locs1
  obtain ⟨hx, hb, hml, hr, hlk, hown, hts, hK, hnm, hN⟩ := C
  obtain ⟨r, ⟨hrr, hin, hty0, hnm0⟩, hk, hlink⟩ := hf
  obtain ⟨r', h1, cell, q1, q2, q3, q4⟩ := hR a _ hh
  have e1 : r' = r := Option.some.inj (h1.symm.trans hrr)
  subst e1
  have hfin' : (r'.2.1 kf).2.2.2 = true := by
    unfold qFin at hfin
    rw [hrr] at hfin
    exact hfin
  have hdecl : (r'.2.1 kf).1 = M.1.cls := by
    unfold qDecl at hdc
    rw [hrr] at hdc
    exact hdc
  have hap := va_apart (own := r'.1) (cl := vwCl) hts hin (qfty ci) hty0 hnm0 hK.1 hrr
  obtain ⟨hSl, hfc, kC, hkC, hkind⟩ := hK.1.1 ci _ hrr
  obtain ⟨cf, kf', fi, f, hi, hsl⟩ := hSl kf hk
  have hlay := hts _ (hin _ (u_in_lay hk))
  unfold u_lay at hlay
  rw [if_pos hfin'] at hlay
  have hst := (u_facts hfc hkC (u_lays hts hin hk) hi).1
  have hcf : m.cls = cf := by
    obtain ⟨_, _, c', _, _, _, -, -, hf', -, -, -, hown2, -⟩ := Cond.laysFinal_spec hlay
    have e1 : c' = cf := by have := hi.symm.trans hf'; simp at this; exact this.1.symm
    rw [hdecl] at hown2
    rw [← e1]; exact Option.some.inj (hown.symm.trans hown2)
  have h6 := u_fits hfc hkC hkind (Or.inr hlay) hi (by rw [hty0 kf hk, hty]) hn hfit
  have hl' : kf < fs.length := Nat.le_of_ble_eq_true hl
  refine W.putFinK hx hb hown (hts _ hlink) hi hst hcf (hnm.trans hini) (by rw [q2]; exact h6) q1 q3 (by rw [hsl]; exact k2_hasslot (q4 kf hk)) rfl rfl hd fun H' e1 e2 e3 => ?_
  rw [hsl] at e1 ⊢
  exact kk H' _ (hR.up (e := .inr (ci, fs.set kf v)) ⟨_, hrr, t_OB.to (V := updV (vp_V fs) kf v) ⟨_, e1, q2, q3, t_set q4 hap hk v⟩ (fun j _ => vp_updV_set hl' v j)⟩ e3) hL (hS.put e2 e3 ha)
theorem qp_new {index ci N : Nat} {fs : List Value} (hd : decode M.2.1 pc = .ok (.new index, 3)) (hc : qNw M.1.cls index ci N) (hfs : qNewFs ci N = fs) (hcells : cn + 1 ≤ M.2.2.2.2.cells) (hslots : sn + N ≤ M.2.2.2.2.slots)
    (k : ∀ a : Nat, G.2.1 ≤ a → h a = none → QP G M E Z (pc + 3) L (.ref a :: st) (qUp h a (.inr (ci, fs))) (cn + 1) (sn + N)) : QP G M E Z pc L st h cn sn := by
  intro p e s m args below meth c C hE H ls locs hR hL hS
  have kk := fun (H1 : Heap) => k H.size (Nat.le_trans C.2.2.2.2.2.2.2.2.2 hS.1) hR.fresh p e s m args below meth c C hE H1 ls locs
  obtain ⟨hx, hb, hml, hr, hlk, hown, hts, hK, hnm, hN⟩ := C
  obtain ⟨r, ⟨hrr, hin, hty0, hnm0⟩, rfl, hcl, hins, hini⟩ := hc
  have hKn := hK.1.1 ci _ hrr
  refine W.newcK hx hb hown (hts _ hcl) (hts _ hins) (hts _ hini) rfl hd hcells hslots hKn.2.1 rfl fun H1 kC hkC e1 z1 o1 => ?_
  refine kk H1 (hR.push (e := .inr (ci, fs)) ?_ o1) hL ⟨Nat.le_trans hS.1 (by omega), fun x h1 h2 => (o1 x (Nat.lt_of_lt_of_le h1 hS.1)).trans (hS.2.1 x h1 h2), hS.2.2⟩
  exact ⟨_, hrr, (u_born (qfty ci) hts hin hKn hkC e1 hty0).to (fun j hj => by
    rw [← hfs]
    simp [vp_V, qNewFs, hj])⟩

theorem qp_newaI {n : Int32} {N : Nat} (hd : decode M.2.1 pc = .ok (.newarray .int, 2)) (hw : Cond.arrayClass .int ∈ qT) (hn : ¬ n < 0) (hN : n.toNatClampNeg = N) (hbytes : N * componentBytes .int ≤ 536870912) (hcells : cn + 1 ≤ M.2.2.2.2.cells) (hslots : sn + N ≤ M.2.2.2.2.slots)
    (k : ∀ a : Nat, G.2.1 ≤ a → h a = none → QP G M E Z (pc + 2) L (.ref a :: st) (qUp h a (.inl (0, N, .inl (fun _ => 0)))) (cn + 1) (sn + N)) : QP G M E Z pc L (.int n :: st) h cn sn := by
  intro p e s m args below meth c C hE H ls locs hR hL hS
  have kk := fun (H1 : Heap) => k H.size (Nat.le_trans C.2.2.2.2.2.2.2.2.2 hS.1) hR.fresh p e s m args below meth c C hE H1 ls locs
  obtain ⟨hx, hb, hml, hr, hlk, hown, hts, hK, hnm, hN0⟩ := C
  refine va_newaK hx hb (atype := .int) (hts _ hw) rfl hd rfl hn hN hbytes hcells hslots rfl fun H1 cA e1 z1 o1 hAr hNm => ?_
  have hcA : cA = G.2.2.2 0 := Option.some.inj (hNm.symm.trans (hK.2.1 0).2)
  subst hcA
  exact kk H1 (hR.push (e := .inl (0, N, .inl (fun _ => 0))) e1 o1) hL ⟨Nat.le_trans hS.1 (by omega), fun x h1 h2 => (o1 x (Nat.lt_of_lt_of_le h1 hS.1)).trans (hS.2.1 x h1 h2), hS.2.2⟩
theorem qp_newaB {n : Int32} {N : Nat} (hd : decode M.2.1 pc = .ok (.newarray .byte, 2)) (hw : Cond.arrayClass .byte ∈ qT) (hn : ¬ n < 0) (hN : n.toNatClampNeg = N) (hbytes : N * componentBytes .byte ≤ 536870912) (hcells : cn + 1 ≤ M.2.2.2.2.cells) (hslots : sn + N ≤ M.2.2.2.2.slots)
    (k : ∀ a : Nat, G.2.1 ≤ a → h a = none → QP G M E Z (pc + 2) L (.ref a :: st) (qUp h a (.inl (1, N, .inl (fun _ => 0)))) (cn + 1) (sn + N)) : QP G M E Z pc L (.int n :: st) h cn sn := by
  intro p e s m args below meth c C hE H ls locs hR hL hS
  have kk := fun (H1 : Heap) => k H.size (Nat.le_trans C.2.2.2.2.2.2.2.2.2 hS.1) hR.fresh p e s m args below meth c C hE H1 ls locs
  obtain ⟨hx, hb, hml, hr, hlk, hown, hts, hK, hnm, hN0⟩ := C
  refine va_newaK hx hb (atype := .byte) (hts _ hw) rfl hd rfl hn hN hbytes hcells hslots rfl fun H1 cA e1 z1 o1 hAr hNm => ?_
  have hcA : cA = G.2.2.2 1 := Option.some.inj (hNm.symm.trans (hK.2.1 1).2)
  subst hcA
  exact kk H1 (hR.push (e := .inl (1, N, .inl (fun _ => 0))) e1 o1) hL ⟨Nat.le_trans hS.1 (by omega), fun x h1 h2 => (o1 x (Nat.lt_of_lt_of_le h1 hS.1)).trans (hS.2.1 x h1 h2), hS.2.2⟩
theorem qp_newaL {n : Int32} {N : Nat} (hd : decode M.2.1 pc = .ok (.newarray .long, 2)) (hw : Cond.arrayClass .long ∈ qT) (hn : ¬ n < 0) (hN : n.toNatClampNeg = N) (hbytes : N * componentBytes .long ≤ 536870912) (hcells : cn + 1 ≤ M.2.2.2.2.cells) (hslots : sn + N ≤ M.2.2.2.2.slots)
    (k : ∀ a : Nat, G.2.1 ≤ a → h a = none → QP G M E Z (pc + 2) L (.ref a :: st) (qUp h a (.inl (2, N, .inr (.inl (fun _ => 0))))) (cn + 1) (sn + N)) : QP G M E Z pc L (.int n :: st) h cn sn := by
  intro p e s m args below meth c C hE H ls locs hR hL hS
  have kk := fun (H1 : Heap) => k H.size (Nat.le_trans C.2.2.2.2.2.2.2.2.2 hS.1) hR.fresh p e s m args below meth c C hE H1 ls locs
  obtain ⟨hx, hb, hml, hr, hlk, hown, hts, hK, hnm, hN0⟩ := C
  refine va_newaK hx hb (atype := .long) (hts _ hw) rfl hd rfl hn hN hbytes hcells hslots rfl fun H1 cA e1 z1 o1 hAr hNm => ?_
  have hcA : cA = G.2.2.2 2 := Option.some.inj (hNm.symm.trans (hK.2.1 2).2)
  subst hcA
  exact kk H1 (hR.push (e := .inl (2, N, .inr (.inl (fun _ => 0)))) e1 o1) hL ⟨Nat.le_trans hS.1 (by omega), fun x h1 h2 => (o1 x (Nat.lt_of_lt_of_le h1 hS.1)).trans (hS.2.1 x h1 h2), hS.2.2⟩
theorem qp_newq {index : Nat} {n : Int32} {N : Nat} (hd : decode M.2.1 pc = .ok (.anewarray index, 3)) (hw : Cond.classLink M.1.cls index RX0 ∈ qT) (ho : Cond.arrayOver (.object RX0) ∈ qN) (hn : ¬ n < 0) (hN : n.toNatClampNeg = N) (hbytes : N * 4 ≤ 536870912) (hcells : cn + 1 ≤ M.2.2.2.2.cells) (hslots : sn + N ≤ M.2.2.2.2.slots)
    (k : ∀ a : Nat, G.2.1 ≤ a → h a = none → QP G M E Z (pc + 3) L (.ref a :: st) (qUp h a (.inl (3, N, .inr (.inr (.inr (.inr (fun _ => none))))))) (cn + 1) (sn + N)) : QP G M E Z pc L (.int n :: st) h cn sn := by
  intro p e s m args below meth c C hE H ls locs hR hL hS
  have kk := fun (H1 : Heap) => k H.size (Nat.le_trans C.2.2.2.2.2.2.2.2.2 hS.1) hR.fresh p e s m args below meth c C hE H1 ls locs
  obtain ⟨hx, hb, hml, hr, hlk, hown, hts, hK, hnm, hN0⟩ := C
  subst hN
  refine W.anew hx hb hown (hts _ hw) (va_AO.use (hK.2.2 _ ho)) rfl hd rfl hn hbytes hcells hslots fun cA kA comp f1 f2 f3 f4 => ?_
  obtain ⟨_, _, _, _, _, h9⟩ := (hK.2.1 3).2
  have hcA : cA = G.2.2.2 3 := Option.some.inj (f1.symm.trans h9)
  subst hcA
  generalize hH1 : H.push ({ cls := G.2.2.2 3, slots := Array.replicate n.toNatClampNeg .null, vm := .none } : Cell) = H1
  have z1 : H1.size = H.size + 1 := by rw [← hH1, Array.size_push]
  have e1 : H1[H.size]? = some (arrV (G.2.2.2 3) n.toNatClampNeg (fun _ => .null)) := by rw [← hH1, Array.getElem?_push_size, ← arrV_new]
  have o1 : ∀ q : Nat, q < H.size → H1[q]? = H[q]? := fun q hq => by rw [← hH1, Array.getElem?_push, if_neg (Nat.ne_of_lt hq)]
  exact kk H1 (hR.push (e := .inl (3, n.toNatClampNeg, .inr (.inr (.inr (.inr (fun _ => none)))))) e1 o1) hL ⟨Nat.le_trans hS.1 (by omega), fun x h1 h2 => (o1 x (Nat.lt_of_lt_of_le h1 hS.1)).trans (hS.2.1 x h1 h2), hS.2.2⟩
theorem qin {i : Int32} {n : Nat} (h : vp_in i n) : i.toNatClampNeg < n := Nat.not_le.mp fun q => h (Or.inr q)
theorem qp_iald {a n : Nat} {f : Nat → Int32} {i : Int32} (hd : decode M.2.1 pc = .ok (.iaload, 1)) (hh : h a = some (.inl (0, n, .inl f))) (hin : vp_in i n) (k : QP G M E Z (pc + 1) L (.int (f i.toNatClampNeg) :: st) h cn sn) : QP G M E Z pc L (.int i :: .ref a :: st) h cn sn := by
  intro p e s m args below meth c C hE H ls locs hR hL hS
  have kk := k p e s m args below meth c C hE H ls locs hR hL hS
  obtain ⟨hx, hb, hml, hr, hlk, hown, hts, hK, hnm, hN⟩ := C
  have hcl : H[a]? = some (vp_cell (G.2.2.2 0) (n, .inl f)) := hR a _ hh
  exact W.iald (v := .int (f i.toNatClampNeg)) hx hb hcl ((hK.2.1 0).1 n (fun j => .int (f j))) (fun q => by cases q) (by show ¬ (i < 0 ∨ (arrV _ _ _).slots.size ≤ _); rw [arrV_size]; exact hin) (by show (arrV _ _ _).slots[_]? = _; rw [arrV_read _ _ (qin hin)]) rfl rfl hd kk
theorem qp_ialdN {a n : Nat} {f : Nat → Int32} {i : Int32} (j : Nat) (hd : decode M.2.1 pc = .ok (.iaload, 1)) (hh : h a = some (.inl (0, n, .inl f))) (hi : i = nI j) (hj : j < n) (hn : n < 2147483648) (k : QP G M E Z (pc + 1) L (.int (f j) :: st) h cn sn) : QP G M E Z pc L (.int i :: .ref a :: st) h cn sn := by
  subst hi
  refine qp_iald hd hh (vp_in_nI hj hn) ?_
  rw [nI_clamp (by omega)]
  exact k
theorem qp_bald {a n : Nat} {f : Nat → Int32} {i : Int32} (hd : decode M.2.1 pc = .ok (.baload, 1)) (hh : h a = some (.inl (1, n, .inl f))) (hin : vp_in i n) (k : QP G M E Z (pc + 1) L (.int (f i.toNatClampNeg) :: st) h cn sn) : QP G M E Z pc L (.int i :: .ref a :: st) h cn sn := by
  intro p e s m args below meth c C hE H ls locs hR hL hS
  have kk := k p e s m args below meth c C hE H ls locs hR hL hS
  obtain ⟨hx, hb, hml, hr, hlk, hown, hts, hK, hnm, hN⟩ := C
  have hcl : H[a]? = some (vp_cell (G.2.2.2 1) (n, .inl f)) := hR a _ hh
  exact W.bald (v := .int (f i.toNatClampNeg)) hx hb hcl ((hK.2.1 1).1 n (fun j => .int (f j))) (fun q => by cases q) (by show ¬ (i < 0 ∨ (arrV _ _ _).slots.size ≤ _); rw [arrV_size]; exact hin) (by show (arrV _ _ _).slots[_]? = _; rw [arrV_read _ _ (qin hin)]) rfl rfl hd kk
theorem qp_baldN {a n : Nat} {f : Nat → Int32} {i : Int32} (j : Nat) (hd : decode M.2.1 pc = .ok (.baload, 1)) (hh : h a = some (.inl (1, n, .inl f))) (hi : i = nI j) (hj : j < n) (hn : n < 2147483648) (k : QP G M E Z (pc + 1) L (.int (f j) :: st) h cn sn) : QP G M E Z pc L (.int i :: .ref a :: st) h cn sn := by
  subst hi
  refine qp_bald hd hh (vp_in_nI hj hn) ?_
  rw [nI_clamp (by omega)]
  exact k
theorem qp_lald {a n : Nat} {f : Nat → Int64} {i : Int32} (hd : decode M.2.1 pc = .ok (.laload, 1)) (hh : h a = some (.inl (2, n, .inr (.inl f)))) (hin : vp_in i n) (k : QP G M E Z (pc + 1) L (.long (f i.toNatClampNeg) :: st) h cn sn) : QP G M E Z pc L (.int i :: .ref a :: st) h cn sn := by
  intro p e s m args below meth c C hE H ls locs hR hL hS
  have kk := k p e s m args below meth c C hE H ls locs hR hL hS
  obtain ⟨hx, hb, hml, hr, hlk, hown, hts, hK, hnm, hN⟩ := C
  have hcl : H[a]? = some (vp_cell (G.2.2.2 2) (n, .inr (.inl f))) := hR a _ hh
  exact W.lald (v := .long (f i.toNatClampNeg)) hx hb hcl ((hK.2.1 2).1 n (fun j => .long (f j))) (fun q => by cases q) (by show ¬ (i < 0 ∨ (arrV _ _ _).slots.size ≤ _); rw [arrV_size]; exact hin) (by show (arrV _ _ _).slots[_]? = _; rw [arrV_read _ _ (qin hin)]) rfl rfl hd kk
theorem qp_laldN {a n : Nat} {f : Nat → Int64} {i : Int32} (j : Nat) (hd : decode M.2.1 pc = .ok (.laload, 1)) (hh : h a = some (.inl (2, n, .inr (.inl f)))) (hi : i = nI j) (hj : j < n) (hn : n < 2147483648) (k : QP G M E Z (pc + 1) L (.long (f j) :: st) h cn sn) : QP G M E Z pc L (.int i :: .ref a :: st) h cn sn := by
  subst hi
  refine qp_lald hd hh (vp_in_nI hj hn) ?_
  rw [nI_clamp (by omega)]
  exact k
theorem qp_aald {a n : Nat} {f : Nat → Option Nat} {i : Int32} (hd : decode M.2.1 pc = .ok (.aaload, 1)) (hh : h a = some (.inl (3, n, .inr (.inr (.inr (.inr f)))))) (hin : vp_in i n) (k : QP G M E Z (pc + 1) L (va_rf (f i.toNatClampNeg) :: st) h cn sn) : QP G M E Z pc L (.int i :: .ref a :: st) h cn sn := by
  intro p e s m args below meth c C hE H ls locs hR hL hS
  have kk := k p e s m args below meth c C hE H ls locs hR hL hS
  obtain ⟨hx, hb, hml, hr, hlk, hown, hts, hK, hnm, hN⟩ := C
  have hcl : H[a]? = some (vp_cell (G.2.2.2 3) (n, .inr (.inr (.inr (.inr f))))) := hR a _ hh
  exact W.aald (v := va_rf (f i.toNatClampNeg)) (ty := .object RX0) hx hb hcl ((hK.2.1 3).1 n (fun j => va_rf (f j))) rfl (fun q => by cases q) (by show ¬ (i < 0 ∨ (arrV _ _ _).slots.size ≤ _); rw [arrV_size]; exact hin) (by show (arrV _ _ _).slots[_]? = _; rw [arrV_read _ _ (qin hin)]) rfl rfl hd kk
theorem qp_aaldN {a n : Nat} {f : Nat → Option Nat} {i : Int32} (j : Nat) (hd : decode M.2.1 pc = .ok (.aaload, 1)) (hh : h a = some (.inl (3, n, .inr (.inr (.inr (.inr f)))))) (hi : i = nI j) (hj : j < n) (hn : n < 2147483648) (k : QP G M E Z (pc + 1) L (va_rf (f j) :: st) h cn sn) : QP G M E Z pc L (.int i :: .ref a :: st) h cn sn := by
  subst hi
  refine qp_aald hd hh (vp_in_nI hj hn) ?_
  rw [nI_clamp (by omega)]
  exact k
theorem qp_iast {a n : Nat} {f : Nat → Int32} {i : Int32} {x : Int32} (hd : decode M.2.1 pc = .ok (.iastore, 1)) (hh : h a = some (.inl (0, n, .inl f))) (ha : G.2.1 ≤ a) (hin : vp_in i n) (k : QP G M E Z (pc + 1) L st (qUp h a (.inl (0, n, .inl (upd f i.toNatClampNeg x)))) cn sn) : QP G M E Z pc L (.int x :: .int i :: .ref a :: st) h cn sn := by
  intro p e s m args below meth c C hE H ls locs hR hL hS
  have kk := fun (H1 : Heap) (locs1 : List Loc) => k p e s m args below meth c C hE H1 ls locs1
  obtain ⟨hx, hb, hml, hr, hlk, hown, hts, hK, hnm, hN⟩ := C
  have hcl : H[a]? = some (vp_cell (G.2.2.2 0) (n, .inl f)) := hR a _ hh
  refine W.iast hx hb hcl ((hK.2.1 0).1 n (fun j => .int (f j))) (fun q => by cases q) (by show ¬ (i < 0 ∨ (arrV _ _ _).slots.size ≤ _); rw [arrV_size]; exact hin) rfl rfl hd fun H1 e1 z oq => ?_
  refine kk H1 _ (hR.up (e := .inl (0, n, .inl (upd f i.toNatClampNeg x))) ?_ oq) hL (hS.put z oq ha)
  show H1[a]? = some (vp_cell _ _)
  rw [e1]
  rw [vp_cell_i, vp_cell_i, arrV_store]
  congr 2
  funext q
  by_cases hq : q = i.toNatClampNeg
  · subst hq
    simp [updV, upd]
  · simp [updV, upd, hq]
theorem qp_iastN {a n : Nat} {f : Nat → Int32} {i : Int32} {x : Int32} (j : Nat) (hd : decode M.2.1 pc = .ok (.iastore, 1)) (hh : h a = some (.inl (0, n, .inl f))) (ha : G.2.1 ≤ a) (hi : i = nI j) (hj : j < n) (hn : n < 2147483648) (k : QP G M E Z (pc + 1) L st (qUp h a (.inl (0, n, .inl (upd f j x)))) cn sn) : QP G M E Z pc L (.int x :: .int i :: .ref a :: st) h cn sn := by
  subst hi
  refine qp_iast hd hh ha (vp_in_nI hj hn) ?_
  rw [nI_clamp (by omega)]
  exact k
theorem qp_bast {a n : Nat} {f : Nat → Int32} {i : Int32} {x : Int32} (hd : decode M.2.1 pc = .ok (.bastore, 1)) (hh : h a = some (.inl (1, n, .inl f))) (ha : G.2.1 ≤ a) (hin : vp_in i n) (k : QP G M E Z (pc + 1) L st (qUp h a (.inl (1, n, .inl (upd f i.toNatClampNeg (vp_nar .byte x))))) cn sn) : QP G M E Z pc L (.int x :: .int i :: .ref a :: st) h cn sn := by
  intro p e s m args below meth c C hE H ls locs hR hL hS
  have kk := fun (H1 : Heap) (locs1 : List Loc) => k p e s m args below meth c C hE H1 ls locs1
  obtain ⟨hx, hb, hml, hr, hlk, hown, hts, hK, hnm, hN⟩ := C
  have hcl : H[a]? = some (vp_cell (G.2.2.2 1) (n, .inl f)) := hR a _ hh
  refine W.bast hx hb hcl ((hK.2.1 1).1 n (fun j => .int (f j))) (fun q => by cases q) (by show ¬ (i < 0 ∨ (arrV _ _ _).slots.size ≤ _); rw [arrV_size]; exact hin) rfl rfl hd fun H1 e1 z oq => ?_
  refine kk H1 _ (hR.up (e := .inl (1, n, .inl (upd f i.toNatClampNeg (vp_nar .byte x)))) ?_ oq) hL (hS.put z oq ha)
  show H1[a]? = some (vp_cell _ _)
  rw [e1]
  rw [vp_cell_i, vp_cell_i, arrV_store]
  congr 2
  funext q
  by_cases hq : q = i.toNatClampNeg
  · subst hq
    simp [updV, upd, vp_nar, narrow]
  · simp [updV, upd, hq]
theorem qp_bastN {a n : Nat} {f : Nat → Int32} {i : Int32} {x : Int32} (j : Nat) (hd : decode M.2.1 pc = .ok (.bastore, 1)) (hh : h a = some (.inl (1, n, .inl f))) (ha : G.2.1 ≤ a) (hi : i = nI j) (hj : j < n) (hn : n < 2147483648) (k : QP G M E Z (pc + 1) L st (qUp h a (.inl (1, n, .inl (upd f j (vp_nar .byte x))))) cn sn) : QP G M E Z pc L (.int x :: .int i :: .ref a :: st) h cn sn := by
  subst hi
  refine qp_bast hd hh ha (vp_in_nI hj hn) ?_
  rw [nI_clamp (by omega)]
  exact k
theorem qp_last {a n : Nat} {f : Nat → Int64} {i : Int32} {x : Int64} (hd : decode M.2.1 pc = .ok (.lastore, 1)) (hh : h a = some (.inl (2, n, .inr (.inl f)))) (ha : G.2.1 ≤ a) (hin : vp_in i n) (k : QP G M E Z (pc + 1) L st (qUp h a (.inl (2, n, .inr (.inl (vp_updL f i.toNatClampNeg x))))) cn sn) : QP G M E Z pc L (.long x :: .int i :: .ref a :: st) h cn sn := by
  intro p e s m args below meth c C hE H ls locs hR hL hS
  have kk := fun (H1 : Heap) (locs1 : List Loc) => k p e s m args below meth c C hE H1 ls locs1
  obtain ⟨hx, hb, hml, hr, hlk, hown, hts, hK, hnm, hN⟩ := C
  have hcl : H[a]? = some (vp_cell (G.2.2.2 2) (n, .inr (.inl f))) := hR a _ hh
  refine W.last hx hb hcl ((hK.2.1 2).1 n (fun j => .long (f j))) (fun q => by cases q) (by show ¬ (i < 0 ∨ (arrV _ _ _).slots.size ≤ _); rw [arrV_size]; exact hin) rfl rfl hd fun H1 e1 z oq => ?_
  refine kk H1 _ (hR.up (e := .inl (2, n, .inr (.inl (vp_updL f i.toNatClampNeg x)))) ?_ oq) hL (hS.put z oq ha)
  show H1[a]? = some (vp_cell _ _)
  rw [e1]
  rw [vp_cell_l, vp_cell_l, arrV_store]
  congr 2
  funext q
  by_cases hq : q = i.toNatClampNeg
  · subst hq
    simp [updV, vp_updL]
  · simp [updV, vp_updL, hq]
theorem qp_lastN {a n : Nat} {f : Nat → Int64} {i : Int32} {x : Int64} (j : Nat) (hd : decode M.2.1 pc = .ok (.lastore, 1)) (hh : h a = some (.inl (2, n, .inr (.inl f)))) (ha : G.2.1 ≤ a) (hi : i = nI j) (hj : j < n) (hn : n < 2147483648) (k : QP G M E Z (pc + 1) L st (qUp h a (.inl (2, n, .inr (.inl (vp_updL f j x))))) cn sn) : QP G M E Z pc L (.long x :: .int i :: .ref a :: st) h cn sn := by
  subst hi
  refine qp_last hd hh ha (vp_in_nI hj hn) ?_
  rw [nI_clamp (by omega)]
  exact k
theorem qp_aast {a n v : Nat} {fs : List Value} {f : Nat → Option Nat} {i : Int32} (hd : decode M.2.1 pc = .ok (.aastore, 1)) (hh : h a = some (.inl (3, n, .inr (.inr (.inr (.inr f)))))) (hv : h v = some (.inr (1, fs))) (ha : G.2.1 ≤ a) (hin : vp_in i n) (k : QP G M E Z (pc + 1) L st (qUp h a (.inl (3, n, .inr (.inr (.inr (.inr (va_up f i.toNatClampNeg (some v)))))))) cn sn) : QP G M E Z pc L (.ref v :: .int i :: .ref a :: st) h cn sn := by
  intro p e s m args below meth c C hE H ls locs hR hL hS
  have kk := fun (H1 : Heap) (locs1 : List Loc) => k p e s m args below meth c C hE H1 ls locs1
  obtain ⟨hx, hb, hml, hr, hlk, hown, hts, hK, hnm, hN⟩ := C
  have hcl : H[a]? = some (vp_cell (G.2.2.2 3) (n, .inr (.inr (.inr (.inr f))))) := hR a _ hh
  have hlt := qin hin
  have h0 : ¬ i < 0 := fun q => hin (Or.inl q)
  obtain ⟨r', hr', cellV, g1, g2, g3, -⟩ := hR v _ hv
  have hcls := (hK.1.1 1 (RX0, TX0, 13) rfl).2
  obtain ⟨kA, comp, k1, k2, k3, -⟩ := (hK.2.1 3).2
  have hcomp : comp = G.2.2.1.1 1 := Option.some.inj (k3.symm.trans hcls.1)
  subst hcomp
  obtain ⟨kC, hkC, -⟩ := hcls.2
  refine W.aast hx hb hcl (fun q h => by cases h) (fun h => by cases h) k1 k2 rfl hkC ⟨h0, by show _ < (arrV _ _ _).slots.size; rw [arrV_size]; exact hlt⟩ g1 (fun q h => by rw [g3] at h; cases h) (by rw [g2]; exact hkC) (by rw [g2]; exact va_assign hcls) rfl rfl hd fun H1 e1 z oq => ?_
  refine kk H1 _ (hR.up (e := .inl (3, n, .inr (.inr (.inr (.inr (va_up f i.toNatClampNeg (some v))))))) ?_ oq) hL (hS.put z oq ha)
  show H1[a]? = some (vp_cell _ _)
  rw [e1]
  rw [vp_cell_q, vp_cell_q, arrV_store]
  congr 2
  funext q
  by_cases hq : q = i.toNatClampNeg
  · subst hq
    simp [updV, va_up, va_rf]
  · simp [updV, va_up, hq]
theorem qp_aastNull {a n : Nat} {f : Nat → Option Nat} {i : Int32} (hd : decode M.2.1 pc = .ok (.aastore, 1)) (hh : h a = some (.inl (3, n, .inr (.inr (.inr (.inr f)))))) (ha : G.2.1 ≤ a) (hin : vp_in i n) (k : QP G M E Z (pc + 1) L st (qUp h a (.inl (3, n, .inr (.inr (.inr (.inr (va_up f i.toNatClampNeg none))))))) cn sn) : QP G M E Z pc L (.null :: .int i :: .ref a :: st) h cn sn := by
  intro p e s m args below meth c C hE H ls locs hR hL hS
  have kk := fun (H1 : Heap) (locs1 : List Loc) => k p e s m args below meth c C hE H1 ls locs1
  obtain ⟨hx, hb, hml, hr, hlk, hown, hts, hK, hnm, hN⟩ := C
  have hcl : H[a]? = some (vp_cell (G.2.2.2 3) (n, .inr (.inr (.inr (.inr f))))) := hR a _ hh
  refine va_WaastN (C := RX0) hx hb hcl ((hK.2.1 3).1 n (fun j => va_rf (f j))) (fun h => by cases h) (by show ¬ (i < 0 ∨ (arrV _ _ _).slots.size ≤ _); rw [arrV_size]; exact hin) rfl rfl hd fun H1 e1 z oq => ?_
  refine kk H1 _ (hR.up (e := .inl (3, n, .inr (.inr (.inr (.inr (va_up f i.toNatClampNeg none)))))) ?_ oq) hL (hS.put z oq ha)
  show H1[a]? = some (vp_cell _ _)
  rw [e1]
  rw [vp_cell_q, vp_cell_q, arrV_store]
  congr 2
  funext q
  by_cases hq : q = i.toNatClampNeg
  · subst hq
    simp [updV, va_up, va_rf]
  · simp [updV, va_up, hq]
theorem qp_alen {a t : Nat} {x : vp_A} {v : Int32} (hd : decode M.2.1 pc = .ok (.arraylength, 1)) (hh : h a = some (.inl (t, x))) (hv : Int32.ofNat x.1 = v) (k : QP G M E Z (pc + 1) L (.int v :: st) h cn sn) : QP G M E Z pc L (.ref a :: st) h cn sn := by
  intro p e s m args below meth c C hE H ls locs hR hL hS
  have kk := k p e s m args below meth c C hE H ls locs hR hL hS
  obtain ⟨hx, hb, hml, hr, hlk, hown, hts, hK, hnm, hN⟩ := C
  subst hv
  obtain ⟨n, f | f | f | f | f⟩ := x
  · exact W.alen (n := Int32.ofNat n) hx hb (hR a _ hh) ((hK.2.1 t).1 n (fun j => .int (f j))) (by rw [vp_cell_i, arrV_size] <;> rfl) rfl rfl hd kk
  · exact W.alen (n := Int32.ofNat n) hx hb (hR a _ hh) ((hK.2.1 t).1 n (fun j => .long (f j))) (by rw [vp_cell_l, arrV_size] <;> rfl) rfl rfl hd kk
  · exact W.alen (n := Int32.ofNat n) hx hb (hR a _ hh) ((hK.2.1 t).1 n (fun j => .float (f j))) (by rw [vp_cell_f, arrV_size] <;> rfl) rfl rfl hd kk
  · exact W.alen (n := Int32.ofNat n) hx hb (hR a _ hh) ((hK.2.1 t).1 n (fun j => .double (f j))) (by rw [vp_cell_d, arrV_size] <;> rfl) rfl rfl hd kk
  · exact W.alen (n := Int32.ofNat n) hx hb (hR a _ hh) ((hK.2.1 t).1 n (fun j => va_rf (f j))) (by rw [vp_cell_q, arrV_size] <;> rfl) rfl rfl hd kk
theorem qp_objInit {index a : Nat} (hd : decode M.2.1 pc = .ok (.invokespecial index, 3)) (hlk : Cond.methodLink M.1.cls index objectInit ∈ qT) (hin : Cond.instanceMethod objectInit ∈ qT) (hcd : Cond.code objectInit ⟨#[0xb1]⟩ 1 none ∈ qT) (hst : (st.map fun v => v.category).sum + 12 ≤ M.2.2.2.2.locals) (hfr : 1 ≤ M.2.2.2.2.frames) (k : QP G M E Z (pc + 3) L st h cn sn) : QP G M E Z pc L (.ref a :: st) h cn sn := by
  intro p e s m args below meth c C hE H ls locs hR hL hS
  have kk := k p e s m args below meth c C hE H ls locs hR hL hS
  obtain ⟨hx, hb, hml, hr, hlk2, hown, hts, hK, hnm, hN⟩ := C
  exact W.objInit hx hb hown (hts _ hlk) (hts _ hin) (hts _ hcd) rfl (by rw [hml]; exact hL.1) rfl hd hfr (by show 2 * 0 + _ + 12 ≤ _; omega) kk

/-- behind a call -/
theorem qgo {M' : qM} {Q' : Option Value → qH → Prop} {av : Array Value} {st0 : List Value} {p : Program} {e : Env} {s : State} {m : MethodId} {args : Array Value} {below : List Frame} {meth : Method} {c : Code} {H : Heap} {ls : Array Slot} {locs : List Loc} (C : qC G M p s m args meth c) (hE : E args s) (hL : qL ls M.2.2.1 L) (hS : va_S (fun q : Nat => G.2.1 ≤ q) s.heap H locs)
    (hrun : va_Run p G.1 e M.2.2.2.2 s m args below meth c H locs cn sn M'.2.2.2.2.cells M'.2.2.2.2.slots (F0 m pc ls st0) st (qQc G Q' av) (fun q => G.2.1 ≤ q))
    (k : ∀ (r : Option Value) (h' : qH), Q' r h' → QP G M E Z (pc + 3) L (r.toList ++ st) h' (cn + M'.2.2.2.2.cells) (sn + M'.2.2.2.2.slots)) : W p G.1 e M.2.2.2.2 s m args below meth c H locs cn sn (Z below args s) (F0 m pc ls st0) := by
  intro T hT X
  obtain ⟨v, st₀, t, T', Ls, h0, X', hLs, e1, e2, ⟨r, h', hv, hq, hrep, hsz, hkeep⟩, stp⟩ := hrun T hT X
  cases hv
  rw [h0] at hsz hkeep
  obtain ⟨t2, a1, b1⟩ := k v h' hq p e s m args below meth c C hE T'.heap ls (locs ++ Ls) (by rw [e1]; exact hrep) hL ⟨Nat.le_trans hS.1 (by rw [e1]; exact hsz), fun q h1 h2 => by rw [e1, hkeep q (Nat.not_le.mp h2)]; exact hS.2.1 q h1 h2, fun q hq => by
    rcases List.mem_append.mp hq with h | h
    · exact hS.2.2 q h
    · exact hLs q h⟩ T' rfl X'
  exact ⟨t2, stp t2 a1, b1⟩
theorem qpre {s U : State} {H : Heap} {av : List Value} (hR : qRep G h H) (hK : qK G s) (hN : G.2.1 ≤ H.size) (hU : U.heap = H) (hW : s.WarmedH U.vm) : qPc G av h av.toArray U := ⟨rfl, by rw [hU]; exact hR, hK.warm hW, by rw [hU]; exact hN⟩
theorem qp_callV {index ci b n : Nat} {fs As st0 : List Value} {M' : qM} {Q' : Option Value → qH → Prop} (hd : decode M.2.1 pc = .ok (.invokevirtual index, 3)) (hlk : qLkV M.1.cls index M' n) (hrm : qRm M M') (hm : qMet G M' (.ref b :: As) h Q') (hh : h b = some (.inr (ci, fs))) (hcl : (vwCl[ci]?).map (fun r => r.1) = some M'.1.cls) (hst : st0 = As.reverse ++ .ref b :: st) (hn : As.length = n) (hW : (st.map fun v => v.category).sum ≤ 8) (hc : cn + M'.2.2.2.2.cells ≤ M.2.2.2.2.cells) (hs : sn + M'.2.2.2.2.slots ≤ M.2.2.2.2.slots)
    (k : ∀ (r : Option Value) (h' : qH), Q' r h' → QP G M E Z (pc + 3) L (r.toList ++ st) h' (cn + M'.2.2.2.2.cells) (sn + M'.2.2.2.2.slots)) : QP G M E Z pc L st0 h cn sn := by
  intro p e s m args below meth c C hE H ls locs hR hL hS
  obtain ⟨hx, hb, hml, hr, hlks, hown, hts, hK, hnm, hN⟩ := id C
  obtain ⟨⟨k1, k2, k3, k4⟩, k5, k6, k7⟩ := hlk
  have hlen : ∀ sig, parseMethodDescriptor M'.1.desc = some sig → n = sig.parameters.length := fun sig hsg => by
    rw [hsg] at k4
    exact (Option.some.inj k4).symm
  have hrecv : ∃ cellB : Cell, H[b]? = some cellB ∧ cellB.vm.isStatics = false ∧ s.vm.findClass M'.1.cls = some cellB.cls := by
    obtain ⟨r', h1, cell, q1, q2, q3, -⟩ := hR b _ hh
    have h1' : vwCl[ci]? = some r' := h1
    rw [h1'] at hcl
    have e1 : r'.1 = M'.1.cls := Option.some.inj hcl
    exact ⟨cell, q1, by rw [q3]; rfl, by rw [q2, ← e1]; exact (hK.1.1 ci r' h1').2.1⟩
  have hp : PreV s H M'.1.cls b (qPc G (.ref b :: As) h) As := ⟨qPc.blind, hrecv, fun U hU hW => qpre hR hK (Nat.le_trans hN hS.1) hU hW⟩
  have hws := pay_in hts (qGood k1)
  subst hst
  rcases k7 with k7 | ⟨host, k7⟩
  · exact qgo C hE hL hS (va_runV (n := n) (Ts := qT) (own := M.1.cls) ⟨hx, hb, hml, hown, hts⟩ hm ⟨⟨rfl, rfl, hrm.1, hrm.2, hws, List.mem_cons_self, hts _ k1, hts _ k2, k3, hlen, hts _ k7⟩, hts _ k5, hts _ k6⟩ hp rfl hn hL.1 rfl (lv_room hW) hd ⟨hc, hs⟩) k
  · exact qgo C hE hL hS (va_runVN (n := n) (Ts := qT) (own := M.1.cls) (host := host) ⟨hx, hb, hml, hown, hts⟩ hm ⟨⟨⟨rfl, rfl, hrm.1, hrm.2, hws, List.mem_cons_self⟩, hts _ k1, hts _ k2, k3, hlen, va_Nw.use rfl (hK.2.2 _ k7)⟩, hts _ k5, hts _ k6⟩ hp rfl hn hL.1 rfl (lv_room hW) hd ⟨hc, hs⟩) k
theorem qp_callS {index n : Nat} {As st0 : List Value} {M' : qM} {Q' : Option Value → qH → Prop} (hd : decode M.2.1 pc = .ok (.invokestatic index, 3)) (hlk : qLkS M.1.cls index M' n) (hrm : qRm M M') (hm : qMet G M' As h Q') (hst : st0 = As.reverse ++ st) (hn : As.length = n) (hW : (st.map fun v => v.category).sum ≤ 8) (hc : cn + M'.2.2.2.2.cells ≤ M.2.2.2.2.cells) (hs : sn + M'.2.2.2.2.slots ≤ M.2.2.2.2.slots)
    (k : ∀ (r : Option Value) (h' : qH), Q' r h' → QP G M E Z (pc + 3) L (r.toList ++ st) h' (cn + M'.2.2.2.2.cells) (sn + M'.2.2.2.2.slots)) : QP G M E Z pc L st0 h cn sn := by
  intro p e s m args below meth c C hE H ls locs hR hL hS
  obtain ⟨hx, hb, hml, hr, hlks, hown, hts, hK, hnm, hN⟩ := id C
  obtain ⟨⟨k1, k2, k3, k4⟩, k5, k7⟩ := hlk
  have hlen : ∀ sig, parseMethodDescriptor M'.1.desc = some sig → n = sig.parameters.length := fun sig hsg => by
    rw [hsg] at k4
    exact (Option.some.inj k4).symm
  have hp : PreS s H (qPc G As h) As := ⟨qPc.blind, fun U hU hW => qpre hR hK (Nat.le_trans hN hS.1) hU hW⟩
  have hws := pay_in hts (qGood k1)
  subst hst
  rcases k7 with k7 | ⟨host, k7⟩
  · exact qgo C hE hL hS (va_runS (n := n) (Ts := qT) (own := M.1.cls) ⟨hx, hb, hml, hown, hts⟩ hm ⟨⟨rfl, rfl, hrm.1, hrm.2, hws, List.mem_cons_self, hts _ k1, hts _ k2, k3, hlen, hts _ k7⟩, hts _ k5⟩ hp rfl hn hL.1 rfl (lv_room hW) hd ⟨hc, hs⟩) k
  · exact qgo C hE hL hS (va_runSN (n := n) (Ts := qT) (own := M.1.cls) (host := host) ⟨hx, hb, hml, hown, hts⟩ hm ⟨⟨⟨rfl, rfl, hrm.1, hrm.2, hws, List.mem_cons_self⟩, hts _ k1, hts _ k2, k3, hlen, va_Nw.use rfl (hK.2.2 _ k7)⟩, hts _ k5, trivial⟩ hp rfl hn hL.1 rfl (lv_room hW) hd ⟨hc, hs⟩) k
theorem qp_callI {index b n : Nat} {As st0 : List Value} {M' : qM} {Q' : Option Value → qH → Prop} (hd : decode M.2.1 pc = .ok (.invokespecial index, 3)) (hlk : qLkI M.1.cls index M' n) (hrm : qRm M M') (hm : qMet G M' (.ref b :: As) h Q') (hst : st0 = As.reverse ++ .ref b :: st) (hn : As.length = n) (hW : (st.map fun v => v.category).sum ≤ 8) (hc : cn + M'.2.2.2.2.cells ≤ M.2.2.2.2.cells) (hs : sn + M'.2.2.2.2.slots ≤ M.2.2.2.2.slots)
    (k : ∀ (r : Option Value) (h' : qH), Q' r h' → QP G M E Z (pc + 3) L (r.toList ++ st) h' (cn + M'.2.2.2.2.cells) (sn + M'.2.2.2.2.slots)) : QP G M E Z pc L st0 h cn sn := by
  intro p e s m args below meth c C hE H ls locs hR hL hS
  obtain ⟨hx, hb, hml, hr, hlks, hown, hts, hK, hnm, hN⟩ := id C
  obtain ⟨⟨k1, k2, k3, k4⟩, k8, k9, k5, k7⟩ := hlk
  have hlen : ∀ sig, parseMethodDescriptor M'.1.desc = some sig → n = sig.parameters.length := fun sig hsg => by
    rw [hsg] at k4
    exact (Option.some.inj k4).symm
  have hp : PreS s H (qPc G (.ref b :: As) h) (.ref b :: As) := ⟨qPc.blind, fun U hU hW => qpre hR hK (Nat.le_trans hN hS.1) hU hW⟩
  have hws := pay_in hts (qGood k1)
  have hcw : Cond.code M'.1 M'.2.1 M'.2.2.1 none ∈ qWs M' := by rw [← k9]; exact List.mem_cons_self
  have hcd : (Cond.code M'.1 M'.2.1 M'.2.2.1 none).before args s = true := by rw [← k9]; exact hts _ k1
  subst hst
  rcases k7 with k7 | ⟨host, k7⟩
  · exact qgo C hE hL hS (va_runI (n := n) (Ts := qT) (own := M.1.cls) (bytes := M'.2.1) (maxL := M'.2.2.1) ⟨hx, hb, hml, hown, hts⟩ hm ⟨⟨rfl, rfl, hrm.1, hrm.2, hws, hcw, hcd, hts _ k2, k3, hlen, hts _ k7⟩, k8, hts _ k5⟩ hp rfl hn hL.1 rfl (lv_room hW) hd ⟨hc, hs⟩) k
  · exact qgo C hE hL hS (va_runIN (n := n) (Ts := qT) (own := M.1.cls) (host := host) (bytes := M'.2.1) (maxL := M'.2.2.1) ⟨hx, hb, hml, hown, hts⟩ hm ⟨⟨⟨rfl, rfl, hrm.1, hrm.2, hws, hcw⟩, hcd, hts _ k2, k3, hlen, va_Nw.use rfl (hK.2.2 _ k7)⟩, k8, hts _ k5⟩ hp rfl hn hL.1 rfl (lv_room hW) hd ⟨hc, hs⟩) k

variable {Q : Option Value → qH → Prop}
theorem qend {p : Program} {s : State} {m : MethodId} {args : Array Value} {meth : Method} {c : Code} {H : Heap} {locs : List Loc} {r : Option Value} (C : qC G M p s m args meth c) (hR : qRep G h H) (hS : va_S (fun q : Nat => G.2.1 ≤ q) s.heap H locs) (hq : Q r h) : ∀ t : State, t.heap = H → s.WarmedH t.vm → qQc G Q args s (.returned r) t :=
  fun t ht _ => ⟨r, h, rfl, hq, by rw [ht]; exact hR, by rw [ht]; exact hS.1, fun q hq => by rw [ht]; exact hS.2.1 q (Nat.lt_of_lt_of_le hq C.2.2.2.2.2.2.2.2.2) (Nat.not_le.mpr hq)⟩
theorem qp_iret {v : Int32} (hd : decode M.2.1 pc = .ok (.ireturn, 1)) (hrt : M.2.2.2.1 = some .int)  (hc : cn ≤ M.2.2.2.2.cells) (hs : sn ≤ M.2.2.2.2.slots) (hq : Q (some (.int v)) h) : QP G M E (qMZ G M Q) pc L [.int v] h cn sn := by
  intro p e s m args below meth c C hE H ls locs hR hL hS
  refine W.widen hc hs ?_
  exact W.iret C.1 C.2.1 (C.2.2.2.1.trans hrt) (qend C hR hS hq) hS.2.2 hd C.2.2.2.2.1
theorem qp_zret {v : Int32} (hd : decode M.2.1 pc = .ok (.ireturn, 1)) (hrt : M.2.2.2.1 = some .boolean) (hz : narrow .boolean (.int v) = .int v) (hc : cn ≤ M.2.2.2.2.cells) (hs : sn ≤ M.2.2.2.2.slots) (hq : Q (some (.int v)) h) : QP G M E (qMZ G M Q) pc L [.int v] h cn sn := by
  intro p e s m args below meth c C hE H ls locs hR hL hS
  refine W.widen hc hs ?_
  exact W.zret C.1 C.2.1 (C.2.2.2.1.trans hrt) hz (qend C hR hS hq) hS.2.2 hd C.2.2.2.2.1
theorem qp_lret {v : Int64} (hd : decode M.2.1 pc = .ok (.lreturn, 1)) (hrt : M.2.2.2.1 = some .long)  (hc : cn ≤ M.2.2.2.2.cells) (hs : sn ≤ M.2.2.2.2.slots) (hq : Q (some (.long v)) h) : QP G M E (qMZ G M Q) pc L [.long v] h cn sn := by
  intro p e s m args below meth c C hE H ls locs hR hL hS
  refine W.widen hc hs ?_
  exact W.lret C.1 C.2.1 (C.2.2.2.1.trans hrt) (qend C hR hS hq) hS.2.2 hd C.2.2.2.2.1
theorem qp_vret (hd : decode M.2.1 pc = .ok (.return_, 1)) (hrt : M.2.2.2.1 = none) (hc : cn ≤ M.2.2.2.2.cells) (hs : sn ≤ M.2.2.2.2.slots) (hq : Q none h) : QP G M E (qMZ G M Q) pc L [] h cn sn := by
  intro p e s m args below meth c C hE H ls locs hR hL hS
  refine W.widen hc hs ?_
  exact W.vret C.1 C.2.1 (C.2.2.2.1.trans hrt) (qend C hR hS hq) hS.2.2 hd C.2.2.2.2.1
theorem qp_aret {v : Value} {nm : String} (hd : decode M.2.1 pc = .ok (.areturn, 1)) (hrt : M.2.2.2.1 = some (.object nm)) (hv : v = .null ∨ ∃ a, v = .ref a) (hc : cn ≤ M.2.2.2.2.cells) (hs : sn ≤ M.2.2.2.2.slots) (hq : Q (some v) h) : QP G M E (qMZ G M Q) pc L [v] h cn sn := by
  intro p e s m args below meth c C hE H ls locs hR hL hS
  refine W.widen hc hs ?_
  exact W.aret C.1 C.2.1 (C.2.2.2.1.trans hrt) (Or.inl ⟨nm, rfl⟩) hv (qend C hR hS hq) hS.2.2 hd C.2.2.2.2.1
theorem QP.heap {h' : qH} (e : h' = h) (k : QP G M E Z pc L st h' cn sn) : QP G M E Z pc L st h cn sn := e ▸ k
theorem QP.locs {L' : List (Option Value)} (hl : ∀ (i : Nat) (v : Value), L'[i]? = some (some v) → L[i]? = some (some v)) (k : QP G M E Z pc L' st h cn sn) : QP G M E Z pc L st h cn sn :=
  fun p e s m args below meth c C hE H ls locs hR hL hS => k p e s m args below meth c C hE H ls locs hR ⟨hL.1, hL.2.1, fun i v hi => hL.2.2 i v (hl i v hi)⟩ hS
theorem QP.less {h' : qH} (hl : ∀ (a : Nat) (e : qE), h' a = some e → h a = some e) (k : QP G M E Z pc L st h' cn sn) : QP G M E Z pc L st h cn sn :=
  fun p e s m args below meth c C hE H ls locs hR hL hS => k p e s m args below meth c C hE H ls locs (fun a x hx => hR a x (hl a x hx)) hL hS
theorem QP.widen {c2 s2 : Nat} (hc : cn ≤ c2) (hs : sn ≤ s2) (k : QP G M E Z pc L st h c2 s2) : QP G M E Z pc L st h cn sn :=
  fun p e s m args below meth c C hE H ls locs hR hL hS => W.widen hc hs (k p e s m args below meth c C hE H ls locs hR hL hS)
end QPH
