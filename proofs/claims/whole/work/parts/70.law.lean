/-! ===== the law: what holds between two steps ===== -/
def Sch (lt : Int32) (e w : Nat) : Prop := (lt = 0 ∧ e = 1 ∧ w = 9) ∨ (lt = 1 ∧ e = 0 ∧ w = 4)
theorem Sch.w9 {lt : Int32} {e w : Nat} (h : Sch lt e w) : w ≤ 9 := by rcases h with ⟨-, -, h⟩ | ⟨-, -, h⟩ <;> omega
theorem Sch.e1 {lt : Int32} {e w : Nat} (h : Sch lt e w) : e ≤ 1 := by rcases h with ⟨-, h, -⟩ | ⟨-, h, -⟩ <;> omega
def CS (G : qG) (h : qH) (o0 r sgn k0 nb rc c z : Nat) (lt : Int32) (lat tol : Option Nat) (f R : Nat → Int32) (N : Nat → Option Nat) (X : Nat → CNv) : Prop := G.2.1 ≤ o0 ∧ G.2.1 ≤ r ∧ G.2.1 ≤ sgn ∧ G.2.1 ≤ k0 ∧ G.2.1 ≤ nb ∧ G.2.1 ≤ rc ∧ sgn ≠ rc ∧ h o0 = some (csCell r k0 lat tol) ∧ (∃ pp, h r = some (rdCell lt sgn (nI z) pp)) ∧ h sgn = some (sgCell f) ∧ h k0 = some (shCell nb rc (nI c)) ∧ h nb = some (nbCell N) ∧ h rc = some (rcCell R) ∧ ShOk h c N X
def MS (G : qG) (h : qH) (m0 sa nw la sh rcm bf c z : Nat) (lt th ps : Int32) (g A H B R : Nat → Int32) : Prop := G.2.1 ≤ m0 ∧ G.2.1 ≤ sa ∧ G.2.1 ≤ nw ∧ G.2.1 ≤ la ∧ G.2.1 ≤ sh ∧ G.2.1 ≤ rcm ∧ G.2.1 ≤ bf ∧ nw ≠ la ∧ nw ≠ bf ∧ la ≠ bf ∧ (∃ thr pp wr, h m0 = some (mdCell thr lt sa (nI z) nw la th sh rcm (nI c) bf ps pp wr)) ∧ h sa = some (saCell g) ∧ (∃ w0, h nw = some (rwCell w0)) ∧ h la = some (rwCell A) ∧ h sh = some (mshCell H) ∧ h rcm = some (rcCell R) ∧ h bf = some (rwCell B)
def LatR (h : qH) (e w : Nat) (lat : Option Nat) (th : Int32) (A : Nat → Int32) : Prop := (lat = none ∧ th = 0) ∨ ∃ a ln x fl q, lat = some a ∧ th = 1 ∧ h a = some (cnCell x ln) ∧ h ln = some (lnCell fl) ∧ Rel e w x fl q ∧ RowN A q
def TolR (h : qH) (e w : Nat) (tol : Option Nat) (ps : Int32) (B : Nat → Int32) : Prop := (tol = none ∧ ps = 0) ∨ ∃ a ln x, tol = some a ∧ ps = 1 ∧ h a = some (cnCell x ln) ∧ RelX e w x B
def SgR (z : Nat) (f g : Nat → Int32) : Prop := ∀ i, i < z → f i = g i &&& 255 ∧ (g i = 46 ↔ g i &&& 255 = 46)
def OuR (G : qG) (h : qH) (ou : Nat) : Prop := G.2.1 ≤ ou ∧ ∃ gO, h ou = some (.inl (2, 1, .inr (.inl gO)))
def LI (G : qG) (h : qH) (o0 m0 ou : Nat) (lt : Int32) (e w r sgn k0 nb rc c z : Nat) (lat tol : Option Nat) (f R : Nat → Int32) (N : Nat → Option Nat) (X : Nat → CNv) (sa nw la sh rcm bf : Nat) (th ps : Int32) (g A H B : Nat → Int32) : Prop :=
  Sch lt e w ∧ c ≤ 60 ∧ z ≤ 60 ∧ sgn ≠ rcm ∧ rc ≠ rcm ∧ CS G h o0 r sgn k0 nb rc c z lt lat tol f R N X ∧ MS G h m0 sa nw la sh rcm bf c z lt th ps g A H B R ∧ OuR G h ou ∧ SgR z f g ∧ ShR e w c X H ∧ LatR h e w lat th A ∧ TolR h e w tol ps B
def LawI (G : qG) (h : qH) (o0 m0 ou : Nat) : Prop := ∃ (lt : Int32) (e w r sgn k0 nb rc c z : Nat) (lat tol : Option Nat) (f R : Nat → Int32) (N : Nat → Option Nat) (X : Nat → CNv) (sa nw la sh rcm bf : Nat) (th ps : Int32) (g A H B : Nat → Int32), LI G h o0 m0 ou lt e w r sgn k0 nb rc c z lat tol f R N X sa nw la sh rcm bf th ps g A H B
section LW
variable {G : qG} {h h1 : qH} {o0 m0 ou : Nat} {lt : Int32} {e w r sgn k0 nb rc c z : Nat} {lat tol : Option Nat} {f R : Nat → Int32} {N : Nat → Option Nat} {X : Nat → CNv} {sa nw la sh rcm bf : Nat} {th ps : Int32} {g A H B : Nat → Int32}
theorem LatR.keep (hl : LatR h e w lat th A) (k : ∀ q, ((∃ x ln, h q = some (cnCell x ln)) ∨ ∃ fl, h q = some (lnCell fl)) → h1 q = h q) : LatR h1 e w lat th A := by
  rcases hl with q | ⟨a, ln, x, fl, q, h1, h2, h3, h4, h5⟩
  · exact Or.inl q
  · exact Or.inr ⟨a, ln, x, fl, q, h1, h2, (k a (Or.inl ⟨x, ln, h3⟩)).trans h3, (k ln (Or.inr ⟨fl, h4⟩)).trans h4, h5⟩
theorem TolR.keep (hl : TolR h e w tol ps B) (k : ∀ q, ((∃ x ln, h q = some (cnCell x ln)) ∨ ∃ fl, h q = some (lnCell fl)) → h1 q = h q) : TolR h1 e w tol ps B := by
  rcases hl with q | ⟨a, ln, x, h1, h2, h3, h4⟩
  · exact Or.inl q
  · exact Or.inr ⟨a, ln, x, h1, h2, (k a (Or.inl ⟨x, ln, h3⟩)).trans h3, h4⟩
theorem ShOk.keep (hl : ShOk h c N X) (k : ∀ q, ((∃ x ln, h q = some (cnCell x ln)) ∨ ∃ fl, h q = some (lnCell fl)) → h1 q = h q) : ShOk h1 c N X := by
  intro i hi
  obtain ⟨a, ln, h2, h3⟩ := hl i hi
  exact ⟨a, ln, h2, (k a (Or.inl ⟨_, ln, h3⟩)).trans h3⟩
/-- a step of the reference leaves the class's cells -/
theorem mframe (C : CS G h o0 r sgn k0 nb rc c z lt lat tol f R N X) {c' z' : Nat} {R' : Nat → Int32} (M : MS G h m0 sa nw la sh rcm bf c' z' lt th ps g A H B R') (d1 : sgn ≠ rcm) (d2 : rc ≠ rcm) (U : OuR G h ou) (o : ∀ q, q ≠ m0 → q ≠ sa → q ≠ nw → q ≠ la → q ≠ sh → q ≠ rcm → q ≠ bf → h1 q = h q) :
    CS G h1 o0 r sgn k0 nb rc c z lt lat tol f R N X ∧ OuR G h1 ou ∧ ∀ q, ((∃ x ln, h q = some (cnCell x ln)) ∨ ∃ fl, h q = some (lnCell fl)) → h1 q = h q := by
  obtain ⟨-, -, -, -, -, -, -, -, -, -, ⟨thr, ppm, wr, gm⟩, gsa, ⟨w0, gnw⟩, gla, gsh, grm, gbf⟩ := M
  obtain ⟨n1, n2, n3, n4, n5, n6, d0, go, ⟨pp, gr⟩, gs, gk, gn, gc, hok⟩ := C
  obtain ⟨nu, gO, gu⟩ := U
  have kn : ∀ q, ((∃ x ln, h q = some (cnCell x ln)) ∨ ∃ fl, h q = some (lnCell fl)) → h1 q = h q := fun q hq => by
    rcases hq with ⟨x, ln, hq⟩ | ⟨fl, hq⟩
    · exact o q (ne_of_cells hq gm (by simp)) (ne_of_cells hq gsa (by simp)) (ne_of_cells hq gnw (by simp)) (ne_of_cells hq gla (by simp)) (ne_of_cells hq gsh (by simp)) (ne_of_cells hq grm (by simp)) (ne_of_cells hq gbf (by simp))
    · exact o q (ne_of_cells hq gm (by simp)) (ne_of_cells hq gsa (by simp)) (ne_of_cells hq gnw (by simp)) (ne_of_cells hq gla (by simp)) (ne_of_cells hq gsh (by simp)) (ne_of_cells hq grm (by simp)) (ne_of_cells hq gbf (by simp))
  refine ⟨⟨n1, n2, n3, n4, n5, n6, d0, ?_, ⟨pp, ?_⟩, ?_, ?_, ?_, ?_, hok.keep kn⟩, ⟨nu, gO, ?_⟩, kn⟩
  · exact (o o0 (ne_of_cells go gm (by simp)) (ne_of_cells go gsa (by simp)) (ne_of_cells go gnw (by simp)) (ne_of_cells go gla (by simp)) (ne_of_cells go gsh (by simp)) (ne_of_cells go grm (by simp)) (ne_of_cells go gbf (by simp))).trans go
  · exact (o r (ne_of_cells gr gm (by simp)) (ne_of_cells gr gsa (by simp)) (ne_of_cells gr gnw (by simp)) (ne_of_cells gr gla (by simp)) (ne_of_cells gr gsh (by simp)) (ne_of_cells gr grm (by simp)) (ne_of_cells gr gbf (by simp))).trans gr
  · exact (o sgn (ne_of_cells gs gm (by simp)) (ne_of_cells gs gsa (by simp)) (ne_of_cells gs gnw (by simp)) (ne_of_cells gs gla (by simp)) (ne_of_cells gs gsh (by simp)) d1 (ne_of_cells gs gbf (by simp))).trans gs
  · exact (o k0 (ne_of_cells gk gm (by simp)) (ne_of_cells gk gsa (by simp)) (ne_of_cells gk gnw (by simp)) (ne_of_cells gk gla (by simp)) (ne_of_cells gk gsh (by simp)) (ne_of_cells gk grm (by simp)) (ne_of_cells gk gbf (by simp))).trans gk
  · exact (o nb (ne_of_cells gn gm (by simp)) (ne_of_cells gn gsa (by simp)) (ne_of_cells gn gnw (by simp)) (ne_of_cells gn gla (by simp)) (ne_of_cells gn gsh (by simp)) (ne_of_cells gn grm (by simp)) (ne_of_cells gn gbf (by simp))).trans gn
  · exact (o rc (ne_of_cells gc gm (by simp)) (ne_of_cells gc gsa (by simp)) (ne_of_cells gc gnw (by simp)) (ne_of_cells gc gla (by simp)) (ne_of_cells gc gsh (by simp)) d2 (ne_of_cells gc gbf (by simp))).trans gc
  · exact (o ou (ne_of_cells gu gm (by simp)) (ne_of_cells gu gsa (by simp)) (ne_of_cells gu gnw (by simp)) (ne_of_cells gu gla (by simp)) (ne_of_cells gu gsh (by simp)) (ne_of_cells gu grm (by simp)) (ne_of_cells gu gbf (by simp))).trans gu
/-- a step of the class leaves the reference's cells -/
theorem cframe (C : CS G h o0 r sgn k0 nb rc c z lt lat tol f R N X) {c' z' : Nat} {R' : Nat → Int32} (M : MS G h m0 sa nw la sh rcm bf c' z' lt th ps g A H B R') (d1 : sgn ≠ rcm) (d2 : rc ≠ rcm) (U : OuR G h ou) (o : ∀ q e, h q = some e → q ≠ o0 → q ≠ r → q ≠ sgn → q ≠ k0 → q ≠ nb → q ≠ rc → h1 q = h q) :
    MS G h1 m0 sa nw la sh rcm bf c' z' lt th ps g A H B R' ∧ OuR G h1 ou ∧ ∀ q, ((∃ x ln, h q = some (cnCell x ln)) ∨ ∃ fl, h q = some (lnCell fl)) → h1 q = h q := by
  obtain ⟨m1, m2, m3, m4, m5, m6, m7, m8, m9, m10, ⟨thr, ppm, wr, gm⟩, gsa, ⟨w0, gnw⟩, gla, gsh, grm, gbf⟩ := M
  obtain ⟨n1, n2, n3, n4, n5, n6, d0, go, ⟨pp, gr⟩, gs, gk, gn, gc, hok⟩ := C
  obtain ⟨nu, gO, gu⟩ := U
  have kn : ∀ q, ((∃ x ln, h q = some (cnCell x ln)) ∨ ∃ fl, h q = some (lnCell fl)) → h1 q = h q := fun q hq => by
    rcases hq with ⟨x, ln, hq⟩ | ⟨fl, hq⟩
    · exact o q _ hq (ne_of_cells hq go (by simp)) (ne_of_cells hq gr (by simp)) (ne_of_cells hq gs (by simp)) (ne_of_cells hq gk (by simp)) (ne_of_cells hq gn (by simp)) (ne_of_cells hq gc (by simp))
    · exact o q _ hq (ne_of_cells hq go (by simp)) (ne_of_cells hq gr (by simp)) (ne_of_cells hq gs (by simp)) (ne_of_cells hq gk (by simp)) (ne_of_cells hq gn (by simp)) (ne_of_cells hq gc (by simp))
  refine ⟨⟨m1, m2, m3, m4, m5, m6, m7, m8, m9, m10, ⟨thr, ppm, wr, ?_⟩, ?_, ⟨w0, ?_⟩, ?_, ?_, ?_, ?_⟩, ⟨nu, gO, ?_⟩, kn⟩
  · exact (o m0 _ gm (ne_of_cells gm go (by simp)) (ne_of_cells gm gr (by simp)) (ne_of_cells gm gs (by simp)) (ne_of_cells gm gk (by simp)) (ne_of_cells gm gn (by simp)) (ne_of_cells gm gc (by simp))).trans gm
  · exact (o sa _ gsa (ne_of_cells gsa go (by simp)) (ne_of_cells gsa gr (by simp)) (ne_of_cells gsa gs (by simp)) (ne_of_cells gsa gk (by simp)) (ne_of_cells gsa gn (by simp)) (ne_of_cells gsa gc (by simp))).trans gsa
  · exact (o nw _ gnw (ne_of_cells gnw go (by simp)) (ne_of_cells gnw gr (by simp)) (ne_of_cells gnw gs (by simp)) (ne_of_cells gnw gk (by simp)) (ne_of_cells gnw gn (by simp)) (ne_of_cells gnw gc (by simp))).trans gnw
  · exact (o la _ gla (ne_of_cells gla go (by simp)) (ne_of_cells gla gr (by simp)) (ne_of_cells gla gs (by simp)) (ne_of_cells gla gk (by simp)) (ne_of_cells gla gn (by simp)) (ne_of_cells gla gc (by simp))).trans gla
  · exact (o sh _ gsh (ne_of_cells gsh go (by simp)) (ne_of_cells gsh gr (by simp)) (ne_of_cells gsh gs (by simp)) (ne_of_cells gsh gk (by simp)) (ne_of_cells gsh gn (by simp)) (ne_of_cells gsh gc (by simp))).trans gsh
  · exact (o rcm _ grm (ne_of_cells grm go (by simp)) (ne_of_cells grm gr (by simp)) (Ne.symm d1) (ne_of_cells grm gk (by simp)) (ne_of_cells grm gn (by simp)) (Ne.symm d2)).trans grm
  · exact (o bf _ gbf (ne_of_cells gbf go (by simp)) (ne_of_cells gbf gr (by simp)) (ne_of_cells gbf gs (by simp)) (ne_of_cells gbf gk (by simp)) (ne_of_cells gbf gn (by simp)) (ne_of_cells gbf gc (by simp))).trans gbf
  · exact (o ou _ gu (ne_of_cells gu go (by simp)) (ne_of_cells gu gr (by simp)) (ne_of_cells gu gs (by simp)) (ne_of_cells gu gk (by simp)) (ne_of_cells gu gn (by simp)) (ne_of_cells gu gc (by simp))).trans gu
/-- the reference's own object alone has changed -/
theorem MS.own {c z : Nat} {R : Nat → Int32} {lt' th' ps' : Int32} {c' z' : Nat} (M : MS G h m0 sa nw la sh rcm bf c z lt th ps g A H B R) {thr pp wr : Int32} (g1 : h1 m0 = some (mdCell thr lt' sa (nI z') nw la th' sh rcm (nI c') bf ps' pp wr)) (o : ∀ q, q ≠ m0 → h1 q = h q) : MS G h1 m0 sa nw la sh rcm bf c' z' lt' th' ps' g A H B R := by
  obtain ⟨m1, m2, m3, m4, m5, m6, m7, m8, m9, m10, ⟨thr, ppm, wr, gm⟩, gsa, ⟨w0, gnw⟩, gla, gsh, grm, gbf⟩ := M
  exact ⟨m1, m2, m3, m4, m5, m6, m7, m8, m9, m10, ⟨_, _, _, g1⟩, (o sa (ne_of_cells gsa gm (by simp))).trans gsa, ⟨w0, (o nw (ne_of_cells gnw gm (by simp))).trans gnw⟩, (o la (ne_of_cells gla gm (by simp))).trans gla, (o sh (ne_of_cells gsh gm (by simp))).trans gsh, (o rcm (ne_of_cells grm gm (by simp))).trans grm, (o bf (ne_of_cells gbf gm (by simp))).trans gbf⟩
theorem LI.own (I : LI G h o0 m0 ou lt e w r sgn k0 nb rc c z lat tol f R N X sa nw la sh rcm bf th ps g A H B) {thr pp wr : Int32} (g1 : h1 m0 = some (mdCell thr lt sa (nI z) nw la th sh rcm (nI c) bf ps pp wr)) (o : ∀ q, q ≠ m0 → h1 q = h q) : LawI G h1 o0 m0 ou := by
  obtain ⟨i1, i2, i3, d1, d2, C, M, U, i4, i5, i6, i7⟩ := I
  obtain ⟨C', U', kn⟩ := mframe (h1 := h1) C M d1 d2 U (fun q q1 _ _ _ _ _ _ => o q q1)
  exact ⟨lt, e, w, r, sgn, k0, nb, rc, c, z, lat, tol, f, R, N, X, sa, nw, la, sh, rcm, bf, th, ps, g, A, H, B, i1, i2, i3, d1, d2, C', M.own g1 o, U', i4, i5, i6.keep kn, i7.keep kn⟩
end LW
/-- a call of the class and the same of the reference: the same answer, and what held holds again -/
def PairI (G : qG) (MC MM : qM) (As : List Value) (h : qH) (o0 m0 ou : Nat) : Prop := (∃ fs, h o0 = some (.inr (4, fs))) ∧ ∃ Qc : Int32 → qH → Prop, qMet G MC (.ref o0 :: As) h (qI Qc) ∧ ∀ v h1, Qc v h1 → (∃ fs, h1 m0 = some (.inr (5, fs))) ∧ ∃ Qm : Int32 → qH → Prop, qMet G MM (.ref m0 :: As) h1 (qI Qm) ∧ ∀ u h2, Qm u h2 → v = u ∧ LawI G h2 o0 m0 ou
/-- the class changes nothing, the reference but its own object -/
theorem PairI.pure {G : qG} {MC MM : qM} {As : List Value} {h : qH} {o0 m0 ou : Nat} {lt : Int32} {e w r sgn k0 nb rc c z : Nat} {lat tol : Option Nat} {f R : Nat → Int32} {N : Nat → Option Nat} {X : Nat → CNv} {sa nw la sh rcm bf : Nat} {th ps : Int32} {g A H B : Nat → Int32} (I : LI G h o0 m0 ou lt e w r sgn k0 nb rc c z lat tol f R N X sa nw la sh rcm bf th ps g A H B) {v u : Int32} {thr pp wr : Int32} (hc : qMet G MC (.ref o0 :: As) h (qI (fun v' h1 => h1 = h ∧ v' = v))) (hm : qMet G MM (.ref m0 :: As) h (qI (fun v' h1 => v' = u ∧ h1 m0 = some (mdCell thr lt sa (nI z) nw la th sh rcm (nI c) bf ps pp wr) ∧ ∀ b : Nat, b ≠ m0 → h1 b = h b))) (hv : v = u) : PairI G MC MM As h o0 m0 ou := by
  have I' := I
  obtain ⟨-, -, -, -, -, C, M, -⟩ := I'
  obtain ⟨-, -, -, -, -, -, -, go, -⟩ := C
  obtain ⟨-, -, -, -, -, -, -, -, -, -, ⟨_, _, _, gm⟩, -⟩ := M
  refine ⟨⟨_, go⟩, _, hc, fun v' h1 q => ?_⟩
  obtain ⟨q1, q2⟩ := q
  rw [q1]
  refine ⟨⟨_, gm⟩, _, hm, fun u' h2 q => ?_⟩
  obtain ⟨q3, q4, q5⟩ := q
  exact ⟨by rw [q2, q3, hv], I.own q4 q5⟩
section PR
variable {G : qG} {h : qH} {o0 m0 ou : Nat}
theorem pair_letter (hI : LawI G h o0 m0 ou) (i : Int32) : PairI G M_X3_letter M_X4_letter [.int i] h o0 m0 ou := by
  obtain ⟨lt, e, w, r, sgn, k0, nb, rc, c, z, lat, tol, f, R, N, X, sa, nw, la, sh, rcm, bf, th, ps, g, A, H, B, I⟩ := hI
  have I' := I
  obtain ⟨hs, hc, hz, d1, d2, C, M, U, hfg, hsh, hl, ht⟩ := I'
  obtain ⟨n1, n2, n3, n4, n5, n6, d0, go, ⟨pp, gr⟩, gs, gk, gn, gc, hok⟩ := C
  obtain ⟨m1, m2, m3, m4, m5, m6, m7, m8, m9, m10, ⟨thr, ppm, wr, gm⟩, gsa, ⟨w0, gnw⟩, gla, gsh, grm, gbf⟩ := M
  rcases hl with ⟨rfl, rfl⟩ | ⟨a, ln, x, fl, q, rfl, rfl, ga, gl, hR, hA⟩
  · exact PairI.pure I (c_letterN G i go) (m_letter0 G i m1 gm gla) rfl
  · exact PairI.pure I (c_letter G i go ga) (m_letter1 G i m1 gm gla) (rel_letter hR hA i)
theorem pair_spine (hI : LawI G h o0 m0 ou) (i : Int32) : PairI G M_X3_spine M_X4_spine [.int i] h o0 m0 ou := by
  obtain ⟨lt, e, w, r, sgn, k0, nb, rc, c, z, lat, tol, f, R, N, X, sa, nw, la, sh, rcm, bf, th, ps, g, A, H, B, I⟩ := hI
  have I' := I
  obtain ⟨hs, hc, hz, d1, d2, C, M, U, hfg, hsh, hl, ht⟩ := I'
  obtain ⟨n1, n2, n3, n4, n5, n6, d0, go, ⟨pp, gr⟩, gs, gk, gn, gc, hok⟩ := C
  obtain ⟨m1, m2, m3, m4, m5, m6, m7, m8, m9, m10, ⟨thr, ppm, wr, gm⟩, gsa, ⟨w0, gnw⟩, gla, gsh, grm, gbf⟩ := M
  rcases hl with ⟨rfl, rfl⟩ | ⟨a, ln, x, fl, q, rfl, rfl, ga, gl, hR, hA⟩
  · exact PairI.pure I (c_spineN G i go) (m_spineN G i m1 gm) rfl
  · have he := rel_spine hs.e1 hR hA i
    rcases hs with ⟨rfl, rfl, rfl⟩ | ⟨rfl, rfl, rfl⟩
    · exact PairI.pure I (c_spine G i go ga gl) (m_spine0 G i m1 gm gla) (by rw [he, if_neg (by decide)])
    · exact PairI.pure I (c_spine G i go ga gl) (m_spine1 G i m1 gm gla) (by rw [he, if_pos rfl])
theorem pair_shelf (hI : LawI G h o0 m0 ou) (i : Int32) : PairI G M_X3_shelf M_X4_shelf [.int i] h o0 m0 ou := by
  obtain ⟨lt, e, w, r, sgn, k0, nb, rc, c, z, lat, tol, f, R, N, X, sa, nw, la, sh, rcm, bf, th, ps, g, A, H, B, I⟩ := hI
  have I' := I
  obtain ⟨hs, hc, hz, d1, d2, C, M, U, hfg, hsh, hl, ht⟩ := I'
  obtain ⟨n1, n2, n3, n4, n5, n6, d0, go, ⟨pp, gr⟩, gs, gk, gn, gc, hok⟩ := C
  obtain ⟨m1, m2, m3, m4, m5, m6, m7, m8, m9, m10, ⟨thr, ppm, wr, gm⟩, gsa, ⟨w0, gnw⟩, gla, gsh, grm, gbf⟩ := M
  exact PairI.pure I (c_shelf G i go hc gk gc) (m_shelf G i m1 hc gm grm) rfl
theorem pair_compare (hI : LawI G h o0 m0 ou) (i j : Int32) : PairI G M_X3_compare M_X4_compare [.int i, .int j] h o0 m0 ou := by
  obtain ⟨lt, e, w, r, sgn, k0, nb, rc, c, z, lat, tol, f, R, N, X, sa, nw, la, sh, rcm, bf, th, ps, g, A, H, B, I⟩ := hI
  have I' := I
  obtain ⟨hs, hc, hz, d1, d2, C, M, U, hfg, hsh, hl, ht⟩ := I'
  obtain ⟨n1, n2, n3, n4, n5, n6, d0, go, ⟨pp, gr⟩, gs, gk, gn, gc, hok⟩ := C
  obtain ⟨m1, m2, m3, m4, m5, m6, m7, m8, m9, m10, ⟨thr, ppm, wr, gm⟩, gsa, ⟨w0, gnw⟩, gla, gsh, grm, gbf⟩ := M
  exact PairI.pure I (c_compare G i j go hc gk gn hok) (m_compare G i j m1 hc gm) (sh_compare hs.w9 hsh i j)
theorem pair_before (hI : LawI G h o0 m0 ou) : PairI G M_X3_before M_X4_before [] h o0 m0 ou := by
  obtain ⟨lt, e, w, r, sgn, k0, nb, rc, c, z, lat, tol, f, R, N, X, sa, nw, la, sh, rcm, bf, th, ps, g, A, H, B, I⟩ := hI
  have I' := I
  obtain ⟨hs, hc, hz, d1, d2, C, M, U, hfg, hsh, hl, ht⟩ := I'
  obtain ⟨n1, n2, n3, n4, n5, n6, d0, go, ⟨pp, gr⟩, gs, gk, gn, gc, hok⟩ := C
  obtain ⟨m1, m2, m3, m4, m5, m6, m7, m8, m9, m10, ⟨thr, ppm, wr, gm⟩, gsa, ⟨w0, gnw⟩, gla, gsh, grm, gbf⟩ := M
  rcases hl with ⟨rfl, rfl⟩ | ⟨a, ln, x, fl, q, rfl, rfl, ga, gl, hR, hA⟩
  · exact PairI.pure I (c_beforeN G go) (m_beforeN G m1 gm) rfl
  · exact PairI.pure I (c_before G go hc gk gn hok ga) (m_before G m1 hc gm gla gsh) (by rw [(sh_place hs.w9 hsh ⟨fl, q, hR, hA⟩).1])
end PR
