/-! ===== the law: part ===== -/
def PairP (G : qG) (i : Int32) (h : qH) (o0 m0 ou : Nat) : Prop := ∃ Qc : Int32 → qH → Prop, qMetX G M_L_part xHh [.ref o0, .int i, .ref ou] h (qI Qc) ∧ ∀ k h1, Qc k h1 → (∃ fs, h1 m0 = some (.inr (5, fs))) ∧ ∃ Qm : Int64 → qH → Prop, qMet G M_X4_part [.ref m0, .int i] h1 (qJ Qm) ∧ ∀ bv h2, Qm bv h2 → (∃ fs, h2 m0 = some (.inr (5, fs))) ∧ qMet G M_X4_thrown [.ref m0] h2 (qI (fun v h3 => h3 = h2 ∧ v = k)) ∧ (k = 0 → ∃ gO, h2 ou = some (.inl (2, 1, .inr (.inl gO))) ∧ gO 0 = bv) ∧ LawI G h2 o0 m0 ou
theorem pair_part {G : qG} {h : qH} {o0 m0 ou : Nat} (ht : G.1.stackTraces = false) (hI : LawI G h o0 m0 ou) (i : Int32) : PairP G i h o0 m0 ou := by
  obtain ⟨lt, e, w, r, sgn, k0, nb, rc, c, z, lat, tol, f, R, N, X, sa, nw, la, sh, rcm, bf, th, ps, g, A, H, B, I⟩ := hI
  have I' := I
  obtain ⟨hs, hc, hz, d1, d2, C, M, U, hfg, hsh, hl, htl⟩ := I'
  obtain ⟨n1, n2, n3, n4, n5, n6, d0, go, ⟨pp, gr⟩, gs, gk, gn, gc, hok⟩ := id C
  obtain ⟨m1, m2, m3, m4, m5, m6, m7, m8, m9, m10, ⟨thr, ppm, wr, gm⟩, gsa, ⟨w0, gnw⟩, gla, gsh, grm, gbf⟩ := id M
  by_cases hx : lat = none ∨ i < 0 ∨ 4 < i
  · refine ⟨_, l_partX G i ht go hx, fun k h1 q => ?_⟩
    obtain ⟨q1, q2⟩ := q
    rw [q1, q2]
    have h10 : (1 : Int32) = 0 → ∃ gO : Nat → Int64, False := fun z => absurd z (by decide)
    rcases hl with ⟨rfl, rfl⟩ | ⟨a, ln, x, fl, q, rfl, rfl, ga, gl, hR, hA⟩
    · refine ⟨⟨_, gm⟩, _, m_partN G i m1 gm, fun bv h2 p => ?_⟩
      obtain ⟨-, p2, p3⟩ := p
      exact ⟨⟨_, p2⟩, m_thrown G p2, fun z => absurd z (by decide), I.own p2 p3⟩
    · have hx' : i < 0 ∨ 4 < i := by
        rcases hx with q | q
        · cases q
        · exact q
      refine ⟨⟨_, gm⟩, _, m_partX G i hx' m1 gm, fun bv h2 p => ?_⟩
      obtain ⟨-, p2, p3⟩ := p
      exact ⟨⟨_, p2⟩, m_thrown G p2, fun z => absurd z (by decide), I.own p2 p3⟩
  · have x1 : ¬ lat = none := fun q => hx (Or.inl q)
    have x2 : ¬ i < 0 := fun q => hx (Or.inr (Or.inl q))
    have x3 : ¬ 4 < i := fun q => hx (Or.inr (Or.inr q))
    obtain ⟨j, hj, rfl⟩ := nI_of x2
    have hj4 : j ≤ 4 := (nI_leI (b := 4) hj (by decide)).mp (i32_nlt.mp x3)
    rcases hl with ⟨rfl, rfl⟩ | ⟨a, ln, x, fl, q, rfl, rfl, ga, gl, hR, hA⟩
    · exact absurd rfl x1
    · obtain ⟨nu, gO, gu⟩ := id U
      have hlr : LatR h e w (some a) 1 A := Or.inr ⟨a, ln, x, fl, q, rfl, rfl, ga, gl, hR, hA⟩
      refine ⟨_, l_part G j hj4 nu go ga gu, fun k h1 p => ?_⟩
      obtain ⟨q1, q2, q5⟩ := p
      obtain ⟨M1, -, kn1⟩ := cframe (h1 := qUp h1 ou (.inl (2, 1, .inr (.inl gO)))) C M d1 d2 U (fun q _ hq _ _ _ _ _ _ => by
        by_cases e : q = ou
        · rw [e, qUp_self, gu]
        · rw [qUp_ne e, q5 q e])
      have kc : ∀ {q : Nat} {y : qE}, h q = some y → y ≠ .inl (2, 1, .inr (.inl gO)) → h1 q = some y := fun hq hy => (q5 _ (ne_of_cells hq gu hy)).trans hq
      have kn : ∀ q, ((∃ x ln, h q = some (cnCell x ln)) ∨ ∃ fl, h q = some (lnCell fl)) → h1 q = h q := fun q hq => by
        rcases hq with ⟨x, ln, hq⟩ | ⟨fl, hq⟩
        · exact q5 q (ne_of_cells hq gu (by simp))
        · exact q5 q (ne_of_cells hq gu (by simp))
      have C1 : CS G h1 o0 r sgn k0 nb rc c z lt (some a) tol f R N X := ⟨n1, n2, n3, n4, n5, n6, d0, kc go (by simp), ⟨pp, kc gr (by simp)⟩, kc gs (by simp), kc gk (by simp), kc gn (by simp), kc gc (by simp), hok.keep kn⟩
      have M1 : MS G h1 m0 sa nw la sh rcm bf c z lt 1 ps g A H B R := ⟨m1, m2, m3, m4, m5, m6, m7, m8, m9, m10, ⟨thr, ppm, wr, kc gm (by simp)⟩, kc gsa (by simp), ⟨w0, kc gnw (by simp)⟩, kc gla (by simp), kc gsh (by simp), kc grm (by simp), kc gbf (by simp)⟩
      have I1 : LI G h1 o0 m0 ou lt e w r sgn k0 nb rc c z (some a) tol f R N X sa nw la sh rcm bf 1 ps g A H B := ⟨hs, hc, hz, d1, d2, C1, M1, ⟨nu, _, q2⟩, hfg, hsh, hlr.keep kn, htl.keep kn⟩
      rw [q1]
      have gm1 := kc gm (by simp)
      have gla1 := kc gla (by simp)
      have fin : ∀ (bv : Int64) (h2 : qH), bv = sPart x j → (h2 m0 = some (mdCell 0 lt sa (nI z) nw la 1 sh rcm (nI c) bf ps ppm wr) ∧ ∀ b : Nat, b ≠ m0 → h2 b = h1 b) → (∃ fs, h2 m0 = some (.inr (5, fs))) ∧ qMet G M_X4_thrown [.ref m0] h2 (qI (fun v h3 => h3 = h2 ∧ v = 0)) ∧ ((0 : Int32) = 0 → ∃ gO, h2 ou = some (.inl (2, 1, .inr (.inl gO))) ∧ gO 0 = bv) ∧ LawI G h2 o0 m0 ou := fun bv h2 hb p => by
        obtain ⟨p2, p3⟩ := p
        refine ⟨⟨_, p2⟩, m_thrown G p2, fun _ => ⟨_, (p3 ou (ne_of_cells q2 gm1 (by simp))).trans q2, ?_⟩, I1.own p2 p3⟩
        rw [hb]
        simp [vp_updL]
      rcases hs with ⟨rfl, rfl, rfl⟩ | ⟨rfl, rfl, rfl⟩
      · exact ⟨⟨_, gm1⟩, _, m_part0 G j hj4 m1 gm1 gla1, fun bv h2 p => fin bv h2 (by rw [p.1, rel_part0 hR hA hj4]) p.2⟩
      · exact ⟨⟨_, gm1⟩, _, m_part1 G j hj4 m1 gm1 gla1, fun bv h2 p => fin bv h2 (by rw [p.1, rel_part1 hR hA hj4]) p.2⟩
