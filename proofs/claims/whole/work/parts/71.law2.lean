/-! ===== the law: free, put, take, pass ===== -/
section PR2
variable {G : qG} {h : qH} {o0 m0 ou : Nat}
theorem pair_free (hI : LawI G h o0 m0 ou) : PairI G M_X3_free M_X4_free [] h o0 m0 ou := by
  obtain ⟨lt, e, w, r, sgn, k0, nb, rc, c, z, lat, tol, f, R, N, X, sa, nw, la, sh, rcm, bf, th, ps, g, A, H, B, I⟩ := hI
  have I' := I
  obtain ⟨hs, hc, hz, d1, d2, C, M, U, hfg, hsh, hl, ht⟩ := I'
  have C' := C
  have M' := M
  obtain ⟨n1, n2, n3, n4, n5, n6, d0, go, ⟨pp, gr⟩, gs, gk, gn, gc, hok⟩ := C'
  obtain ⟨m1, m2, m3, m4, m5, m6, m7, m8, m9, m10, ⟨thr, ppm, wr, gm⟩, gsa, ⟨w0, gnw⟩, gla, gsh, grm, gbf⟩ := M'
  rcases hl with ⟨rfl, rfl⟩ | ⟨a, ln, x, fl, q, rfl, rfl, ga, gl, hR, hA⟩
  · exact PairI.pure I (c_freeN G go) (m_freeN G m1 gm) rfl
  · have hcut : x.cut = nI (vL q 6 17) := hR.1.2.2.2.1
    have hcn : x.cutn = nI (rn q 6 17) := hR.2.2.1
    have hlt := vL_lt 6 17 hR.1.2.2.2.2.2.2.2.2.2.2.2.2.2.1
    have hn6 := rn_le q 6 17
    have hrun := runP_rn hA hR.2.2.2.2.2.2.2.2.1 6 17 (by omega)
    have hv := free_eq hs.w9 hsh hR hA rfl (7 - rn q 6 17) 0 (by omega)
    have hlr : LatR h e w (some a) 1 A := Or.inr ⟨a, ln, x, fl, q, rfl, rfl, ga, gl, hR, hA⟩
    refine ⟨⟨_, go⟩, _, c_free G (vL q 6 17) (rn q 6 17) hcut hcn (by omega) hn6 go hc gk gn hok ga, fun v h1 q1 => ?_⟩
    obtain ⟨q1, q2⟩ := q1
    rw [q1]
    refine ⟨⟨_, gm⟩, _, m_free G m1 m3 m8 hc hrun hn6 gm gla gsh gnw, fun u h2 q3 => ?_⟩
    obtain ⟨q3, q4, ⟨w1, q5⟩, q6⟩ := q3
    refine ⟨by rw [q2, q3, hv], ?_⟩
    obtain ⟨C2, U2, kn⟩ := mframe (h1 := h2) C M d1 d2 U (fun q p1 _ p2 _ _ _ _ => q6 q p1 p2)
    have M2 : MS G h2 m0 sa nw la sh rcm bf c z lt 1 ps g A H B R := ⟨m1, m2, m3, m4, m5, m6, m7, m8, m9, m10, ⟨_, _, _, q4⟩, (q6 sa (ne_of_cells gsa gm (by simp)) (ne_of_cells gsa gnw (by simp))).trans gsa, ⟨w1, q5⟩, (q6 la (ne_of_cells gla gm (by simp)) (Ne.symm m8)).trans gla, (q6 sh (ne_of_cells gsh gm (by simp)) (ne_of_cells gsh gnw (by simp))).trans gsh, (q6 rcm (ne_of_cells grm gm (by simp)) (ne_of_cells grm gnw (by simp))).trans grm, (q6 bf (ne_of_cells gbf gm (by simp)) (Ne.symm m9)).trans gbf⟩
    exact ⟨lt, e, w, r, sgn, k0, nb, rc, c, z, some a, tol, f, R, N, X, sa, nw, la, sh, rcm, bf, 1, ps, g, A, H, B, hs, hc, hz, d1, d2, C2, M2, U2, hfg, hsh, hlr.keep kn, ht.keep kn⟩
theorem ins_ok {h : qH} {c j a ln : Nat} {N : Nat → Option Nat} {X : Nat → CNv} {y : CNv} (hok : ShOk h c N X) (ga : h a = some (cnCell y ln)) (hj : j ≤ c) : ShOk h (c + 1) (insF N j c (some a)) (insF X j c y) := by
  intro i hi
  rw [insF, insF]
  by_cases q : i = j
  · rw [if_pos q, if_pos q]; exact ⟨a, ln, rfl, ga⟩
  · rw [if_neg q, if_neg q]
    by_cases q2 : j < i ∧ i ≤ c
    · rw [if_pos q2, if_pos q2]; exact hok (i - 1) (by omega)
    · rw [if_neg q2, if_neg q2]; exact hok i (by omega)
theorem rem_ok {h : qH} {c j : Nat} {N : Nat → Option Nat} {X : Nat → CNv} (hok : ShOk h (c + 1) N X) (hj : j ≤ c) : ShOk h c (remF N j (c + 1)) (shD X j c) := by
  intro i hi
  have e : remF N j (c + 1) i = shD N j c i := by
    rw [remF, show c + 1 - 1 = c by omega]
    exact va_up_ne _ _ (by omega)
  rw [e, shD, shD]
  by_cases q : j ≤ i ∧ i < c
  · rw [if_pos q, if_pos q]; exact hok (i + 1) (by omega)
  · rw [if_neg q, if_neg q]; exact hok i (by omega)
theorem pair_put (hI : LawI G h o0 m0 ou) (rec : Int32) : PairI G M_X3_put M_X4_put [.int rec] h o0 m0 ou := by
  obtain ⟨lt, e, w, r, sgn, k0, nb, rc, c, z, lat, tol, f, R, N, X, sa, nw, la, sh, rcm, bf, th, ps, g, A, H, B, I⟩ := hI
  have I' := I
  obtain ⟨hs, hc, hz, d1, d2, C, M, U, hfg, hsh, hl, ht⟩ := I'
  have C' := C
  have M' := M
  obtain ⟨n1, n2, n3, n4, n5, n6, d0, go, ⟨pp, gr⟩, gs, gk, gn, gc, hok⟩ := C'
  obtain ⟨m1, m2, m3, m4, m5, m6, m7, m8, m9, m10, ⟨thr, ppm, wr, gm⟩, gsa, ⟨w0, gnw⟩, gla, gsh, grm, gbf⟩ := M'
  rcases hl with ⟨rfl, rfl⟩ | ⟨a, ln, x, fl, q, rfl, rfl, ga, gl, hR, hA⟩
  · exact PairI.pure I (c_putN G rec go) (m_putN G rec m1 gm) rfl
  · have hx : RelX e w x A := ⟨fl, q, hR, hA⟩
    obtain ⟨hpl, hjc, -, -⟩ := sh_place hs.w9 hsh hx
    have hsm := sh_same hs.w9 hsh hx (cntB X x c)
    have hlr : LatR h e w (some a) 1 A := Or.inr ⟨a, ln, x, fl, q, rfl, rfl, ga, gl, hR, hA⟩
    cases hq : sSame c X x (cntB X x c) with
    | true =>
      obtain ⟨p1, p2⟩ := hsm.mp hq
      exact PairI.pure I (c_putSame G rec hq go hc gk gn hok ga) (m_putSame G rec m1 hc hpl p1 p2 gm gla gsh grm) rfl
    | false =>
      have hns : cntB X x c < c → ¬ mLex A (mRow H (cntB X x c)) 34 0 = 0 := fun p1 p2 => by
        have := hsm.mpr ⟨p1, p2⟩
        rw [hq] at this
        cases this
      by_cases h60 : c = 60
      · exact PairI.pure I (c_putFull G rec hq h60 go hc gk gn hok ga) (m_putFull G rec m1 hc hjc hpl hns (by rw [h60]; rfl) gm gla gsh grm) rfl
      · have hput := sh_put hs.w9 hsh hx hq
        have hio : ShOk h (c + 1) (insF N (cntB X x c) c (some a)) (insF X (cntB X x c) c x) := ins_ok hok ga hjc
        refine ⟨⟨_, go⟩, _, c_put G rec n4 n5 n6 hq (by omega) go hc gk gn hok ga gc, fun v h1 p1 => ?_⟩
        obtain ⟨q1, q2, q3, q4, q5⟩ := p1
        obtain ⟨M1, U1, kn1⟩ := cframe (h1 := h1) C M d1 d2 U (fun q _ _ _ _ _ p4 p5 p6 => q5 q p4 p5 p6)
        have M1' := M1
        obtain ⟨-, -, -, -, -, -, -, -, -, -, ⟨thr1, ppm1, wr1, gm1⟩, gsa1, ⟨w1, gnw1⟩, gla1, gsh1, grm1, gbf1⟩ := M1'
        have C1 : CS G h1 o0 r sgn k0 nb rc (c + 1) z lt (some a) tol f (insF R (cntB X x c) c rec) (insF N (cntB X x c) c (some a)) (insF X (cntB X x c) c x) := ⟨n1, n2, n3, n4, n5, n6, d0, (q5 o0 (ne_of_cells go gk (by simp)) (ne_of_cells go gn (by simp)) (ne_of_cells go gc (by simp))).trans go, ⟨pp, (q5 r (ne_of_cells gr gk (by simp)) (ne_of_cells gr gn (by simp)) (ne_of_cells gr gc (by simp))).trans gr⟩, (q5 sgn (ne_of_cells gs gk (by simp)) (ne_of_cells gs gn (by simp)) d0).trans gs, q2, q3, q4, hio.keep kn1⟩
        refine ⟨⟨_, gm1⟩, _, m_put G rec m1 m5 m6 (by omega) hjc hpl hns gm1 gla1 gsh1 grm1, fun u h2 p2 => ?_⟩
        obtain ⟨r1, r2, r3, r4, r5⟩ := p2
        refine ⟨by rw [q1, r1], ?_⟩
        obtain ⟨C2, U2, kn2⟩ := mframe (h1 := h2) C1 M1 d1 d2 U1 (fun q p1 _ _ _ p5 p6 _ => r5 q p1 p5 p6)
        have M2 : MS G h2 m0 sa nw la sh rcm bf (c + 1) z lt 1 ps g A (cpR (shUI H (cntB X x c) c 0) (cntB X x c) A 40) B (insF R (cntB X x c) c rec) := ⟨m1, m2, m3, m4, m5, m6, m7, m8, m9, m10, ⟨_, _, _, r2⟩, (r5 sa (ne_of_cells gsa1 gm1 (by simp)) (ne_of_cells gsa1 gsh1 (by simp)) (ne_of_cells gsa1 grm1 (by simp))).trans gsa1, ⟨w1, (r5 nw (ne_of_cells gnw1 gm1 (by simp)) (ne_of_cells gnw1 gsh1 (by simp)) (ne_of_cells gnw1 grm1 (by simp))).trans gnw1⟩, (r5 la (ne_of_cells gla1 gm1 (by simp)) (ne_of_cells gla1 gsh1 (by simp)) (ne_of_cells gla1 grm1 (by simp))).trans gla1, r3, r4, (r5 bf (ne_of_cells gbf1 gm1 (by simp)) (ne_of_cells gbf1 gsh1 (by simp)) (ne_of_cells gbf1 grm1 (by simp))).trans gbf1⟩
        exact ⟨lt, e, w, r, sgn, k0, nb, rc, c + 1, z, some a, tol, f, _, _, _, sa, nw, la, sh, rcm, bf, 1, ps, g, A, _, B, hs, by omega, hz, d1, d2, C2, M2, U2, hfg, hput, (hlr.keep kn1).keep kn2, (ht.keep kn1).keep kn2⟩
theorem has_nI {c : Nat} (hc : c ≤ 60) {p : Int32} (h : sHas c p = true) : ∃ j, j < c ∧ p = nI j := by
  obtain ⟨j, h1, h2, h3⟩ := has_nat h
  exact ⟨j, h1, Int32.toInt_inj.mp (by rw [h2, nI_toInt (by omega)])⟩
theorem pair_take (hI : LawI G h o0 m0 ou) (p : Int32) : PairI G M_X3_take M_X4_take [.int p] h o0 m0 ou := by
  obtain ⟨lt, e, w, r, sgn, k0, nb, rc, c, z, lat, tol, f, R, N, X, sa, nw, la, sh, rcm, bf, th, ps, g, A, H, B, I⟩ := hI
  have I' := I
  obtain ⟨hs, hc, hz, d1, d2, C, M, U, hfg, hsh, hl, ht⟩ := I'
  have C' := C
  have M' := M
  obtain ⟨n1, n2, n3, n4, n5, n6, d0, go, ⟨pp, gr⟩, gs, gk, gn, gc, hok⟩ := C'
  obtain ⟨m1, m2, m3, m4, m5, m6, m7, m8, m9, m10, ⟨thr, ppm, wr, gm⟩, gsa, ⟨w0, gnw⟩, gla, gsh, grm, gbf⟩ := M'
  cases hq : sHas c p with
  | false => exact PairI.pure I (c_takeNot G p hq go hc gk gc) (m_takeX G p m1 hq hc gm) rfl
  | true =>
    obtain ⟨j, hj, rfl⟩ := has_nI hc hq
    obtain ⟨c1, rfl⟩ : ∃ c1, c = c1 + 1 := ⟨c - 1, by omega⟩
    have htk := sh_take hsh (j := j) (by omega)
    have hro : ShOk h c1 (remF N j (c1 + 1)) (shD X j c1) := rem_ok hok (by omega)
    refine ⟨⟨_, go⟩, _, c_take G j n4 n5 n6 hj go hc gk gn gc hok, fun v h1 p1 => ?_⟩
    obtain ⟨q1, q2, q3, q4, q5⟩ := p1
    obtain ⟨M1, U1, kn1⟩ := cframe (h1 := h1) C M d1 d2 U (fun q _ _ _ _ _ p4 p5 p6 => q5 q p4 p5 p6)
    have M1' := M1
    obtain ⟨-, -, -, -, -, -, -, -, -, -, ⟨thr1, ppm1, wr1, gm1⟩, gsa1, ⟨w1, gnw1⟩, gla1, gsh1, grm1, gbf1⟩ := M1'
    have C1 : CS G h1 o0 r sgn k0 nb rc c1 z lt lat tol f (shD R j c1) (remF N j (c1 + 1)) (shD X j c1) := ⟨n1, n2, n3, n4, n5, n6, d0, (q5 o0 (ne_of_cells go gk (by simp)) (ne_of_cells go gn (by simp)) (ne_of_cells go gc (by simp))).trans go, ⟨pp, (q5 r (ne_of_cells gr gk (by simp)) (ne_of_cells gr gn (by simp)) (ne_of_cells gr gc (by simp))).trans gr⟩, (q5 sgn (ne_of_cells gs gk (by simp)) (ne_of_cells gs gn (by simp)) d0).trans gs, q2, q3, q4, hro.keep kn1⟩
    refine ⟨⟨_, gm1⟩, _, m_take G m1 m5 m6 (by omega) (by omega) gm1 gsh1 grm1, fun u h2 p2 => ?_⟩
    obtain ⟨r1, r2, r3, r4, r5⟩ := p2
    refine ⟨by rw [q1, r1], ?_⟩
    obtain ⟨C2, U2, kn2⟩ := mframe (h1 := h2) C1 M1 d1 d2 U1 (fun q p1 _ _ _ p5 p6 _ => r5 q p1 p5 p6)
    have M2 : MS G h2 m0 sa nw la sh rcm bf c1 z lt th ps g A (shDI H j c1 0) B (shD R j c1) := ⟨m1, m2, m3, m4, m5, m6, m7, m8, m9, m10, ⟨_, _, _, r2⟩, (r5 sa (ne_of_cells gsa1 gm1 (by simp)) (ne_of_cells gsa1 gsh1 (by simp)) (ne_of_cells gsa1 grm1 (by simp))).trans gsa1, ⟨w1, (r5 nw (ne_of_cells gnw1 gm1 (by simp)) (ne_of_cells gnw1 gsh1 (by simp)) (ne_of_cells gnw1 grm1 (by simp))).trans gnw1⟩, (r5 la (ne_of_cells gla1 gm1 (by simp)) (ne_of_cells gla1 gsh1 (by simp)) (ne_of_cells gla1 grm1 (by simp))).trans gla1, r3, r4, (r5 bf (ne_of_cells gbf1 gm1 (by simp)) (ne_of_cells gbf1 gsh1 (by simp)) (ne_of_cells gbf1 grm1 (by simp))).trans gbf1⟩
    exact ⟨lt, e, w, r, sgn, k0, nb, rc, c1, z, lat, tol, f, _, _, _, sa, nw, la, sh, rcm, bf, th, ps, g, A, _, B, hs, by omega, hz, d1, d2, C2, M2, U2, hfg, htk, (hl.keep kn1).keep kn2, (ht.keep kn1).keep kn2⟩
theorem pair_pass (hI : LawI G h o0 m0 ou) (rec : Int32) : PairI G M_X3_pass M_X4_pass [.int rec] h o0 m0 ou := by
  obtain ⟨lt, e, w, r, sgn, k0, nb, rc, c, z, lat, tol, f, R, N, X, sa, nw, la, sh, rcm, bf, th, ps, g, A, H, B, I⟩ := hI
  have I' := I
  obtain ⟨hs, hc, hz, d1, d2, C, M, U, hfg, hsh, hl, ht⟩ := I'
  have C' := C
  have M' := M
  obtain ⟨n1, n2, n3, n4, n5, n6, d0, go, ⟨pp, gr⟩, gs, gk, gn, gc, hok⟩ := C'
  obtain ⟨m1, m2, m3, m4, m5, m6, m7, m8, m9, m10, ⟨thr, ppm, wr, gm⟩, gsa, ⟨w0, gnw⟩, gla, gsh, grm, gbf⟩ := M'
  rcases first_cases R rec c 0 with ⟨p1, p2⟩ | ⟨j, -, p2, p3, p4, p5⟩
  · exact PairI.pure I (c_passNot G rec p1 go hc gk gn gc) (m_passN G m1 hc (fun i hi => p2 i (by omega) (by omega)) gm grm) rfl
  · rw [Nat.zero_add] at p2
    obtain ⟨a, ln, hN, ga⟩ := hok j p2
    have hxj := hsh.1 j p2
    have p5' : ∀ i, i < j → ¬ R i = rec := fun i hi => p5 i (by omega) hi
    have fin : ∀ (v : Int32) (h1 : qH), (h1 o0 = some (csCell r k0 lat (some a)) ∧ ∀ b : Nat, b ≠ o0 → h1 b = h b) → MS G h1 m0 sa nw la sh rcm bf c z lt th ps g A H B R ∧ ∀ (h2 : qH), ((∃ thr pp wr, h2 m0 = some (mdCell thr lt sa (nI z) nw la th sh rcm (nI c) bf 1 pp wr)) ∧ h2 bf = some (rwCell (cpW (mRow H j) B 40)) ∧ ∀ b : Nat, b ≠ m0 → b ≠ bf → h2 b = h1 b) → LawI G h2 o0 m0 ou := fun v h1 q => by
      obtain ⟨q2, q5⟩ := q
      obtain ⟨M1, U1, kn1⟩ := cframe (h1 := h1) C M d1 d2 U (fun q _ _ p1 _ _ _ _ _ => q5 q p1)
      refine ⟨M1, fun h2 p => ?_⟩
      obtain ⟨-, -, -, -, -, -, -, -, -, -, ⟨thr1, ppm1, wr1, gm1⟩, gsa1, ⟨w1, gnw1⟩, gla1, gsh1, grm1, gbf1⟩ := id M1
      obtain ⟨⟨thr2, pp2, wr2, r2⟩, r3, r5⟩ := p
      have C1 : CS G h1 o0 r sgn k0 nb rc c z lt lat (some a) f R N X := ⟨n1, n2, n3, n4, n5, n6, d0, q2, ⟨pp, (q5 r (ne_of_cells gr go (by simp))).trans gr⟩, (q5 sgn (ne_of_cells gs go (by simp))).trans gs, (q5 k0 (ne_of_cells gk go (by simp))).trans gk, (q5 nb (ne_of_cells gn go (by simp))).trans gn, (q5 rc (ne_of_cells gc go (by simp))).trans gc, hok.keep kn1⟩
      obtain ⟨C2, U2, kn2⟩ := mframe (h1 := h2) C1 M1 d1 d2 U1 (fun q p1 _ _ _ _ _ p7 => r5 q p1 p7)
      have M2 : MS G h2 m0 sa nw la sh rcm bf c z lt th 1 g A H (cpW (mRow H j) B 40) R := ⟨m1, m2, m3, m4, m5, m6, m7, m8, m9, m10, ⟨_, _, _, r2⟩, (r5 sa (ne_of_cells gsa1 gm1 (by simp)) (ne_of_cells gsa1 gbf1 (by simp))).trans gsa1, ⟨w1, (r5 nw (ne_of_cells gnw1 gm1 (by simp)) m9).trans gnw1⟩, (r5 la (ne_of_cells gla1 gm1 (by simp)) m10).trans gla1, (r5 sh (ne_of_cells gsh1 gm1 (by simp)) (ne_of_cells gsh1 gbf1 (by simp))).trans gsh1, (r5 rcm (ne_of_cells grm1 gm1 (by simp)) (ne_of_cells grm1 gbf1 (by simp))).trans grm1, r3⟩
      have ht1 : TolR h1 e w (some a) 1 (cpW (mRow H j) B 40) := Or.inr ⟨a, ln, X j, rfl, rfl, (kn1 a (Or.inl ⟨_, _, ga⟩)).trans ga, hxj.row (fun i hi => by rw [cpW, if_pos hi])⟩
      exact ⟨lt, e, w, r, sgn, k0, nb, rc, c, z, lat, some a, f, R, N, X, sa, nw, la, sh, rcm, bf, th, 1, g, A, H, _, hs, hc, hz, d1, d2, C2, M2, U2, hfg, hsh, (hl.keep kn1).keep kn2, ht1.keep kn2⟩
    rcases ht with ⟨rfl, rfl⟩ | ⟨a2, ln2, zz, rfl, rfl, ga2, hz2⟩
    · refine ⟨⟨_, go⟩, _, c_pass0 G rec j n1 p3 p2 hN ga go hc gk gn gc, fun v h1 q => ?_⟩
      obtain ⟨q1, q2⟩ := q
      obtain ⟨M1, k2⟩ := fin v h1 q2
      obtain ⟨-, -, -, -, -, -, -, -, -, -, ⟨thr1, ppm1, wr1, gm1⟩, gsa1, ⟨w1, gnw1⟩, gla1, gsh1, grm1, gbf1⟩ := id M1
      refine ⟨⟨_, gm1⟩, _, m_pass0 G m1 m7 hc p2 p4 p5' gm1 gsh1 gbf1 grm1, fun u h2 p => ?_⟩
      obtain ⟨r1, r2, r3, r4⟩ := p
      exact ⟨by rw [q1, r1], k2 h2 ⟨⟨_, _, _, r2⟩, r3, r4⟩⟩
    · have ho : sOrder zz (X j) = mLex B (mRow H j) 34 0 := hz2.ord hs.w9 hxj
      refine ⟨⟨_, go⟩, _, c_pass1 G rec j n1 p3 p2 hN ga ga2 go hc gk gn gc, fun v h1 q => ?_⟩
      obtain ⟨q1, q2⟩ := q
      obtain ⟨M1, k2⟩ := fin v h1 q2
      obtain ⟨-, -, -, -, -, -, -, -, -, -, ⟨thr1, ppm1, wr1, gm1⟩, gsa1, ⟨w1, gnw1⟩, gla1, gsh1, grm1, gbf1⟩ := id M1
      refine ⟨⟨_, gm1⟩, _, m_pass1 G m1 m7 hc p2 p4 p5' gm1 gsh1 gbf1 grm1, fun u h2 p => ?_⟩
      obtain ⟨r1, r2, r3, r4⟩ := p
      exact ⟨by rw [q1, r1, ans_lex, ho], k2 h2 ⟨⟨_, _, _, r2⟩, r3, r4⟩⟩
end PR2
