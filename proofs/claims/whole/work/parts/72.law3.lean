/-! ===== the law: sign, read ===== -/
theorem by_and (x : Int32) : x.toInt8.toInt32 &&& 255 = x &&& 255 := by
  refine Int32.toBitVec_inj.mp (BitVec.eq_of_getLsbD_eq fun i hi => ?_)
  rw [Int32.toBitVec_and, Int32.toBitVec_and, BitVec.getLsbD_and, BitVec.getLsbD_and]
  by_cases q : i < 8
  · congr 1
    rw [Int8.toBitVec_toInt32, Int32.toBitVec_toInt8, BitVec.getLsbD_signExtend, BitVec.getLsbD_signExtend, if_pos q, if_pos hi, decide_eq_true hi, decide_eq_true q]
    rfl
  · have z : ∀ i < 32, ¬ i < 8 → (255 : Int32).toBitVec.getLsbD i = false := by decide
    rw [z i hi q, Bool.and_false, Bool.and_false]
theorem by_b (x : Int32) : (x &&& 255).toInt8 = x.toInt8 := by
  apply Int8.toBitVec_inj.mp
  rw [Int32.toBitVec_toInt8, Int32.toBitVec_toInt8, Int32.toBitVec_and]
  apply BitVec.eq_of_getLsbD_eq
  intro i hi
  have hm : ∀ i < 8, (255 : Int32).toBitVec.getLsbD i = true := by decide
  rw [BitVec.getLsbD_signExtend, BitVec.getLsbD_signExtend, BitVec.getLsbD_and, hm i hi, Bool.and_true, if_pos (show i < 32 by omega), if_pos (show i < 32 by omega)]
theorem by_46 (t : Int8) : t.toInt32 = 46 ↔ t.toInt32 &&& 255 = 46 := by
  constructor
  · intro q; rw [q]; decide
  · intro q
    have h1 := by_b t.toInt32
    rw [q, Int8.toInt8_toInt32] at h1
    rw [← h1]; decide
theorem nar_b (x : Int32) : vp_nar .byte x.toInt8.toInt32 = x.toInt8.toInt32 := by
  show (x.toInt8.toInt32).toInt8.toInt32 = _
  rw [Int8.toInt8_toInt32]
def PairV (G : qG) (MC MM : qM) (As : List Value) (h : qH) (o0 m0 ou : Nat) : Prop := (∃ fs, h o0 = some (.inr (4, fs))) ∧ ∃ Qc : qH → Prop, qMet G MC (.ref o0 :: As) h (qV Qc) ∧ ∀ h1, Qc h1 → (∃ fs, h1 m0 = some (.inr (5, fs))) ∧ ∃ Qm : qH → Prop, qMet G MM (.ref m0 :: As) h1 (qV Qm) ∧ ∀ h2, Qm h2 → LawI G h2 o0 m0 ou
section PR3
variable {G : qG} {h : qH} {o0 m0 ou : Nat}
theorem pair_sign (hI : LawI G h o0 m0 ou) (ch : Int32) : PairV G M_X3_sign M_X4_sign [.int ch] h o0 m0 ou := by
  obtain ⟨lt, e, w, r, sgn, k0, nb, rc, c, z, lat, tol, f, R, N, X, sa, nw, la, sh, rcm, bf, th, ps, g, A, H, B, I⟩ := hI
  have I' := I
  obtain ⟨hs, hc, hz, d1, d2, C, M, U, hfg, hsh, hl, ht⟩ := I'
  have C' := C
  have M' := M
  obtain ⟨n1, n2, n3, n4, n5, n6, d0, go, ⟨pp, gr⟩, gs, gk, gn, gc, hok⟩ := C'
  obtain ⟨m1, m2, m3, m4, m5, m6, m7, m8, m9, m10, ⟨thr, ppm, wr, gm⟩, gsa, ⟨w0, gnw⟩, gla, gsh, grm, gbf⟩ := M'
  by_cases h60 : z = 60
  · refine ⟨⟨_, go⟩, _, c_signFull G ch h60 go gr gs, fun h1 q1 => ?_⟩
    rw [q1]
    refine ⟨⟨_, gm⟩, _, m_signFull G ch m1 h60 gm, fun h2 q2 => ?_⟩
    exact I.own q2.1 q2.2
  · refine ⟨⟨_, go⟩, _, c_sign G ch n2 n3 (by omega) go gr gs, fun h1 q1 => ?_⟩
    obtain ⟨q2, q3, q5⟩ := q1
    obtain ⟨M1, U1, kn1⟩ := cframe (h1 := h1) C M d1 d2 U (fun q _ _ _ p2 p3 _ _ _ => q5 q p2 p3)
    have C1 : CS G h1 o0 r sgn k0 nb rc c (z + 1) lt lat tol (upd f z (ch &&& 255)) R N X := ⟨n1, n2, n3, n4, n5, n6, d0, (q5 o0 (ne_of_cells go gr (by simp)) (ne_of_cells go gs (by simp))).trans go, ⟨_, q2⟩, q3, (q5 k0 (ne_of_cells gk gr (by simp)) (ne_of_cells gk gs (by simp))).trans gk, (q5 nb (ne_of_cells gn gr (by simp)) (ne_of_cells gn gs (by simp))).trans gn, (q5 rc (ne_of_cells gc gr (by simp)) (Ne.symm d0)).trans gc, hok.keep kn1⟩
    obtain ⟨-, -, -, -, -, -, -, -, -, -, ⟨thr1, ppm1, wr1, gm1⟩, gsa1, ⟨w1, gnw1⟩, gla1, gsh1, grm1, gbf1⟩ := id M1
    refine ⟨⟨_, gm1⟩, _, m_sign G ch m1 m2 (by omega) gm1 gsa1, fun h2 p2 => ?_⟩
    obtain ⟨r2, r3, r5⟩ := p2
    obtain ⟨C2, U2, kn2⟩ := mframe (h1 := h2) C1 M1 d1 d2 U1 (fun q p1 p2 _ _ _ _ _ => r5 q p1 p2)
    have M2 : MS G h2 m0 sa nw la sh rcm bf c (z + 1) lt th ps (upd g z (vp_nar .byte ch.toInt8.toInt32)) A H B R := ⟨m1, m2, m3, m4, m5, m6, m7, m8, m9, m10, ⟨_, _, _, r2⟩, r3, ⟨w1, (r5 nw (ne_of_cells gnw1 gm1 (by simp)) (ne_of_cells gnw1 gsa1 (by simp))).trans gnw1⟩, (r5 la (ne_of_cells gla1 gm1 (by simp)) (ne_of_cells gla1 gsa1 (by simp))).trans gla1, (r5 sh (ne_of_cells gsh1 gm1 (by simp)) (ne_of_cells gsh1 gsa1 (by simp))).trans gsh1, (r5 rcm (ne_of_cells grm1 gm1 (by simp)) (ne_of_cells grm1 gsa1 (by simp))).trans grm1, (r5 bf (ne_of_cells gbf1 gm1 (by simp)) (ne_of_cells gbf1 gsa1 (by simp))).trans gbf1⟩
    refine ⟨lt, e, w, r, sgn, k0, nb, rc, c, z + 1, lat, tol, _, R, N, X, sa, nw, la, sh, rcm, bf, th, ps, _, A, H, B, hs, hc, by omega, d1, d2, C2, M2, U2, fun i hi => ?_, hsh, (hl.keep kn1).keep kn2, (ht.keep kn1).keep kn2⟩
    by_cases q : i = z
    · subst q
      rw [pk_us, pk_us, nar_b]
      exact ⟨(by_and ch).symm, by_46 _⟩
    · rw [pk_un q, pk_un q]
      exact hfg i (by omega)
theorem read_fin {h1 : qH} {lt : Int32} {e w r sgn k0 nb rc c z : Nat} {lat tol : Option Nat} {f R : Nat → Int32} {N : Nat → Option Nat} {X : Nat → CNv} {sa nw la sh rcm bf : Nat} {th ps : Int32} {g A H B : Nat → Int32} (I : LI G h o0 m0 ou lt e w r sgn k0 nb rc c z lat tol f R N X sa nw la sh rcm bf th ps g A H B) {n ln : Nat} (fn : h n = none) (fl : h ln = none) {v : Int32} {o : ROut} (hr : RdRes h h1 lt o0 r sgn k0 n ln tol v o) : MS G h1 m0 sa nw la sh rcm bf c z lt th ps g A H B R ∧ ∀ (m : MOut) (u : Int32) (h2 : qH), OutR e w o m → MdRes h1 h2 lt th (nI c) ps m0 sa nw la sh rcm bf A u m → v = u ∧ LawI G h2 o0 m0 ou := by
  obtain ⟨hs, hc, hz, d1, d2, C, M, U, hfg, hsh, hl, ht⟩ := I
  obtain ⟨n1, n2, n3, n4, n5, n6, d0, go, ⟨pp, gr⟩, gs, gk, gn, gc, hok⟩ := id C
  obtain ⟨m1, m2, m3, m4, m5, m6, m7, m8, m9, m10, ⟨thr, ppm, wr, gm⟩, gsa, ⟨w0, gnw⟩, gla, gsh, grm, gbf⟩ := id M
  have nz : ∀ {q : Nat} {x : qE}, h q = some x → q ≠ n ∧ q ≠ ln := fun hq => ⟨ne_of_none hq fn, ne_of_none hq fl⟩
  cases o with
  | inl p =>
    obtain ⟨q1, q2, q5⟩ := hr
    obtain ⟨M1, U1, kn1⟩ := cframe (h1 := h1) C M d1 d2 U (fun q _ hq _ p2 _ _ _ _ => q5 q p2 (nz hq).1 (nz hq).2)
    refine ⟨M1, fun m u h2 hO hm => ?_⟩
    have k1 : ∀ {q : Nat} {x : qE}, h q = some x → q ≠ r → h1 q = some x := fun hq h3 => (q5 _ h3 (nz hq).1 (nz hq).2).trans hq
    have C1 : CS G h1 o0 r sgn k0 nb rc c 0 lt lat tol f R N X := ⟨n1, n2, n3, n4, n5, n6, d0, k1 go (ne_of_cells go gr (by simp)), ⟨_, q2⟩, k1 gs (ne_of_cells gs gr (by simp)), k1 gk (ne_of_cells gk gr (by simp)), k1 gn (ne_of_cells gn gr (by simp)), k1 gc (ne_of_cells gc gr (by simp)), hok.keep kn1⟩
    obtain ⟨-, -, -, -, -, -, -, -, -, -, ⟨thr1, ppm1, wr1, gm1⟩, gsa1, ⟨w1, gnw1⟩, gla1, gsh1, grm1, gbf1⟩ := id M1
    cases m with
    | inr v' => exact absurd hO (fun q => q)
    | inl q =>
      have hO' : p = q := hO
      obtain ⟨r1, ⟨pp2, w2, r2, r3⟩, r5⟩ := hm
      obtain ⟨C2, U2, kn2⟩ := mframe (h1 := h2) C1 M1 d1 d2 U1 (fun q p1 _ p3 _ _ _ _ => r5 q p1 p3)
      have M2 : MS G h2 m0 sa nw la sh rcm bf c 0 lt th ps g A H B R := ⟨m1, m2, m3, m4, m5, m6, m7, m8, m9, m10, ⟨_, _, _, r2⟩, (r5 sa (ne_of_cells gsa1 gm1 (by simp)) (ne_of_cells gsa1 gnw1 (by simp))).trans gsa1, ⟨w2, r3⟩, (r5 la (ne_of_cells gla1 gm1 (by simp)) (Ne.symm m8)).trans gla1, (r5 sh (ne_of_cells gsh1 gm1 (by simp)) (ne_of_cells gsh1 gnw1 (by simp))).trans gsh1, (r5 rcm (ne_of_cells grm1 gm1 (by simp)) (ne_of_cells grm1 gnw1 (by simp))).trans grm1, (r5 bf (ne_of_cells gbf1 gm1 (by simp)) (Ne.symm m9)).trans gbf1⟩
      exact ⟨by rw [q1, r1, hO'], lt, e, w, r, sgn, k0, nb, rc, c, 0, lat, tol, f, R, N, X, sa, nw, la, sh, rcm, bf, th, ps, g, A, H, B, hs, hc, by omega, d1, d2, C2, M2, U2, fun i hi => absurd hi (by omega), hsh, (hl.keep kn1).keep kn2, (ht.keep kn1).keep kn2⟩
  | inr y =>
    obtain ⟨q1, q2, q3, qn, ql, q5⟩ := hr
    obtain ⟨M1, U1, kn1⟩ := cframe (h1 := h1) C M d1 d2 U (fun q _ hq p1 p2 _ _ _ _ => q5 q p1 p2 (nz hq).1 (nz hq).2)
    refine ⟨M1, fun m u h2 hO hm => ?_⟩
    have k1 : ∀ {q : Nat} {x : qE}, h q = some x → q ≠ o0 → q ≠ r → h1 q = some x := fun hq h2 h3 => (q5 _ h2 h3 (nz hq).1 (nz hq).2).trans hq
    have C1 : CS G h1 o0 r sgn k0 nb rc c 0 lt (some n) tol f R N X := ⟨n1, n2, n3, n4, n5, n6, d0, q3, ⟨_, q2⟩, k1 gs (ne_of_cells gs go (by simp)) (ne_of_cells gs gr (by simp)), k1 gk (ne_of_cells gk go (by simp)) (ne_of_cells gk gr (by simp)), k1 gn (ne_of_cells gn go (by simp)) (ne_of_cells gn gr (by simp)), k1 gc (ne_of_cells gc go (by simp)) (ne_of_cells gc gr (by simp)), hok.keep kn1⟩
    obtain ⟨-, -, -, -, -, -, -, -, -, -, ⟨thr1, ppm1, wr1, gm1⟩, gsa1, ⟨w1, gnw1⟩, gla1, gsh1, grm1, gbf1⟩ := id M1
    cases m with
    | inl v' => exact absurd hO (fun q => q)
    | inr v' =>
      obtain ⟨-, a, hRel, hRow⟩ := hO
      obtain ⟨r1, ⟨pp2, wr2, r2⟩, r3, r4, r5⟩ := hm
      obtain ⟨C2, U2, kn2⟩ := mframe (h1 := h2) C1 M1 d1 d2 U1 (fun q p1 _ p3 p4 _ _ _ => r5 q p1 p3 p4)
      have M2 : MS G h2 m0 sa nw la sh rcm bf c 0 lt 1 ps g (cpW v'.2 A 40) H B R := ⟨m1, m2, m3, m4, m5, m6, m7, m8, m9, m10, ⟨_, _, _, r2⟩, (r5 sa (ne_of_cells gsa1 gm1 (by simp)) (ne_of_cells gsa1 gnw1 (by simp)) (ne_of_cells gsa1 gla1 (by simp))).trans gsa1, ⟨_, r3⟩, r4, (r5 sh (ne_of_cells gsh1 gm1 (by simp)) (ne_of_cells gsh1 gnw1 (by simp)) (ne_of_cells gsh1 gla1 (by simp))).trans gsh1, (r5 rcm (ne_of_cells grm1 gm1 (by simp)) (ne_of_cells grm1 gnw1 (by simp)) (ne_of_cells grm1 gla1 (by simp))).trans grm1, (r5 bf (ne_of_cells gbf1 gm1 (by simp)) (Ne.symm m9) (Ne.symm m10)).trans gbf1⟩
      have hl1 : LatR h1 e w (some n) 1 (cpW v'.2 A 40) := Or.inr ⟨n, ln, y.2.1, y.2.2, a, rfl, rfl, qn, ql, hRel, fun i hi => by rw [cpW, if_pos hi]; exact hRow i hi⟩
      exact ⟨by rw [q1, r1, rel_count hRel, hRow 34 (by omega)], lt, e, w, r, sgn, k0, nb, rc, c, 0, some n, tol, f, R, N, X, sa, nw, la, sh, rcm, bf, 1, ps, g, _, H, B, hs, hc, by omega, d1, d2, C2, M2, U2, fun i hi => absurd hi (by omega), hsh, hl1.keep kn2, (ht.keep kn1).keep kn2⟩
theorem sg_sm {z : Nat} {f g : Nat → Int32} (h : SgR z f g) : Sg z f = Sm z g := by
  funext p
  rw [Sg, Sm]
  by_cases q : p < z
  · rw [if_pos q, if_pos q, (h p q).1]
  · rw [if_neg q, if_neg q]
theorem sg_end (z : Nat) (f : Nat → Int32) : ∀ q, z ≤ q → Sg z f q = -1 := fun q h => by rw [Sg, if_neg (by omega)]
theorem pair_read (hI : LawI G h o0 m0 ou) : PairI G M_X3_read M_X4_read [] h o0 m0 ou := by
  obtain ⟨lt, e, w, r, sgn, k0, nb, rc, c, z, lat, tol, f, R, N, X, sa, nw, la, sh, rcm, bf, th, ps, g, A, H, B, I⟩ := hI
  have I' := I
  obtain ⟨hs, hc, hz, d1, d2, C, M, U, hfg, hsh, hl, ht⟩ := I'
  obtain ⟨n1, n2, n3, n4, n5, n6, d0, go, ⟨pp, gr⟩, gs, gk, gn, gc, hok⟩ := C
  have hby : ∀ i, i < z → (g i = 46 ↔ g i &&& 255 = 46) := fun i hi => (hfg i hi).2
  rcases hs with ⟨rfl, rfl, rfl⟩ | ⟨rfl, rfl, rfl⟩
  · refine ⟨⟨_, go⟩, _, c_readD G n1 n2 hz go gr gs, fun v h1 q1 => ?_⟩
    obtain ⟨n, ln, -, -, fn, fl, -, hr⟩ := q1
    obtain ⟨M1, k2⟩ := read_fin I fn fl hr
    obtain ⟨m1, m2, m3, m4, m5, m6, m7, m8, m9, m10, ⟨thr, ppm, wr, gm⟩, gsa, ⟨w0, gnw⟩, gla, gsh, grm, gbf⟩ := M1
    refine ⟨⟨_, gm⟩, _, m_read0 G m1 m3 m4 m8 hz hby gm gsa gnw gla, fun u h2 q2 => k2 _ u h2 ?_ q2⟩
    rw [sg_sm hfg]
    exact all0 (by rw [← sg_sm hfg]; exact sg_end z f) w0
  · refine ⟨⟨_, go⟩, _, c_readL G n1 n2 hz go gr gs, fun v h1 q1 => ?_⟩
    obtain ⟨n, ln, -, -, fn, fl, -, hr⟩ := q1
    obtain ⟨M1, k2⟩ := read_fin I fn fl hr
    obtain ⟨m1, m2, m3, m4, m5, m6, m7, m8, m9, m10, ⟨thr, ppm, wr, gm⟩, gsa, ⟨w0, gnw⟩, gla, gsh, grm, gbf⟩ := M1
    refine ⟨⟨_, gm⟩, _, m_read1 G m1 m3 m4 m8 hz hby gm gsa gnw gla, fun u h2 q2 => k2 _ u h2 ?_ q2⟩
    rw [sg_sm hfg]
    exact all1 (by rw [← sg_sm hfg]; exact sg_end z f) w0
end PR3
