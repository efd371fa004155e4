def sRest (S : Nat → Int32) (c : Nat) : Nat → Int32 → Nat → Nat → CNv → (Nat → Int32) → ROut
  | 0, _, p, _, x, fl => if p < c then .inl p else .inr (p, x, fl)
  | t + 1, l, p, k, x, fl => if p < c then (if (sSpace S p).1 = false then .inl (sSpace S p).2 else if sBegins S (sSpace S p).2 ≤ l then .inl (sSpace S p).2 else oThen (if sBegins S (sSpace S p).2 = 2 then sYear S (sSpace S p).2 k x fl else if sBegins S (sSpace S p).2 = 3 then sVolume S (sSpace S p).2 k x fl else sMark S (sSpace S p).2 k x fl) (fun q y g => sRest S c t (sBegins S (sSpace S p).2) q (k + 1) y g)) else .inr (p, x, fl)
theorem sRest_s (S : Nat → Int32) (c t : Nat) (l : Int32) (p k : Nat) (x : CNv) (fl : Nat → Int32) : sRest S c (t + 1) l p k x fl = if p < c then (if (sSpace S p).1 = false then .inl (sSpace S p).2 else if sBegins S (sSpace S p).2 ≤ l then .inl (sSpace S p).2 else oThen (if sBegins S (sSpace S p).2 = 2 then sYear S (sSpace S p).2 k x fl else if sBegins S (sSpace S p).2 = 3 then sVolume S (sSpace S p).2 k x fl else sMark S (sSpace S p).2 k x fl) (fun q y g => sRest S c t (sBegins S (sSpace S p).2) q (k + 1) y g)) else .inr (p, x, fl) := rfl
theorem sBegins_val (S : Nat → Int32) (p : Nat) : sBegins S p = 2 ∨ sBegins S p = 3 ∨ sBegins S p = 4 ∨ sBegins S p = -1 := by
  simp only [sBegins]
  split
  · exact Or.inl rfl
  · split
    · exact Or.inr (Or.inl rfl)
    · split
      · exact Or.inr (Or.inr (Or.inl rfl))
      · exact Or.inr (Or.inr (Or.inr rfl))
theorem begins_nat {S : Nat → Int32} {p l : Nat} {B : Int32} (eB : B = sBegins S p) (hl : l ≤ 4) (h : nI l < B) : ∃ m : Nat, B = nI m ∧ l < m ∧ m ≤ 4 := by
  rcases sBegins_val S p with e | e | e | e <;> rw [e] at eB <;> subst eB
  · exact ⟨2, rfl, (nI_ltI (b := 2) (by omega) (by decide)).mp h, by decide⟩
  · exact ⟨3, rfl, (nI_ltI (b := 3) (by omega) (by decide)).mp h, by decide⟩
  · exact ⟨4, rfl, (nI_ltI (b := 4) (by omega) (by decide)).mp h, by decide⟩
  · exfalso
    rw [Int32.lt_iff_toInt_lt, nI_toInt (by omega)] at h
    have : (-1 : Int32).toInt = -1 := by decide
    omega
set_option maxHeartbeats 4000000 in
set_option maxRecDepth 100000 in
theorem l_readRest {G : qG} {h0 : qH} {lt : Int32} {r sgn c n ln : Nat} {f : Nat → Int32} {R : ROut} (nr : G.2.1 ≤ r) (nn : G.2.1 ≤ n) (nl : G.2.1 ≤ ln) (hc : c ≤ 60) : ∀ (t l p k : Nat) (x : CNv) (fl : Nat → Int32) (h : qH), t ≤ 4 → p ≤ 80 → l ≤ 4 → k ≤ l + 2 → x.lc = nI k → h r = some (rdCell lt sgn (nI c) (nI p)) → h sgn = some (sgCell f) → h n = some (cnCell x ln) → h ln = some (lnCell fl) → (∀ b : Nat, b ≠ r → b ≠ n → b ≠ ln → h b = h0 b) → R = sRest (Sg c f) c t (nI l) p k x fl → QP G M_X1_readRest qTr (qMZ G M_X1_readRest (qI (fun v h1 => v = bI (oOk R) ∧ RdOut h0 h1 lt r sgn c n ln R))) 4 [some (.ref r), some (.ref n), some (.int (nI l)), some (.int (nI (5 - t))), none, none] [] h 0 0 := by
  intro t
  induction t with
  | zero =>
    intro l p k x fl h h1 hp hl hkl hk gr gs gn gl hfr hR
    refine qp_iload_n dX1_readRest_4 rfl ?_
    refine qp_iconst (v := 4) dX1_readRest_5 (by decide) ?_
    refine qp_icmp_gt 94 dX1_readRest_6 (by decide) (fun c_6 => ?_) (fun c_6 => absurd (by decide) c_6)
    refine qp_aload_n dX1_readRest_94 rfl ?_
    refine qp_getf dX1_readRest_95 fX1_23 gr rfl ?_
    refine qp_aload_n dX1_readRest_98 rfl ?_
    refine qp_getf dX1_readRest_99 fX1_19 gr rfl ?_
    refine qp_icmp_lt 109 dX1_readRest_102 (by decide) (fun c_102 => ?_) (fun c_102 => ?_)
    · refine qp_iconst (v := 0) dX1_readRest_109 (by decide) ?_
      have eR : R = .inl p := by rw [hR, sRest, if_pos ((nI_ltI (by omega) (by omega)).mp c_102)]
      exact qr_z dX1_readRest_110 rfl nar_0 rfl rfl ⟨by rw [eR]; rfl, by rw [eR]; exact ⟨gr, hfr⟩⟩
    · refine qp_iconst (v := 1) dX1_readRest_105 (by decide) ?_
      refine qp_goto 110 dX1_readRest_106 (by decide) ?_
      have eR : R = .inr (p, x, fl) := by rw [hR, sRest, if_neg (fun q => c_102 (nI_lt q (by omega)))]
      exact qr_z dX1_readRest_110 rfl nar_1 rfl rfl ⟨by rw [eR]; rfl, by rw [eR]; exact ⟨gr, gn, gl, hfr⟩⟩
  | succ n2 ih =>
    intro l p k x fl h h1 hp hl hkl hk gr gs gn gl hfr hR
    generalize ht9 : n2 + 1 = t at *
    refine qp_iload_n dX1_readRest_4 rfl ?_
    refine qp_iconst (v := 4) dX1_readRest_5 (by decide) ?_
    refine qp_icmp_gt 94 dX1_readRest_6 (by decide) (fun c_6 => ?_) (fun c_6 => ?_)
    · have ht0 : t = 0 := by have := (nI_ltI (a := 4) (by decide) (by omega)).mp c_6; omega
      refine qp_aload_n dX1_readRest_94 rfl ?_
      refine qp_getf dX1_readRest_95 fX1_23 gr rfl ?_
      refine qp_aload_n dX1_readRest_98 rfl ?_
      refine qp_getf dX1_readRest_99 fX1_19 gr rfl ?_
      refine qp_icmp_lt 109 dX1_readRest_102 (by decide) (fun c_102 => ?_) (fun c_102 => ?_)
      · refine qp_iconst (v := 0) dX1_readRest_109 (by decide) ?_
        have eR : R = .inl p := by rw [hR, show t = 0 by omega, sRest, if_pos ((nI_ltI (by omega) (by omega)).mp c_102)]
        exact qr_z dX1_readRest_110 rfl nar_0 rfl rfl ⟨by rw [eR]; rfl, by rw [eR]; exact ⟨gr, hfr⟩⟩
      · refine qp_iconst (v := 1) dX1_readRest_105 (by decide) ?_
        refine qp_goto 110 dX1_readRest_106 (by decide) ?_
        have eR : R = .inr (p, x, fl) := by rw [hR, show t = 0 by omega, sRest, if_neg (fun q => c_102 (nI_lt q (by omega)))]
        exact qr_z dX1_readRest_110 rfl nar_1 rfl rfl ⟨by rw [eR]; rfl, by rw [eR]; exact ⟨gr, gn, gl, hfr⟩⟩
    · have ht0 : 0 < t := Nat.pos_of_ne_zero fun q => c_6 (by rw [q]; decide)
      have ht1 : t = (t - 1) + 1 := by omega
      refine qp_aload_n dX1_readRest_9 rfl ?_
      refine qp_getf dX1_readRest_10 fX1_23 gr rfl ?_
      refine qp_aload_n dX1_readRest_13 rfl ?_
      refine qp_getf dX1_readRest_14 fX1_19 gr rfl ?_
      refine qp_icmp_ge 94 dX1_readRest_17 (by decide) (fun c_17 => ?_) (fun c_17 => ?_)
      · have hpc : c ≤ p := (nI_leI (by omega) (by omega)).mp c_17
        refine qp_aload_n dX1_readRest_94 rfl ?_
        refine qp_getf dX1_readRest_95 fX1_23 gr rfl ?_
        refine qp_aload_n dX1_readRest_98 rfl ?_
        refine qp_getf dX1_readRest_99 fX1_19 gr rfl ?_
        refine qp_icmp_lt 109 dX1_readRest_102 (by decide) (fun c_102 => absurd c_102 (fun q => absurd ((nI_ltI (by omega) (by omega)).mp q) (by omega))) (fun c_102 => ?_)
        refine qp_iconst (v := 1) dX1_readRest_105 (by decide) ?_
        refine qp_goto 110 dX1_readRest_106 (by decide) ?_
        have eR : R = .inr (p, x, fl) := by rw [hR, ht1, sRest_s, if_neg (by omega)]
        exact qr_z dX1_readRest_110 rfl nar_1 rfl rfl ⟨by rw [eR]; rfl, by rw [eR]; exact ⟨gr, gn, gl, hfr⟩⟩
      · have hpc : p < c := Nat.not_le.mp fun q => c_17 ((nI_leI (by omega) (by omega)).mpr q)
        refine qp_aload_n dX1_readRest_20 rfl ?_
        refine qv_Iq dX1_readRest_21 mX1_33 (c_readSpace G nr hc (by omega) gr gs) gr rfl rfl rfl rfl rfl rfl rfl (fun h3 p4 => ?_)
        have le1 := sSpace_le (Sg c f) (p)
        have ge1 := sSpace_ge (Sg c f) (p)
        rcases hd1 : sSpace (Sg c f) (p) with ⟨b1, q1⟩
        rw [hd1] at p4 le1 ge1
        dsimp only at le1 ge1
        obtain ⟨g5, o6⟩ := p4
        have g7 : h3 sgn = some (.inl (0, 60, .inl (f))) := (o6 _ (ne_of_cells gs gr (by simp))).trans gs
        have g8 : h3 n = some (.inr (1, [.int (x.cl), .int (x.cc), .long (x.cd), .int (x.cap), .int (x.cut), .int (x.cutn), .int (x.year), .int (x.vol), .int (x.voll), .long (x.mark), .int (x.markn), .ref ln, .int (x.lc)])) := (o6 _ (ne_of_cells gn gr (by simp))).trans gn
        have g9 : h3 ln = some (.inl (0, 6, .inl (fl))) := (o6 _ (ne_of_cells gl gr (by simp))).trans gl
        have g5 : h3 r = some (.inr (2, [.int (lt), .ref sgn, .int (nI c), .int (nI q1)])) := g5
        refine QP.topI (y := bI b1) rfl ?_
        refine qp_if_ne 29 dX1_readRest_24 (by decide) (fun c_24 => ?_) (fun c_24 => ?_)
        · rw [bI_n0] at c_24
          refine qp_aload_n dX1_readRest_29 rfl ?_
          refine qv_Ip dX1_readRest_30 mX1_98 (c_partThatBegins G hc (by omega) g5 g7) g5 rfl rfl rfl rfl rfl rfl rfl ?_
          refine QP.nameI (fun B eB => ?_)
          refine qp_istore dX1_readRest_33 (by decide) ?_
          refine QP.locsE (L1 := [some (.ref r), some (.ref n), some (.int (nI l)), some (.int (nI (5 - t))), some (.int (B)), none]) rfl ?_
          refine qp_iload dX1_readRest_35 rfl ?_
          refine qp_iload_n dX1_readRest_37 rfl ?_
          refine qp_icmp_gt 43 dX1_readRest_38 (by decide) (fun c_38 => ?_) (fun c_38 => ?_)
          · obtain ⟨m, hm, hlm, hm4⟩ := begins_nat eB (by omega) c_38
            refine qp_iload dX1_readRest_43 rfl ?_
            refine qp_iconst (v := 2) dX1_readRest_45 (by decide) ?_
            refine qp_icmp_ne 57 dX1_readRest_46 (by decide) (fun c_46 => ?_) (fun c_46 => ?_)
            · refine qp_iload dX1_readRest_57 rfl ?_
              refine qp_iconst (v := 3) dX1_readRest_59 (by decide) ?_
              refine qp_icmp_ne 71 dX1_readRest_60 (by decide) (fun c_60 => ?_) (fun c_60 => ?_)
              · refine qp_aload_n dX1_readRest_71 rfl ?_
                refine qp_aload_n dX1_readRest_72 rfl ?_
                refine qv_Iq dX1_readRest_73 mX1_108 (c_readMark G (p := q1) (x := x) (k := k) ⟨nr, nn, nl, hc, by omega, hk, by omega, g5, g7, g8, g9⟩) g5 rfl rfl rfl rfl rfl rfl rfl (fun h14 p15 => ?_)
                rcases hs16 : sMark (Sg c f) (q1) (k) x (fl) with w16 | ⟨q16, y16, f16⟩
                · rw [hs16] at p15
                  obtain ⟨g17, o18⟩ := p15
                  have g19 : h14 sgn = some (.inl (0, 60, .inl (f))) := (o18 _ (ne_of_cells g7 g5 (by simp)) (ne_of_cells g7 g8 (by simp)) (ne_of_cells g7 g9 (by simp))).trans g7
                  have g17 : h14 r = some (.inr (2, [.int (lt), .ref sgn, .int (nI c), .int (nI w16)])) := g17
                  refine QP.topI (y := 0) rfl ?_
                  refine qp_istore dX1_readRest_76 (by decide) ?_
                  refine QP.locsE (L1 := [some (.ref r), some (.ref n), some (.int (nI l)), some (.int (nI (5 - t))), some (.int (B)), some (.int (0))]) rfl ?_
                  refine qp_iload dX1_readRest_78 rfl ?_
                  refine qp_if_ne 85 dX1_readRest_80 (by decide) (fun c_80 => absurd rfl c_80) (fun c_80 => ?_)
                  refine qp_iconst (v := 0) dX1_readRest_83 (by decide) ?_
                  have eR : R = .inl w16 := by rw [hR, ht1, sRest_s, if_pos hpc, hd1]; dsimp only; rw [if_neg (by rw [c_24]; decide), ← eB, if_neg (i32_nle.mpr c_38), if_neg c_46, if_neg c_60, hs16]; rfl
                  exact qr_z dX1_readRest_84 rfl nar_0 rfl rfl ⟨by rw [eR]; rfl, by rw [eR]; exact ⟨g17, fun b hb1 hb2 hb3 => ((o18 b hb1 hb2 hb3).trans (o6 b hb1)).trans (hfr b hb1 hb2 hb3)⟩⟩
                · rw [hs16] at p15
                  obtain ⟨g20, g22, g23, o21⟩ := p15
                  obtain ⟨ok24, b25, b26⟩ := sMark_ok hs16
                  have g27 : h14 sgn = some (.inl (0, 60, .inl (f))) := (o21 _ (ne_of_cells g7 g5 (by simp)) (ne_of_cells g7 g8 (by simp)) (ne_of_cells g7 g9 (by simp))).trans g7
                  have g20 : h14 r = some (.inr (2, [.int (lt), .ref sgn, .int (nI c), .int (nI q16)])) := g20
                  have g22 : h14 n = some (.inr (1, [.int (y16.cl), .int (y16.cc), .long (y16.cd), .int (y16.cap), .int (y16.cut), .int (y16.cutn), .int (y16.year), .int (y16.vol), .int (y16.voll), .long (y16.mark), .int (y16.markn), .ref ln, .int (y16.lc)])) := g22
                  have g23 : h14 ln = some (.inl (0, 6, .inl (f16))) := g23
                  refine QP.topI (y := 1) rfl ?_
                  refine qp_istore dX1_readRest_76 (by decide) ?_
                  refine QP.locsE (L1 := [some (.ref r), some (.ref n), some (.int (nI l)), some (.int (nI (5 - t))), some (.int (B)), some (.int (1))]) rfl ?_
                  refine qp_iload dX1_readRest_78 rfl ?_
                  refine qp_if_ne 85 dX1_readRest_80 (by decide) (fun c_80 => ?_) (fun c_80 => absurd c_80 (by decide))
                  refine qp_iload dX1_readRest_85 rfl ?_
                  refine qp_istore_n dX1_readRest_87 (by decide) ?_
                  refine QP.locsE (L1 := [some (.ref r), some (.ref n), some (.int (B)), some (.int (nI (5 - t))), some (.int (B)), some (.int (1))]) rfl ?_
                  refine qp_iinc (v := nI (5 - (t - 1))) dX1_readRest_88 rfl (by decide) (by rw [show 5 - (t - 1) = (5 - t) + 1 by omega]; exact nI_1 _) ?_
                  refine QP.locsE (L1 := [some (.ref r), some (.ref n), some (.int (B)), some (.int (nI (5 - (t - 1)))), some (.int (B)), some (.int (1))]) rfl ?_
                  refine qp_goto 4 dX1_readRest_91 (by decide) ?_
                  rw [hm, show t - 1 = n2 by omega]
                  refine QP.forget 4 (QP.forget 5 ?_)
                  exact ih m q16 (k + 1) y16 f16 h14 (by omega) (by omega) (by omega) (by omega) ok24 g20 g27 g22 g23 (fun b hb1 hb2 hb3 => ((o21 b hb1 hb2 hb3).trans (o6 b hb1)).trans (hfr b hb1 hb2 hb3)) (by rw [hR, ht1, sRest_s, if_pos hpc, hd1]; dsimp only; rw [if_neg (by rw [c_24]; decide), ← eB, if_neg (i32_nle.mpr c_38), if_neg c_46, if_neg c_60, hs16, hm, show t - 1 = n2 by omega]; rfl)
              · refine qp_aload_n dX1_readRest_63 rfl ?_
                refine qp_aload_n dX1_readRest_64 rfl ?_
                refine qv_Iq dX1_readRest_65 mX1_105 (c_readVolume G (p := q1) (x := x) (k := k) ⟨nr, nn, nl, hc, by omega, hk, by omega, g5, g7, g8, g9⟩) g5 rfl rfl rfl rfl rfl rfl rfl (fun h29 p30 => ?_)
                rcases hs31 : sVolume (Sg c f) (q1) (k) x (fl) with w31 | ⟨q31, y31, f31⟩
                · rw [hs31] at p30
                  obtain ⟨g32, o33⟩ := p30
                  have g34 : h29 sgn = some (.inl (0, 60, .inl (f))) := (o33 _ (ne_of_cells g7 g5 (by simp)) (ne_of_cells g7 g8 (by simp)) (ne_of_cells g7 g9 (by simp))).trans g7
                  have g32 : h29 r = some (.inr (2, [.int (lt), .ref sgn, .int (nI c), .int (nI w31)])) := g32
                  refine QP.topI (y := 0) rfl ?_
                  refine qp_goto 76 dX1_readRest_68 (by decide) ?_
                  refine qp_istore dX1_readRest_76 (by decide) ?_
                  refine QP.locsE (L1 := [some (.ref r), some (.ref n), some (.int (nI l)), some (.int (nI (5 - t))), some (.int (B)), some (.int (0))]) rfl ?_
                  refine qp_iload dX1_readRest_78 rfl ?_
                  refine qp_if_ne 85 dX1_readRest_80 (by decide) (fun c_80 => absurd rfl c_80) (fun c_80 => ?_)
                  refine qp_iconst (v := 0) dX1_readRest_83 (by decide) ?_
                  have eR : R = .inl w31 := by rw [hR, ht1, sRest_s, if_pos hpc, hd1]; dsimp only; rw [if_neg (by rw [c_24]; decide), ← eB, if_neg (i32_nle.mpr c_38), if_neg c_46, if_pos c_60, hs31]; rfl
                  exact qr_z dX1_readRest_84 rfl nar_0 rfl rfl ⟨by rw [eR]; rfl, by rw [eR]; exact ⟨g32, fun b hb1 hb2 hb3 => ((o33 b hb1 hb2 hb3).trans (o6 b hb1)).trans (hfr b hb1 hb2 hb3)⟩⟩
                · rw [hs31] at p30
                  obtain ⟨g35, g37, g38, o36⟩ := p30
                  obtain ⟨ok39, b40, b41⟩ := sVolume_ok hs31
                  have g42 : h29 sgn = some (.inl (0, 60, .inl (f))) := (o36 _ (ne_of_cells g7 g5 (by simp)) (ne_of_cells g7 g8 (by simp)) (ne_of_cells g7 g9 (by simp))).trans g7
                  have g35 : h29 r = some (.inr (2, [.int (lt), .ref sgn, .int (nI c), .int (nI q31)])) := g35
                  have g37 : h29 n = some (.inr (1, [.int (y31.cl), .int (y31.cc), .long (y31.cd), .int (y31.cap), .int (y31.cut), .int (y31.cutn), .int (y31.year), .int (y31.vol), .int (y31.voll), .long (y31.mark), .int (y31.markn), .ref ln, .int (y31.lc)])) := g37
                  have g38 : h29 ln = some (.inl (0, 6, .inl (f31))) := g38
                  refine QP.topI (y := 1) rfl ?_
                  refine qp_goto 76 dX1_readRest_68 (by decide) ?_
                  refine qp_istore dX1_readRest_76 (by decide) ?_
                  refine QP.locsE (L1 := [some (.ref r), some (.ref n), some (.int (nI l)), some (.int (nI (5 - t))), some (.int (B)), some (.int (1))]) rfl ?_
                  refine qp_iload dX1_readRest_78 rfl ?_
                  refine qp_if_ne 85 dX1_readRest_80 (by decide) (fun c_80 => ?_) (fun c_80 => absurd c_80 (by decide))
                  refine qp_iload dX1_readRest_85 rfl ?_
                  refine qp_istore_n dX1_readRest_87 (by decide) ?_
                  refine QP.locsE (L1 := [some (.ref r), some (.ref n), some (.int (B)), some (.int (nI (5 - t))), some (.int (B)), some (.int (1))]) rfl ?_
                  refine qp_iinc (v := nI (5 - (t - 1))) dX1_readRest_88 rfl (by decide) (by rw [show 5 - (t - 1) = (5 - t) + 1 by omega]; exact nI_1 _) ?_
                  refine QP.locsE (L1 := [some (.ref r), some (.ref n), some (.int (B)), some (.int (nI (5 - (t - 1)))), some (.int (B)), some (.int (1))]) rfl ?_
                  refine qp_goto 4 dX1_readRest_91 (by decide) ?_
                  rw [hm, show t - 1 = n2 by omega]
                  refine QP.forget 4 (QP.forget 5 ?_)
                  exact ih m q31 (k + 1) y31 f31 h29 (by omega) (by omega) (by omega) (by omega) ok39 g35 g42 g37 g38 (fun b hb1 hb2 hb3 => ((o36 b hb1 hb2 hb3).trans (o6 b hb1)).trans (hfr b hb1 hb2 hb3)) (by rw [hR, ht1, sRest_s, if_pos hpc, hd1]; dsimp only; rw [if_neg (by rw [c_24]; decide), ← eB, if_neg (i32_nle.mpr c_38), if_neg c_46, if_pos c_60, hs31, hm, show t - 1 = n2 by omega]; rfl)
            · refine qp_aload_n dX1_readRest_49 rfl ?_
              refine qp_aload_n dX1_readRest_50 rfl ?_
              refine qv_Iq dX1_readRest_51 mX1_102 (c_readYear G (p := q1) (x := x) (k := k) ⟨nr, nn, nl, hc, by omega, hk, by omega, g5, g7, g8, g9⟩) g5 rfl rfl rfl rfl rfl rfl rfl (fun h44 p45 => ?_)
              rcases hs46 : sYear (Sg c f) (q1) (k) x (fl) with w46 | ⟨q46, y46, f46⟩
              · rw [hs46] at p45
                obtain ⟨g47, o48⟩ := p45
                have g49 : h44 sgn = some (.inl (0, 60, .inl (f))) := (o48 _ (ne_of_cells g7 g5 (by simp)) (ne_of_cells g7 g8 (by simp)) (ne_of_cells g7 g9 (by simp))).trans g7
                have g47 : h44 r = some (.inr (2, [.int (lt), .ref sgn, .int (nI c), .int (nI w46)])) := g47
                refine QP.topI (y := 0) rfl ?_
                refine qp_goto 76 dX1_readRest_54 (by decide) ?_
                refine qp_istore dX1_readRest_76 (by decide) ?_
                refine QP.locsE (L1 := [some (.ref r), some (.ref n), some (.int (nI l)), some (.int (nI (5 - t))), some (.int (B)), some (.int (0))]) rfl ?_
                refine qp_iload dX1_readRest_78 rfl ?_
                refine qp_if_ne 85 dX1_readRest_80 (by decide) (fun c_80 => absurd rfl c_80) (fun c_80 => ?_)
                refine qp_iconst (v := 0) dX1_readRest_83 (by decide) ?_
                have eR : R = .inl w46 := by rw [hR, ht1, sRest_s, if_pos hpc, hd1]; dsimp only; rw [if_neg (by rw [c_24]; decide), ← eB, if_neg (i32_nle.mpr c_38), if_pos c_46, hs46]; rfl
                exact qr_z dX1_readRest_84 rfl nar_0 rfl rfl ⟨by rw [eR]; rfl, by rw [eR]; exact ⟨g47, fun b hb1 hb2 hb3 => ((o48 b hb1 hb2 hb3).trans (o6 b hb1)).trans (hfr b hb1 hb2 hb3)⟩⟩
              · rw [hs46] at p45
                obtain ⟨g50, g52, g53, o51⟩ := p45
                obtain ⟨ok54, b55, b56⟩ := sYear_ok hs46
                have g57 : h44 sgn = some (.inl (0, 60, .inl (f))) := (o51 _ (ne_of_cells g7 g5 (by simp)) (ne_of_cells g7 g8 (by simp)) (ne_of_cells g7 g9 (by simp))).trans g7
                have g50 : h44 r = some (.inr (2, [.int (lt), .ref sgn, .int (nI c), .int (nI q46)])) := g50
                have g52 : h44 n = some (.inr (1, [.int (y46.cl), .int (y46.cc), .long (y46.cd), .int (y46.cap), .int (y46.cut), .int (y46.cutn), .int (y46.year), .int (y46.vol), .int (y46.voll), .long (y46.mark), .int (y46.markn), .ref ln, .int (y46.lc)])) := g52
                have g53 : h44 ln = some (.inl (0, 6, .inl (f46))) := g53
                refine QP.topI (y := 1) rfl ?_
                refine qp_goto 76 dX1_readRest_54 (by decide) ?_
                refine qp_istore dX1_readRest_76 (by decide) ?_
                refine QP.locsE (L1 := [some (.ref r), some (.ref n), some (.int (nI l)), some (.int (nI (5 - t))), some (.int (B)), some (.int (1))]) rfl ?_
                refine qp_iload dX1_readRest_78 rfl ?_
                refine qp_if_ne 85 dX1_readRest_80 (by decide) (fun c_80 => ?_) (fun c_80 => absurd c_80 (by decide))
                refine qp_iload dX1_readRest_85 rfl ?_
                refine qp_istore_n dX1_readRest_87 (by decide) ?_
                refine QP.locsE (L1 := [some (.ref r), some (.ref n), some (.int (B)), some (.int (nI (5 - t))), some (.int (B)), some (.int (1))]) rfl ?_
                refine qp_iinc (v := nI (5 - (t - 1))) dX1_readRest_88 rfl (by decide) (by rw [show 5 - (t - 1) = (5 - t) + 1 by omega]; exact nI_1 _) ?_
                refine QP.locsE (L1 := [some (.ref r), some (.ref n), some (.int (B)), some (.int (nI (5 - (t - 1)))), some (.int (B)), some (.int (1))]) rfl ?_
                refine qp_goto 4 dX1_readRest_91 (by decide) ?_
                rw [hm, show t - 1 = n2 by omega]
                refine QP.forget 4 (QP.forget 5 ?_)
                exact ih m q46 (k + 1) y46 f46 h44 (by omega) (by omega) (by omega) (by omega) ok54 g50 g57 g52 g53 (fun b hb1 hb2 hb3 => ((o51 b hb1 hb2 hb3).trans (o6 b hb1)).trans (hfr b hb1 hb2 hb3)) (by rw [hR, ht1, sRest_s, if_pos hpc, hd1]; dsimp only; rw [if_neg (by rw [c_24]; decide), ← eB, if_neg (i32_nle.mpr c_38), if_pos c_46, hs46, hm, show t - 1 = n2 by omega]; rfl)
          · refine qp_iconst (v := 0) dX1_readRest_41 (by decide) ?_
            have eR : R = .inl q1 := by rw [hR, ht1, sRest_s, if_pos hpc, hd1]; dsimp only; rw [if_neg (by rw [c_24]; decide), if_pos (by rw [← eB]; exact i32_nlt.mp c_38)]
            exact qr_z dX1_readRest_42 rfl nar_0 rfl rfl ⟨by rw [eR]; rfl, by rw [eR]; exact ⟨g5, fun b hb1 hb2 hb3 => (o6 b hb1).trans (hfr b hb1 hb2 hb3)⟩⟩
        · rw [bI_0] at c_24
          refine qp_iconst (v := 0) dX1_readRest_27 (by decide) ?_
          have eR : R = .inl q1 := by rw [hR, ht1, sRest_s, if_pos hpc, hd1]; dsimp only; rw [if_pos c_24]
          exact qr_z dX1_readRest_28 rfl nar_0 rfl rfl ⟨by rw [eR]; rfl, by rw [eR]; exact ⟨g5, fun b hb1 hb2 hb3 => (o6 b hb1).trans (hfr b hb1 hb2 hb3)⟩⟩
set_option maxHeartbeats 4000000 in
set_option maxRecDepth 100000 in
theorem c_readRest (G : qG) {h : qH} {lt : Int32} {r sgn c n ln p k : Nat} {f : Nat → Int32} {x : CNv} {fl : Nat → Int32} (hp80 : p ≤ 80) (hk3 : k ≤ 3) (hin : RdIn G h lt r sgn c n ln p k f x fl) : qMet G M_X1_readRest [.ref r, .ref n] h (qI (fun v h1 => v = bI (oOk (sRest (Sg c f) c 4 1 p k x fl)) ∧ RdOut h h1 lt r sgn c n ln (sRest (Sg c f) c 4 1 p k x fl))) := by
  obtain ⟨nr, nn, nl, hc, hp, hk, hk6, gr, gs, gn, gl⟩ := hin
  refine qMet.of (by decide) (Nat.le_of_ble_eq_true rfl) rfl ?_
  refine QP.locsE (L1 := [some (.ref r), some (.ref n), none, none, none, none]) rfl ?_
  refine qp_iconst (v := 1) dX1_readRest_0 (by decide) ?_
  refine qp_istore_n dX1_readRest_1 (by decide) ?_
  refine QP.locsE (L1 := [some (.ref r), some (.ref n), some (.int (1)), none, none, none]) rfl ?_
  refine qp_iconst (v := 1) dX1_readRest_2 (by decide) ?_
  refine qp_istore_n dX1_readRest_3 (by decide) ?_
  refine QP.locsE (L1 := [some (.ref r), some (.ref n), some (.int (1)), some (.int (1)), none, none]) rfl ?_
  exact l_readRest nr nn nl hc 4 1 p k x fl h (by omega) (by omega) (by omega) (by omega) hk gr gs gn gl (fun _ _ _ _ => rfl) rfl
