def mReads0 (S : Nat → Int32) (z : Nat) (w : Nat → Int32) : MOut := mThen (mClass0 S 0 w) (fun q w1 => mThen (mSpace S q w1) (fun q2 w2 => mThen (mCutter S q2 w2) (fun q3 w3 => mRest S z 4 0 q3 (upd w3 34 2))))
set_option maxHeartbeats 4000000 in
set_option maxRecDepth 100000 in
theorem m_reads0 (G : qG) {h : qH} {thr th cnt ps wr : Int32} {m0 sa nw la sh rcm bf z : Nat} {g w : Nat → Int32} (nm : G.2.1 ≤ m0) (nn : G.2.1 ≤ nw) (hz : z ≤ 60) (hby : ∀ i, i < z → (g i = 46 ↔ g i &&& 255 = 46)) (gm : h m0 = some (mdCell thr 0 sa (nI z) nw la th sh rcm cnt bf ps 0 wr)) (gs : h sa = some (saCell g)) (gw : h nw = some (rwCell w)) : qMet G M_X4_reads [.ref m0] h (qI (fun v h1 => v = bI (mOk (mReads0 (Sm z g) z w)) ∧ MdOut h h1 thr 0 th cnt ps m0 sa nw la sh rcm bf z (mReads0 (Sm z g) z w))) := by
  refine qMet.of (by decide) (Nat.le_of_ble_eq_true rfl) rfl ?_
  refine QP.locsE (L1 := [some (.ref m0), none, none, none, none]) rfl ?_
  refine qp_aload_n dX4_reads_0 rfl ?_
  refine qv_Iq dX4_reads_1 mX4_69 (m_readClass0 G (by omega) (p := 0) ⟨nm, nn, hz, by omega, gm, gs, gw⟩) gm rfl rfl rfl rfl rfl rfl rfl (fun h2 p3 => ?_)
  rcases hs4 : mClass0 (Sm z g) (0) (w) with q4 | ⟨q4, w4⟩
  · rw [hs4] at p3
    obtain ⟨⟨pp4, w4, g5, g6⟩, o7⟩ := p3
    have g8 : h2 sa = some (.inl (1, 60, .inl (g))) := (o7 _ (ne_of_cells gs gm (by simp)) (ne_of_cells gs gw (by simp))).trans gs
    have g5 : h2 m0 = some (.inr (5, [.int (thr), .int (0), .ref sa, .int (nI z), .ref nw, .ref la, .int (th), .ref sh, .ref rcm, .int (cnt), .ref bf, .int (ps), .int (pp4), .int (nI q4)])) := g5
    have g6 : h2 nw = some (.inl (0, 40, .inl (w4))) := g6
    refine QP.topI (y := 0) rfl ?_
    refine qp_if_eq 21 dX4_reads_4 (by decide) (fun c_4 => ?_) (fun c_4 => absurd rfl c_4)
    refine qp_iconst (v := 0) dX4_reads_21 (by decide) ?_
    have eR : mReads0 (Sm z g) z w = .inl q4 := by simp only [mReads0]; rw [hs4]; rfl
    exact qr_z dX4_reads_22 rfl nar_0 rfl rfl ⟨by rw [eR]; rfl, by rw [eR]; exact ⟨⟨_, _, g5, g6⟩, fun b hb1 hb2 => (o7 b hb1 hb2)⟩⟩
  · rw [hs4] at p3
    obtain ⟨⟨wr4, g9, g10⟩, o11⟩ := p3
    have bd4 := mClass0_bd hs4
    have g12 : h2 sa = some (.inl (1, 60, .inl (g))) := (o11 _ (ne_of_cells gs gm (by simp)) (ne_of_cells gs gw (by simp))).trans gs
    have g9 : h2 m0 = some (.inr (5, [.int (thr), .int (0), .ref sa, .int (nI z), .ref nw, .ref la, .int (th), .ref sh, .ref rcm, .int (cnt), .ref bf, .int (ps), .int (nI q4), .int (wr4)])) := g9
    have g10 : h2 nw = some (.inl (0, 40, .inl (w4))) := g10
    refine QP.topI (y := 1) rfl ?_
    refine qp_if_eq 21 dX4_reads_4 (by decide) (fun c_4 => absurd c_4 (by decide)) (fun c_4 => ?_)
    refine qp_aload_n dX4_reads_7 rfl ?_
    refine qv_Iq dX4_reads_8 mX4_73 (m_space G (p := q4) ⟨nm, nn, hz, by omega, g9, g12, g10⟩) g9 rfl rfl rfl rfl rfl rfl rfl (fun h14 p15 => ?_)
    rcases hs16 : mSpace (Sm z g) (q4) (w4) with q16 | ⟨q16, w16⟩
    · rw [hs16] at p15
      obtain ⟨⟨pp16, w16, g17, g18⟩, o19⟩ := p15
      have g20 : h14 sa = some (.inl (1, 60, .inl (g))) := (o19 _ (ne_of_cells g12 g9 (by simp)) (ne_of_cells g12 g10 (by simp))).trans g12
      have g17 : h14 m0 = some (.inr (5, [.int (thr), .int (0), .ref sa, .int (nI z), .ref nw, .ref la, .int (th), .ref sh, .ref rcm, .int (cnt), .ref bf, .int (ps), .int (pp16), .int (nI q16)])) := g17
      have g18 : h14 nw = some (.inl (0, 40, .inl (w16))) := g18
      refine QP.topI (y := 0) rfl ?_
      refine qp_if_eq 21 dX4_reads_11 (by decide) (fun c_11 => ?_) (fun c_11 => absurd rfl c_11)
      refine qp_iconst (v := 0) dX4_reads_21 (by decide) ?_
      have eR : mReads0 (Sm z g) z w = .inl q16 := by simp only [mReads0]; rw [hs4]; simp only [mThen]; rw [hs16]
      exact qr_z dX4_reads_22 rfl nar_0 rfl rfl ⟨by rw [eR]; rfl, by rw [eR]; exact ⟨⟨_, _, g17, g18⟩, fun b hb1 hb2 => ((o19 b hb1 hb2).trans (o11 b hb1 hb2))⟩⟩
    · rw [hs16] at p15
      obtain ⟨⟨wr16, g21, g22⟩, o23⟩ := p15
      have bd16 := mSpace_bd hs16
      have g24 : h14 sa = some (.inl (1, 60, .inl (g))) := (o23 _ (ne_of_cells g12 g9 (by simp)) (ne_of_cells g12 g10 (by simp))).trans g12
      have g21 : h14 m0 = some (.inr (5, [.int (thr), .int (0), .ref sa, .int (nI z), .ref nw, .ref la, .int (th), .ref sh, .ref rcm, .int (cnt), .ref bf, .int (ps), .int (nI q16), .int (wr16)])) := g21
      have g22 : h14 nw = some (.inl (0, 40, .inl (w16))) := g22
      refine QP.topI (y := 1) rfl ?_
      refine qp_if_eq 21 dX4_reads_11 (by decide) (fun c_11 => absurd c_11 (by decide)) (fun c_11 => ?_)
      refine qp_aload_n dX4_reads_14 rfl ?_
      refine qv_Iq dX4_reads_15 mX4_76 (m_readCutter G (by omega) (p := q16) ⟨nm, nn, hz, by omega, g21, g24, g22⟩) g21 rfl rfl rfl rfl rfl rfl rfl (fun h26 p27 => ?_)
      rcases hs28 : mCutter (Sm z g) (q16) (w16) with q28 | ⟨q28, w28⟩
      · rw [hs28] at p27
        obtain ⟨⟨pp28, w28, g29, g30⟩, o31⟩ := p27
        have g32 : h26 sa = some (.inl (1, 60, .inl (g))) := (o31 _ (ne_of_cells g24 g21 (by simp)) (ne_of_cells g24 g22 (by simp))).trans g24
        have g29 : h26 m0 = some (.inr (5, [.int (thr), .int (0), .ref sa, .int (nI z), .ref nw, .ref la, .int (th), .ref sh, .ref rcm, .int (cnt), .ref bf, .int (ps), .int (pp28), .int (nI q28)])) := g29
        have g30 : h26 nw = some (.inl (0, 40, .inl (w28))) := g30
        refine QP.topI (y := 0) rfl ?_
        refine qp_if_ne 23 dX4_reads_18 (by decide) (fun c_18 => absurd rfl c_18) (fun c_18 => ?_)
        refine qp_iconst (v := 0) dX4_reads_21 (by decide) ?_
        have eR : mReads0 (Sm z g) z w = .inl q28 := by simp only [mReads0]; rw [hs4]; simp only [mThen]; rw [hs16]; simp only [mThen]; rw [hs28]
        exact qr_z dX4_reads_22 rfl nar_0 rfl rfl ⟨by rw [eR]; rfl, by rw [eR]; exact ⟨⟨_, _, g29, g30⟩, fun b hb1 hb2 => (((o31 b hb1 hb2).trans (o23 b hb1 hb2)).trans (o11 b hb1 hb2))⟩⟩
      · rw [hs28] at p27
        obtain ⟨⟨wr28, g33, g34⟩, o35⟩ := p27
        have bd28 := mCutter_bd hs28
        have g36 : h26 sa = some (.inl (1, 60, .inl (g))) := (o35 _ (ne_of_cells g24 g21 (by simp)) (ne_of_cells g24 g22 (by simp))).trans g24
        have g33 : h26 m0 = some (.inr (5, [.int (thr), .int (0), .ref sa, .int (nI z), .ref nw, .ref la, .int (th), .ref sh, .ref rcm, .int (cnt), .ref bf, .int (ps), .int (nI q28), .int (wr28)])) := g33
        have g34 : h26 nw = some (.inl (0, 40, .inl (w28))) := g34
        refine QP.topI (y := 1) rfl ?_
        refine qp_if_ne 23 dX4_reads_18 (by decide) (fun c_18 => ?_) (fun c_18 => absurd c_18 (by decide))
        refine qp_aload_n dX4_reads_23 rfl ?_
        refine qp_getf dX4_reads_24 fX4_13 g33 rfl ?_
        refine qp_bipush (v := 34) dX4_reads_27 (by decide) ?_
        refine qp_iconst (v := 2) dX4_reads_29 (by decide) ?_
        refine qk_iast (34) dX4_reads_30 g34 nn rfl (by omega) (by decide) (fun h37 g38 o39 => ?_)
        have g40 : h37 sa = some (.inl (1, 60, .inl (g))) := (o39 _ (ne_of_cells g36 g34 (by simp))).trans g36
        have g41 : h37 m0 = some (.inr (5, [.int (thr), .int (0), .ref sa, .int (nI z), .ref nw, .ref la, .int (th), .ref sh, .ref rcm, .int (cnt), .ref bf, .int (ps), .int (nI q28), .int (wr28)])) := (o39 _ (ne_of_cells g33 g34 (by simp))).trans g33
        have g38 : h37 nw = some (.inl (0, 40, .inl (upd (w28) (34) (2)))) := g38
        refine qp_iconst (v := 0) dX4_reads_31 (by decide) ?_
        refine qp_istore_n dX4_reads_32 (by decide) ?_
        refine QP.locsE (L1 := [some (.ref m0), some (.int (0)), none, none, none]) rfl ?_
        exact lm_reads (R := mReads0 (Sm z g) z w) nm nn hz hby 4 0 q28 _ _ h37 (by omega) (by omega) (by omega) g41 g40 g38 (fun b hb1 hb2 => ((((o39 b hb2).trans (o35 b hb1 hb2)).trans (o23 b hb1 hb2)).trans (o11 b hb1 hb2))) (by simp only [mReads0]; rw [hs4]; simp only [mThen]; rw [hs16]; simp only [mThen]; rw [hs28])
def mReads1 (S : Nat → Int32) (z : Nat) (w : Nat → Int32) : MOut := mThen (mClass1 S 0 w) (fun q w1 => mThen (mSpace S q w1) (fun q2 w2 => mThen (mCutter S q2 w2) (fun q3 w3 => mRest S z 4 0 q3 (upd w3 34 2))))
set_option maxHeartbeats 4000000 in
set_option maxRecDepth 100000 in
theorem m_reads1 (G : qG) {h : qH} {thr th cnt ps wr : Int32} {m0 sa nw la sh rcm bf z : Nat} {g w : Nat → Int32} (nm : G.2.1 ≤ m0) (nn : G.2.1 ≤ nw) (hz : z ≤ 60) (hby : ∀ i, i < z → (g i = 46 ↔ g i &&& 255 = 46)) (gm : h m0 = some (mdCell thr 1 sa (nI z) nw la th sh rcm cnt bf ps 0 wr)) (gs : h sa = some (saCell g)) (gw : h nw = some (rwCell w)) : qMet G M_X4_reads [.ref m0] h (qI (fun v h1 => v = bI (mOk (mReads1 (Sm z g) z w)) ∧ MdOut h h1 thr 1 th cnt ps m0 sa nw la sh rcm bf z (mReads1 (Sm z g) z w))) := by
  refine qMet.of (by decide) (Nat.le_of_ble_eq_true rfl) rfl ?_
  refine QP.locsE (L1 := [some (.ref m0), none, none, none, none]) rfl ?_
  refine qp_aload_n dX4_reads_0 rfl ?_
  refine qv_Iq dX4_reads_1 mX4_69 (m_readClass1 G (by omega) (p := 0) ⟨nm, nn, hz, by omega, gm, gs, gw⟩) gm rfl rfl rfl rfl rfl rfl rfl (fun h2 p3 => ?_)
  rcases hs4 : mClass1 (Sm z g) (0) (w) with q4 | ⟨q4, w4⟩
  · rw [hs4] at p3
    obtain ⟨⟨pp4, w4, g5, g6⟩, o7⟩ := p3
    have g8 : h2 sa = some (.inl (1, 60, .inl (g))) := (o7 _ (ne_of_cells gs gm (by simp)) (ne_of_cells gs gw (by simp))).trans gs
    have g5 : h2 m0 = some (.inr (5, [.int (thr), .int (1), .ref sa, .int (nI z), .ref nw, .ref la, .int (th), .ref sh, .ref rcm, .int (cnt), .ref bf, .int (ps), .int (pp4), .int (nI q4)])) := g5
    have g6 : h2 nw = some (.inl (0, 40, .inl (w4))) := g6
    refine QP.topI (y := 0) rfl ?_
    refine qp_if_eq 21 dX4_reads_4 (by decide) (fun c_4 => ?_) (fun c_4 => absurd rfl c_4)
    refine qp_iconst (v := 0) dX4_reads_21 (by decide) ?_
    have eR : mReads1 (Sm z g) z w = .inl q4 := by simp only [mReads1]; rw [hs4]; rfl
    exact qr_z dX4_reads_22 rfl nar_0 rfl rfl ⟨by rw [eR]; rfl, by rw [eR]; exact ⟨⟨_, _, g5, g6⟩, fun b hb1 hb2 => (o7 b hb1 hb2)⟩⟩
  · rw [hs4] at p3
    obtain ⟨⟨wr4, g9, g10⟩, o11⟩ := p3
    have bd4 := mClass1_bd hs4
    have g12 : h2 sa = some (.inl (1, 60, .inl (g))) := (o11 _ (ne_of_cells gs gm (by simp)) (ne_of_cells gs gw (by simp))).trans gs
    have g9 : h2 m0 = some (.inr (5, [.int (thr), .int (1), .ref sa, .int (nI z), .ref nw, .ref la, .int (th), .ref sh, .ref rcm, .int (cnt), .ref bf, .int (ps), .int (nI q4), .int (wr4)])) := g9
    have g10 : h2 nw = some (.inl (0, 40, .inl (w4))) := g10
    refine QP.topI (y := 1) rfl ?_
    refine qp_if_eq 21 dX4_reads_4 (by decide) (fun c_4 => absurd c_4 (by decide)) (fun c_4 => ?_)
    refine qp_aload_n dX4_reads_7 rfl ?_
    refine qv_Iq dX4_reads_8 mX4_73 (m_space G (p := q4) ⟨nm, nn, hz, by omega, g9, g12, g10⟩) g9 rfl rfl rfl rfl rfl rfl rfl (fun h14 p15 => ?_)
    rcases hs16 : mSpace (Sm z g) (q4) (w4) with q16 | ⟨q16, w16⟩
    · rw [hs16] at p15
      obtain ⟨⟨pp16, w16, g17, g18⟩, o19⟩ := p15
      have g20 : h14 sa = some (.inl (1, 60, .inl (g))) := (o19 _ (ne_of_cells g12 g9 (by simp)) (ne_of_cells g12 g10 (by simp))).trans g12
      have g17 : h14 m0 = some (.inr (5, [.int (thr), .int (1), .ref sa, .int (nI z), .ref nw, .ref la, .int (th), .ref sh, .ref rcm, .int (cnt), .ref bf, .int (ps), .int (pp16), .int (nI q16)])) := g17
      have g18 : h14 nw = some (.inl (0, 40, .inl (w16))) := g18
      refine QP.topI (y := 0) rfl ?_
      refine qp_if_eq 21 dX4_reads_11 (by decide) (fun c_11 => ?_) (fun c_11 => absurd rfl c_11)
      refine qp_iconst (v := 0) dX4_reads_21 (by decide) ?_
      have eR : mReads1 (Sm z g) z w = .inl q16 := by simp only [mReads1]; rw [hs4]; simp only [mThen]; rw [hs16]
      exact qr_z dX4_reads_22 rfl nar_0 rfl rfl ⟨by rw [eR]; rfl, by rw [eR]; exact ⟨⟨_, _, g17, g18⟩, fun b hb1 hb2 => ((o19 b hb1 hb2).trans (o11 b hb1 hb2))⟩⟩
    · rw [hs16] at p15
      obtain ⟨⟨wr16, g21, g22⟩, o23⟩ := p15
      have bd16 := mSpace_bd hs16
      have g24 : h14 sa = some (.inl (1, 60, .inl (g))) := (o23 _ (ne_of_cells g12 g9 (by simp)) (ne_of_cells g12 g10 (by simp))).trans g12
      have g21 : h14 m0 = some (.inr (5, [.int (thr), .int (1), .ref sa, .int (nI z), .ref nw, .ref la, .int (th), .ref sh, .ref rcm, .int (cnt), .ref bf, .int (ps), .int (nI q16), .int (wr16)])) := g21
      have g22 : h14 nw = some (.inl (0, 40, .inl (w16))) := g22
      refine QP.topI (y := 1) rfl ?_
      refine qp_if_eq 21 dX4_reads_11 (by decide) (fun c_11 => absurd c_11 (by decide)) (fun c_11 => ?_)
      refine qp_aload_n dX4_reads_14 rfl ?_
      refine qv_Iq dX4_reads_15 mX4_76 (m_readCutter G (by omega) (p := q16) ⟨nm, nn, hz, by omega, g21, g24, g22⟩) g21 rfl rfl rfl rfl rfl rfl rfl (fun h26 p27 => ?_)
      rcases hs28 : mCutter (Sm z g) (q16) (w16) with q28 | ⟨q28, w28⟩
      · rw [hs28] at p27
        obtain ⟨⟨pp28, w28, g29, g30⟩, o31⟩ := p27
        have g32 : h26 sa = some (.inl (1, 60, .inl (g))) := (o31 _ (ne_of_cells g24 g21 (by simp)) (ne_of_cells g24 g22 (by simp))).trans g24
        have g29 : h26 m0 = some (.inr (5, [.int (thr), .int (1), .ref sa, .int (nI z), .ref nw, .ref la, .int (th), .ref sh, .ref rcm, .int (cnt), .ref bf, .int (ps), .int (pp28), .int (nI q28)])) := g29
        have g30 : h26 nw = some (.inl (0, 40, .inl (w28))) := g30
        refine QP.topI (y := 0) rfl ?_
        refine qp_if_ne 23 dX4_reads_18 (by decide) (fun c_18 => absurd rfl c_18) (fun c_18 => ?_)
        refine qp_iconst (v := 0) dX4_reads_21 (by decide) ?_
        have eR : mReads1 (Sm z g) z w = .inl q28 := by simp only [mReads1]; rw [hs4]; simp only [mThen]; rw [hs16]; simp only [mThen]; rw [hs28]
        exact qr_z dX4_reads_22 rfl nar_0 rfl rfl ⟨by rw [eR]; rfl, by rw [eR]; exact ⟨⟨_, _, g29, g30⟩, fun b hb1 hb2 => (((o31 b hb1 hb2).trans (o23 b hb1 hb2)).trans (o11 b hb1 hb2))⟩⟩
      · rw [hs28] at p27
        obtain ⟨⟨wr28, g33, g34⟩, o35⟩ := p27
        have bd28 := mCutter_bd hs28
        have g36 : h26 sa = some (.inl (1, 60, .inl (g))) := (o35 _ (ne_of_cells g24 g21 (by simp)) (ne_of_cells g24 g22 (by simp))).trans g24
        have g33 : h26 m0 = some (.inr (5, [.int (thr), .int (1), .ref sa, .int (nI z), .ref nw, .ref la, .int (th), .ref sh, .ref rcm, .int (cnt), .ref bf, .int (ps), .int (nI q28), .int (wr28)])) := g33
        have g34 : h26 nw = some (.inl (0, 40, .inl (w28))) := g34
        refine QP.topI (y := 1) rfl ?_
        refine qp_if_ne 23 dX4_reads_18 (by decide) (fun c_18 => ?_) (fun c_18 => absurd c_18 (by decide))
        refine qp_aload_n dX4_reads_23 rfl ?_
        refine qp_getf dX4_reads_24 fX4_13 g33 rfl ?_
        refine qp_bipush (v := 34) dX4_reads_27 (by decide) ?_
        refine qp_iconst (v := 2) dX4_reads_29 (by decide) ?_
        refine qk_iast (34) dX4_reads_30 g34 nn rfl (by omega) (by decide) (fun h37 g38 o39 => ?_)
        have g40 : h37 sa = some (.inl (1, 60, .inl (g))) := (o39 _ (ne_of_cells g36 g34 (by simp))).trans g36
        have g41 : h37 m0 = some (.inr (5, [.int (thr), .int (1), .ref sa, .int (nI z), .ref nw, .ref la, .int (th), .ref sh, .ref rcm, .int (cnt), .ref bf, .int (ps), .int (nI q28), .int (wr28)])) := (o39 _ (ne_of_cells g33 g34 (by simp))).trans g33
        have g38 : h37 nw = some (.inl (0, 40, .inl (upd (w28) (34) (2)))) := g38
        refine qp_iconst (v := 0) dX4_reads_31 (by decide) ?_
        refine qp_istore_n dX4_reads_32 (by decide) ?_
        refine QP.locsE (L1 := [some (.ref m0), some (.int (0)), none, none, none]) rfl ?_
        exact lm_reads (R := mReads1 (Sm z g) z w) nm nn hz hby 4 0 q28 _ _ h37 (by omega) (by omega) (by omega) g41 g40 g38 (fun b hb1 hb2 => ((((o39 b hb2).trans (o35 b hb1 hb2)).trans (o23 b hb1 hb2)).trans (o11 b hb1 hb2))) (by simp only [mReads1]; rw [hs4]; simp only [mThen]; rw [hs16]; simp only [mThen]; rw [hs28])
def clrW (w : Nat → Int32) (k : Nat) : Nat → Int32 := fun i => if i < k then 0 else w i
theorem clrW_0 (w : Nat → Int32) : clrW w 0 = w := by
  funext i
  simp only [clrW]
  rw [if_neg (by omega)]
theorem clrW_s (w : Nat → Int32) (k : Nat) : upd (clrW w k) k 0 = clrW w (k + 1) := by
  funext i
  simp only [upd, clrW]
  by_cases h : i = k
  · subst h; rw [if_pos rfl, if_pos (by omega)]
  · rw [if_neg h]
    by_cases h2 : i < k
    · rw [if_pos h2, if_pos (by omega)]
    · rw [if_neg h2, if_neg (by omega)]
/-- the first k places of a over those of b -/
def cpW (a b : Nat → Int32) (k : Nat) : Nat → Int32 := fun i => if i < k then a i else b i
theorem cpW_0 (a b : Nat → Int32) : cpW a b 0 = b := by
  funext i
  simp only [cpW]
  rw [if_neg (by omega)]
theorem cpW_s (a b : Nat → Int32) (k : Nat) : upd (cpW a b k) k (a k) = cpW a b (k + 1) := by
  funext i
  simp only [upd, cpW]
  by_cases h : i = k
  · subst h; rw [if_pos rfl, if_pos (by omega)]
  · rw [if_neg h]
    by_cases h2 : i < k
    · rw [if_pos h2, if_pos (by omega)]
    · rw [if_neg h2, if_neg (by omega)]
def MdRes (h h1 : qH) (sch th cnt ps : Int32) (m0 sa nw la sh rcm bf : Nat) (a : Nat → Int32) (v : Int32) (o : MOut) : Prop := match o with
  | .inl q => v = -1 - nI q ∧ (∃ (pp : Int32) (w' : Nat → Int32), h1 m0 = some (mdCell 0 sch sa 0 nw la th sh rcm cnt bf ps pp (nI q)) ∧ h1 nw = some (rwCell w')) ∧ ∀ b : Nat, b ≠ m0 → b ≠ nw → h1 b = h b
  | .inr y => v = y.2 34 ∧ (∃ (pp wr : Int32), h1 m0 = some (mdCell 0 sch sa 0 nw la 1 sh rcm cnt bf ps pp wr)) ∧ h1 nw = some (rwCell y.2) ∧ h1 la = some (rwCell (cpW y.2 a 40)) ∧ ∀ b : Nat, b ≠ m0 → b ≠ nw → b ≠ la → h1 b = h b
set_option maxHeartbeats 4000000 in
set_option maxRecDepth 100000 in
theorem lm_copy0 {G : qG} {h0 : qH} {th cnt ps pp wr x1 : Int32} {m0 sa nw la sh rcm bf : Nat} {w a : Nat → Int32} (nm : G.2.1 ≤ m0) (nn : G.2.1 ≤ nw) (nla : G.2.1 ≤ la) (hnl : nw ≠ la) : ∀ (t k : Nat) (h : qH), 40 < k + t → k ≤ 40 → h m0 = some (mdCell 0 0 sa 0 nw la th sh rcm cnt bf ps pp wr) → h nw = some (rwCell w) → h la = some (rwCell (cpW w a k)) → (∀ b : Nat, b ≠ m0 → b ≠ nw → b ≠ la → h b = h0 b) → QP G M_X4_read qTr (qMZ G M_X4_read (qI (fun v h1 => v = w 34 ∧ (∃ (pp wr : Int32), h1 m0 = some (mdCell 0 0 sa 0 nw la 1 sh rcm cnt bf ps pp wr)) ∧ h1 nw = some (rwCell w) ∧ h1 la = some (rwCell (cpW w a 40)) ∧ ∀ b : Nat, b ≠ m0 → b ≠ nw → b ≠ la → h1 b = h0 b))) 54 [some (.ref m0), some (.int x1), some (.int (nI k))] [] h 0 0 := by
  intro t
  induction t with
  | zero =>
    intro k h h1 h2
    omega
  | succ t ih =>
    intro k h h1 h2 gm gw gl hfr
    refine qp_iload_n dX4_read_54 rfl ?_
    refine qp_bipush (v := 40) dX4_read_55 (by decide) ?_
    refine qp_icmp_ge 78 dX4_read_57 (by decide) (fun c_57 => ?_) (fun c_57 => ?_)
    · have hk : k = 40 := by have := (nI_leI (a := 40) (by decide) (by omega)).mp c_57; omega
      refine qp_aload_n dX4_read_78 rfl ?_
      refine qp_iconst (v := 1) dX4_read_79 (by decide) ?_
      refine qk_put dX4_read_80 fX4_91 gm nm rfl rfl rfl rfl rfl (fun h1 g2 o3 => ?_)
      have g4 : h1 nw = some (.inl (0, 40, .inl (w))) := (o3 _ (ne_of_cells gw gm (by simp))).trans gw
      have g5 : h1 la = some (.inl (0, 40, .inl (cpW w a k))) := (o3 _ (ne_of_cells gl gm (by simp))).trans gl
      have g2 : h1 m0 = some (.inr (5, [.int (0), .int (0), .ref sa, .int (0), .ref nw, .ref la, .int (1), .ref sh, .ref rcm, .int (cnt), .ref bf, .int (ps), .int (pp), .int (wr)])) := g2
      refine qp_aload_n dX4_read_83 rfl ?_
      refine qp_getf dX4_read_84 fX4_13 g2 rfl ?_
      refine qp_bipush (v := 34) dX4_read_87 (by decide) ?_
      refine qp_ialdN (34) dX4_read_89 g4 rfl (by omega) (by decide) ?_
      exact qr_i dX4_read_90 rfl rfl rfl ⟨rfl, ⟨_, _, g2⟩, g4, by rw [← hk]; exact g5, fun b hb1 hb2 hb3 => (o3 b hb1).trans (hfr b hb1 hb2 hb3)⟩
    · have hk : k < 40 := Nat.not_le.mp fun q => c_57 ((nI_leI (a := 40) (by decide) (by omega)).mpr q)
      refine qp_aload_n dX4_read_60 rfl ?_
      refine qp_getf dX4_read_61 fX4_17 gm rfl ?_
      refine qp_iload_n dX4_read_64 rfl ?_
      refine qp_aload_n dX4_read_65 rfl ?_
      refine qp_getf dX4_read_66 fX4_13 gm rfl ?_
      refine qp_iload_n dX4_read_69 rfl ?_
      refine qp_ialdN (k) dX4_read_70 gw rfl (by omega) (by decide) ?_
      refine qk_iast (k) dX4_read_71 gl nla rfl (by omega) (by decide) (fun h6 g7 o8 => ?_)
      have g9 : h6 m0 = some (.inr (5, [.int (0), .int (0), .ref sa, .int (0), .ref nw, .ref la, .int (th), .ref sh, .ref rcm, .int (cnt), .ref bf, .int (ps), .int (pp), .int (wr)])) := (o8 _ (ne_of_cells gm gl (by simp))).trans gm
      have g10 : h6 nw = some (.inl (0, 40, .inl (w))) := (o8 _ hnl).trans gw
      have g7 : h6 la = some (.inl (0, 40, .inl (upd (cpW w a k) (k) (w (k))))) := g7
      refine qp_iinc (v := nI (k + 1)) dX4_read_72 rfl (by decide) (nI_1 k) ?_
      refine QP.locsE (L1 := [some (.ref m0), some (.int (x1)), some (.int (nI (k + 1)))]) rfl ?_
      refine qp_goto 54 dX4_read_75 (by decide) ?_
      rw [cpW_s] at g7
      exact ih (k + 1) h6 (by omega) (by omega) g9 g10 g7 (fun b hb1 hb2 hb3 => (o8 b hb3).trans (hfr b hb1 hb2 hb3))
set_option maxHeartbeats 4000000 in
set_option maxRecDepth 100000 in
theorem lm_copy1 {G : qG} {h0 : qH} {th cnt ps pp wr x1 : Int32} {m0 sa nw la sh rcm bf : Nat} {w a : Nat → Int32} (nm : G.2.1 ≤ m0) (nn : G.2.1 ≤ nw) (nla : G.2.1 ≤ la) (hnl : nw ≠ la) : ∀ (t k : Nat) (h : qH), 40 < k + t → k ≤ 40 → h m0 = some (mdCell 0 1 sa 0 nw la th sh rcm cnt bf ps pp wr) → h nw = some (rwCell w) → h la = some (rwCell (cpW w a k)) → (∀ b : Nat, b ≠ m0 → b ≠ nw → b ≠ la → h b = h0 b) → QP G M_X4_read qTr (qMZ G M_X4_read (qI (fun v h1 => v = w 34 ∧ (∃ (pp wr : Int32), h1 m0 = some (mdCell 0 1 sa 0 nw la 1 sh rcm cnt bf ps pp wr)) ∧ h1 nw = some (rwCell w) ∧ h1 la = some (rwCell (cpW w a 40)) ∧ ∀ b : Nat, b ≠ m0 → b ≠ nw → b ≠ la → h1 b = h0 b))) 54 [some (.ref m0), some (.int x1), some (.int (nI k))] [] h 0 0 := by
  intro t
  induction t with
  | zero =>
    intro k h h1 h2
    omega
  | succ t ih =>
    intro k h h1 h2 gm gw gl hfr
    refine qp_iload_n dX4_read_54 rfl ?_
    refine qp_bipush (v := 40) dX4_read_55 (by decide) ?_
    refine qp_icmp_ge 78 dX4_read_57 (by decide) (fun c_57 => ?_) (fun c_57 => ?_)
    · have hk : k = 40 := by have := (nI_leI (a := 40) (by decide) (by omega)).mp c_57; omega
      refine qp_aload_n dX4_read_78 rfl ?_
      refine qp_iconst (v := 1) dX4_read_79 (by decide) ?_
      refine qk_put dX4_read_80 fX4_91 gm nm rfl rfl rfl rfl rfl (fun h1 g2 o3 => ?_)
      have g4 : h1 nw = some (.inl (0, 40, .inl (w))) := (o3 _ (ne_of_cells gw gm (by simp))).trans gw
      have g5 : h1 la = some (.inl (0, 40, .inl (cpW w a k))) := (o3 _ (ne_of_cells gl gm (by simp))).trans gl
      have g2 : h1 m0 = some (.inr (5, [.int (0), .int (1), .ref sa, .int (0), .ref nw, .ref la, .int (1), .ref sh, .ref rcm, .int (cnt), .ref bf, .int (ps), .int (pp), .int (wr)])) := g2
      refine qp_aload_n dX4_read_83 rfl ?_
      refine qp_getf dX4_read_84 fX4_13 g2 rfl ?_
      refine qp_bipush (v := 34) dX4_read_87 (by decide) ?_
      refine qp_ialdN (34) dX4_read_89 g4 rfl (by omega) (by decide) ?_
      exact qr_i dX4_read_90 rfl rfl rfl ⟨rfl, ⟨_, _, g2⟩, g4, by rw [← hk]; exact g5, fun b hb1 hb2 hb3 => (o3 b hb1).trans (hfr b hb1 hb2 hb3)⟩
    · have hk : k < 40 := Nat.not_le.mp fun q => c_57 ((nI_leI (a := 40) (by decide) (by omega)).mpr q)
      refine qp_aload_n dX4_read_60 rfl ?_
      refine qp_getf dX4_read_61 fX4_17 gm rfl ?_
      refine qp_iload_n dX4_read_64 rfl ?_
      refine qp_aload_n dX4_read_65 rfl ?_
      refine qp_getf dX4_read_66 fX4_13 gm rfl ?_
      refine qp_iload_n dX4_read_69 rfl ?_
      refine qp_ialdN (k) dX4_read_70 gw rfl (by omega) (by decide) ?_
      refine qk_iast (k) dX4_read_71 gl nla rfl (by omega) (by decide) (fun h6 g7 o8 => ?_)
      have g9 : h6 m0 = some (.inr (5, [.int (0), .int (1), .ref sa, .int (0), .ref nw, .ref la, .int (th), .ref sh, .ref rcm, .int (cnt), .ref bf, .int (ps), .int (pp), .int (wr)])) := (o8 _ (ne_of_cells gm gl (by simp))).trans gm
      have g10 : h6 nw = some (.inl (0, 40, .inl (w))) := (o8 _ hnl).trans gw
      have g7 : h6 la = some (.inl (0, 40, .inl (upd (cpW w a k) (k) (w (k))))) := g7
      refine qp_iinc (v := nI (k + 1)) dX4_read_72 rfl (by decide) (nI_1 k) ?_
      refine QP.locsE (L1 := [some (.ref m0), some (.int (x1)), some (.int (nI (k + 1)))]) rfl ?_
      refine qp_goto 54 dX4_read_75 (by decide) ?_
      rw [cpW_s] at g7
      exact ih (k + 1) h6 (by omega) (by omega) g9 g10 g7 (fun b hb1 hb2 hb3 => (o8 b hb3).trans (hfr b hb1 hb2 hb3))
theorem QP.mono {G : qG} {M : qM} {E : qX} {pc : Nat} {L : List (Option Value)} {st : List Value} {h : qH} {cn sn : Nat} {Q Q' : Option Value → qH → Prop} (hq : ∀ r h', Q r h' → Q' r h') (k : QP G M E (qMZ G M Q) pc L st h cn sn) : QP G M E (qMZ G M Q') pc L st h cn sn := by
  intro p e s m args below meth c C hE H ls locs hR hL hS T hT X
  obtain ⟨t, a1, o, b1, b2, ⟨r, h', e1, e2, e3⟩, b4⟩ := k p e s m args below meth c C hE H ls locs hR hL hS T hT X
  exact ⟨t, a1, o, b1, b2, ⟨r, h', e1, hq r h' e2, e3⟩, b4⟩
set_option maxHeartbeats 4000000 in
set_option maxRecDepth 100000 in
theorem lm_read0 {G : qG} {h0 : qH} {th cnt ps pp wr : Int32} {m0 sa nw la sh rcm bf z : Nat} {g w a : Nat → Int32} (nm : G.2.1 ≤ m0) (nn : G.2.1 ≤ nw) (nla : G.2.1 ≤ la) (hnl : nw ≠ la) (hz : z ≤ 60) (hby : ∀ i, i < z → (g i = 46 ↔ g i &&& 255 = 46)) : ∀ (t k : Nat) (h : qH), 40 < k + t → k ≤ 40 → h m0 = some (mdCell 0 0 sa (nI z) nw la th sh rcm cnt bf ps pp wr) → h sa = some (saCell g) → h nw = some (rwCell (clrW w k)) → h la = some (rwCell a) → (∀ b : Nat, b ≠ m0 → b ≠ nw → h b = h0 b) → QP G M_X4_read qTr (qMZ G M_X4_read (qI (fun v h1 => MdRes h0 h1 0 th cnt ps m0 sa nw la sh rcm bf a v (mReads0 (Sm z g) z (clrW w 40))))) 7 [some (.ref m0), some (.int (nI k)), none] [] h 0 0 := by
  intro t
  induction t with
  | zero =>
    intro k h h1 h2
    omega
  | succ t ih =>
    intro k h h1 h2 gm gs gw gl hfr
    refine qp_iload_n dX4_read_7 rfl ?_
    refine qp_bipush (v := 40) dX4_read_8 (by decide) ?_
    refine qp_icmp_ge 26 dX4_read_10 (by decide) (fun c_10 => ?_) (fun c_10 => ?_)
    · have hk : k = 40 := by have := (nI_leI (a := 40) (by decide) (by omega)).mp c_10; omega
      subst hk
      refine qp_aload_n dX4_read_26 rfl ?_
      refine qp_iconst (v := 0) dX4_read_27 (by decide) ?_
      refine qk_put dX4_read_28 fX4_39 gm nm rfl rfl rfl rfl rfl (fun h1 g2 o3 => ?_)
      have g4 : h1 sa = some (.inl (1, 60, .inl (g))) := (o3 _ (ne_of_cells gs gm (by simp))).trans gs
      have g5 : h1 nw = some (.inl (0, 40, .inl (clrW w 40))) := (o3 _ (ne_of_cells gw gm (by simp))).trans gw
      have g6 : h1 la = some (.inl (0, 40, .inl (a))) := (o3 _ (ne_of_cells gl gm (by simp))).trans gl
      have g2 : h1 m0 = some (.inr (5, [.int (0), .int (0), .ref sa, .int (nI z), .ref nw, .ref la, .int (th), .ref sh, .ref rcm, .int (cnt), .ref bf, .int (ps), .int (0), .int (wr)])) := g2
      refine qp_aload_n dX4_read_31 rfl ?_
      refine qv_Iq dX4_read_32 mX4_88 (m_reads0 G nm nn hz hby g2 g4 g5) g2 rfl rfl rfl rfl rfl rfl rfl (fun h8 p9 => ?_)
      rcases hs : mReads0 (Sm z g) z (clrW w 40) with q | ⟨q, y⟩
      · rw [hs] at p9
        obtain ⟨⟨pp1, w1, gm1, gw1⟩, o1⟩ := p9
        have g10 : h8 sa = some (.inl (1, 60, .inl (g))) := (o1 _ (ne_of_cells g4 g2 (by simp)) (ne_of_cells g4 g5 (by simp))).trans g4
        have g11 : h8 la = some (.inl (0, 40, .inl (a))) := (o1 _ (ne_of_cells g6 g2 (by simp)) (Ne.symm hnl)).trans g6
        have gm1 : h8 m0 = some (.inr (5, [.int (0), .int (0), .ref sa, .int (nI z), .ref nw, .ref la, .int (th), .ref sh, .ref rcm, .int (cnt), .ref bf, .int (ps), .int (pp1), .int (nI q)])) := gm1
        have gw1 : h8 nw = some (.inl (0, 40, .inl (w1))) := gw1
        refine QP.topI (y := 0) rfl ?_
        refine qp_istore_n dX4_read_35 (by decide) ?_
        refine QP.locsE (L1 := [some (.ref m0), some (.int (0)), none]) rfl ?_
        refine qp_aload_n dX4_read_36 rfl ?_
        refine qp_iconst (v := 0) dX4_read_37 (by decide) ?_
        refine qk_put dX4_read_38 fX4_36 gm1 nm rfl rfl rfl rfl rfl (fun h12 g13 o14 => ?_)
        have g15 : h12 sa = some (.inl (1, 60, .inl (g))) := (o14 _ (ne_of_cells g10 gm1 (by simp))).trans g10
        have g16 : h12 la = some (.inl (0, 40, .inl (a))) := (o14 _ (ne_of_cells g11 gm1 (by simp))).trans g11
        have g17 : h12 nw = some (.inl (0, 40, .inl (w1))) := (o14 _ (ne_of_cells gw1 gm1 (by simp))).trans gw1
        have g13 : h12 m0 = some (.inr (5, [.int (0), .int (0), .ref sa, .int (0), .ref nw, .ref la, .int (th), .ref sh, .ref rcm, .int (cnt), .ref bf, .int (ps), .int (pp1), .int (nI q)])) := g13
        refine qp_iload_n dX4_read_41 rfl ?_
        refine qp_if_ne 52 dX4_read_42 (by decide) (fun c_42 => absurd rfl c_42) (fun c_42 => ?_)
        refine qp_iconst (v := -1) dX4_read_45 (by decide) ?_
        refine qp_aload_n dX4_read_46 rfl ?_
        refine qp_getf dX4_read_47 fX4_42 g13 rfl ?_
        refine qp_isub dX4_read_50 ?_
        exact qr_i dX4_read_51 rfl rfl rfl ⟨rfl, ⟨_, _, g13, g17⟩, fun b hb1 hb2 => (((o14 b hb1).trans (o1 b hb1 hb2)).trans (o3 b hb1)).trans (hfr b hb1 hb2)⟩
      · rw [hs] at p9
        obtain ⟨⟨wr1, gm1, gw1⟩, o1⟩ := p9
        have g18 : h8 sa = some (.inl (1, 60, .inl (g))) := (o1 _ (ne_of_cells g4 g2 (by simp)) (ne_of_cells g4 g5 (by simp))).trans g4
        have g19 : h8 la = some (.inl (0, 40, .inl (a))) := (o1 _ (ne_of_cells g6 g2 (by simp)) (Ne.symm hnl)).trans g6
        have gm1 : h8 m0 = some (.inr (5, [.int (0), .int (0), .ref sa, .int (nI z), .ref nw, .ref la, .int (th), .ref sh, .ref rcm, .int (cnt), .ref bf, .int (ps), .int (nI q), .int (wr1)])) := gm1
        have gw1 : h8 nw = some (.inl (0, 40, .inl (y))) := gw1
        refine QP.topI (y := 1) rfl ?_
        refine qp_istore_n dX4_read_35 (by decide) ?_
        refine QP.locsE (L1 := [some (.ref m0), some (.int (1)), none]) rfl ?_
        refine qp_aload_n dX4_read_36 rfl ?_
        refine qp_iconst (v := 0) dX4_read_37 (by decide) ?_
        refine qk_put dX4_read_38 fX4_36 gm1 nm rfl rfl rfl rfl rfl (fun h20 g21 o22 => ?_)
        have g23 : h20 sa = some (.inl (1, 60, .inl (g))) := (o22 _ (ne_of_cells g18 gm1 (by simp))).trans g18
        have g24 : h20 la = some (.inl (0, 40, .inl (a))) := (o22 _ (ne_of_cells g19 gm1 (by simp))).trans g19
        have g25 : h20 nw = some (.inl (0, 40, .inl (y))) := (o22 _ (ne_of_cells gw1 gm1 (by simp))).trans gw1
        have g21 : h20 m0 = some (.inr (5, [.int (0), .int (0), .ref sa, .int (0), .ref nw, .ref la, .int (th), .ref sh, .ref rcm, .int (cnt), .ref bf, .int (ps), .int (nI q), .int (wr1)])) := g21
        refine qp_iload_n dX4_read_41 rfl ?_
        refine qp_if_ne 52 dX4_read_42 (by decide) (fun c_42 => ?_) (fun c_42 => absurd c_42 (by decide))
        refine qp_iconst (v := 0) dX4_read_52 (by decide) ?_
        refine qp_istore_n dX4_read_53 (by decide) ?_
        refine QP.locsE (L1 := [some (.ref m0), some (.int (1)), some (.int (0))]) rfl ?_
        refine QP.mono (fun r h' ⟨v, e, hq⟩ => ⟨v, e, hq⟩) (lm_copy0 (w := y) (a := a) (x1 := 1) nm nn nla hnl 41 0 h20 (by omega) (by omega) g21 g25 (by rw [cpW_0]; exact g24) (fun b hb1 hb2 _ => (((o22 b hb1).trans (o1 b hb1 hb2)).trans (o3 b hb1)).trans (hfr b hb1 hb2)))
    · have hk : k < 40 := Nat.not_le.mp fun q => c_10 ((nI_leI (a := 40) (by decide) (by omega)).mpr q)
      refine qp_aload_n dX4_read_13 rfl ?_
      refine qp_getf dX4_read_14 fX4_13 gm rfl ?_
      refine qp_iload_n dX4_read_17 rfl ?_
      refine qp_iconst (v := 0) dX4_read_18 (by decide) ?_
      refine qk_iast (k) dX4_read_19 gw nn rfl (by omega) (by decide) (fun h26 g27 o28 => ?_)
      have g29 : h26 m0 = some (.inr (5, [.int (0), .int (0), .ref sa, .int (nI z), .ref nw, .ref la, .int (th), .ref sh, .ref rcm, .int (cnt), .ref bf, .int (ps), .int (pp), .int (wr)])) := (o28 _ (ne_of_cells gm gw (by simp))).trans gm
      have g30 : h26 sa = some (.inl (1, 60, .inl (g))) := (o28 _ (ne_of_cells gs gw (by simp))).trans gs
      have g31 : h26 la = some (.inl (0, 40, .inl (a))) := (o28 _ (Ne.symm hnl)).trans gl
      have g27 : h26 nw = some (.inl (0, 40, .inl (upd (clrW w k) (k) (0)))) := g27
      refine qp_iinc (v := nI (k + 1)) dX4_read_20 rfl (by decide) (nI_1 k) ?_
      refine QP.locsE (L1 := [some (.ref m0), some (.int (nI (k + 1))), none]) rfl ?_
      refine qp_goto 7 dX4_read_23 (by decide) ?_
      rw [clrW_s] at g27
      exact ih (k + 1) h26 (by omega) (by omega) g29 g30 g27 g31 (fun b hb1 hb2 => (o28 b hb2).trans (hfr b hb1 hb2))
set_option maxHeartbeats 4000000 in
set_option maxRecDepth 100000 in
theorem m_read0 (G : qG) {h : qH} {thr th cnt ps pp wr : Int32} {m0 sa nw la sh rcm bf z : Nat} {g w a : Nat → Int32} (nm : G.2.1 ≤ m0) (nn : G.2.1 ≤ nw) (nla : G.2.1 ≤ la) (hnl : nw ≠ la) (hz : z ≤ 60) (hby : ∀ i, i < z → (g i = 46 ↔ g i &&& 255 = 46)) (gm : h m0 = some (mdCell thr 0 sa (nI z) nw la th sh rcm cnt bf ps pp wr)) (gs : h sa = some (saCell g)) (gw : h nw = some (rwCell w)) (gl : h la = some (rwCell a)) : qMet G M_X4_read [.ref m0] h (qI (fun v h1 => MdRes h h1 0 th cnt ps m0 sa nw la sh rcm bf a v (mReads0 (Sm z g) z (clrW w 40)))) := by
  refine qMet.of (by decide) (Nat.le_of_ble_eq_true rfl) rfl ?_
  refine QP.locsE (L1 := [some (.ref m0), none, none]) rfl ?_
  refine qp_aload_n dX4_read_0 rfl ?_
  refine qp_iconst (v := 0) dX4_read_1 (by decide) ?_
  refine qk_put dX4_read_2 fX4_33 gm nm rfl rfl rfl rfl rfl (fun h1 g2 o3 => ?_)
  have g4 : h1 sa = some (.inl (1, 60, .inl (g))) := (o3 _ (ne_of_cells gs gm (by simp))).trans gs
  have g5 : h1 nw = some (.inl (0, 40, .inl (w))) := (o3 _ (ne_of_cells gw gm (by simp))).trans gw
  have g6 : h1 la = some (.inl (0, 40, .inl (a))) := (o3 _ (ne_of_cells gl gm (by simp))).trans gl
  have g2 : h1 m0 = some (.inr (5, [.int (0), .int (0), .ref sa, .int (nI z), .ref nw, .ref la, .int (th), .ref sh, .ref rcm, .int (cnt), .ref bf, .int (ps), .int (pp), .int (wr)])) := g2
  refine qp_iconst (v := 0) dX4_read_5 (by decide) ?_
  refine qp_istore_n dX4_read_6 (by decide) ?_
  refine QP.locsE (L1 := [some (.ref m0), some (.int (0)), none]) rfl ?_
  refine QP.forget 2 ?_
  exact lm_read0 nm nn nla hnl hz hby 41 0 h1 (by omega) (by omega) g2 g4 (by rw [clrW_0]; exact g5) g6 (fun b hb1 _ => (o3 b hb1))
set_option maxHeartbeats 4000000 in
set_option maxRecDepth 100000 in
theorem lm_read1 {G : qG} {h0 : qH} {th cnt ps pp wr : Int32} {m0 sa nw la sh rcm bf z : Nat} {g w a : Nat → Int32} (nm : G.2.1 ≤ m0) (nn : G.2.1 ≤ nw) (nla : G.2.1 ≤ la) (hnl : nw ≠ la) (hz : z ≤ 60) (hby : ∀ i, i < z → (g i = 46 ↔ g i &&& 255 = 46)) : ∀ (t k : Nat) (h : qH), 40 < k + t → k ≤ 40 → h m0 = some (mdCell 0 1 sa (nI z) nw la th sh rcm cnt bf ps pp wr) → h sa = some (saCell g) → h nw = some (rwCell (clrW w k)) → h la = some (rwCell a) → (∀ b : Nat, b ≠ m0 → b ≠ nw → h b = h0 b) → QP G M_X4_read qTr (qMZ G M_X4_read (qI (fun v h1 => MdRes h0 h1 1 th cnt ps m0 sa nw la sh rcm bf a v (mReads1 (Sm z g) z (clrW w 40))))) 7 [some (.ref m0), some (.int (nI k)), none] [] h 0 0 := by
  intro t
  induction t with
  | zero =>
    intro k h h1 h2
    omega
  | succ t ih =>
    intro k h h1 h2 gm gs gw gl hfr
    refine qp_iload_n dX4_read_7 rfl ?_
    refine qp_bipush (v := 40) dX4_read_8 (by decide) ?_
    refine qp_icmp_ge 26 dX4_read_10 (by decide) (fun c_10 => ?_) (fun c_10 => ?_)
    · have hk : k = 40 := by have := (nI_leI (a := 40) (by decide) (by omega)).mp c_10; omega
      subst hk
      refine qp_aload_n dX4_read_26 rfl ?_
      refine qp_iconst (v := 0) dX4_read_27 (by decide) ?_
      refine qk_put dX4_read_28 fX4_39 gm nm rfl rfl rfl rfl rfl (fun h1 g2 o3 => ?_)
      have g4 : h1 sa = some (.inl (1, 60, .inl (g))) := (o3 _ (ne_of_cells gs gm (by simp))).trans gs
      have g5 : h1 nw = some (.inl (0, 40, .inl (clrW w 40))) := (o3 _ (ne_of_cells gw gm (by simp))).trans gw
      have g6 : h1 la = some (.inl (0, 40, .inl (a))) := (o3 _ (ne_of_cells gl gm (by simp))).trans gl
      have g2 : h1 m0 = some (.inr (5, [.int (0), .int (1), .ref sa, .int (nI z), .ref nw, .ref la, .int (th), .ref sh, .ref rcm, .int (cnt), .ref bf, .int (ps), .int (0), .int (wr)])) := g2
      refine qp_aload_n dX4_read_31 rfl ?_
      refine qv_Iq dX4_read_32 mX4_88 (m_reads1 G nm nn hz hby g2 g4 g5) g2 rfl rfl rfl rfl rfl rfl rfl (fun h8 p9 => ?_)
      rcases hs : mReads1 (Sm z g) z (clrW w 40) with q | ⟨q, y⟩
      · rw [hs] at p9
        obtain ⟨⟨pp1, w1, gm1, gw1⟩, o1⟩ := p9
        have g10 : h8 sa = some (.inl (1, 60, .inl (g))) := (o1 _ (ne_of_cells g4 g2 (by simp)) (ne_of_cells g4 g5 (by simp))).trans g4
        have g11 : h8 la = some (.inl (0, 40, .inl (a))) := (o1 _ (ne_of_cells g6 g2 (by simp)) (Ne.symm hnl)).trans g6
        have gm1 : h8 m0 = some (.inr (5, [.int (0), .int (1), .ref sa, .int (nI z), .ref nw, .ref la, .int (th), .ref sh, .ref rcm, .int (cnt), .ref bf, .int (ps), .int (pp1), .int (nI q)])) := gm1
        have gw1 : h8 nw = some (.inl (0, 40, .inl (w1))) := gw1
        refine QP.topI (y := 0) rfl ?_
        refine qp_istore_n dX4_read_35 (by decide) ?_
        refine QP.locsE (L1 := [some (.ref m0), some (.int (0)), none]) rfl ?_
        refine qp_aload_n dX4_read_36 rfl ?_
        refine qp_iconst (v := 0) dX4_read_37 (by decide) ?_
        refine qk_put dX4_read_38 fX4_36 gm1 nm rfl rfl rfl rfl rfl (fun h12 g13 o14 => ?_)
        have g15 : h12 sa = some (.inl (1, 60, .inl (g))) := (o14 _ (ne_of_cells g10 gm1 (by simp))).trans g10
        have g16 : h12 la = some (.inl (0, 40, .inl (a))) := (o14 _ (ne_of_cells g11 gm1 (by simp))).trans g11
        have g17 : h12 nw = some (.inl (0, 40, .inl (w1))) := (o14 _ (ne_of_cells gw1 gm1 (by simp))).trans gw1
        have g13 : h12 m0 = some (.inr (5, [.int (0), .int (1), .ref sa, .int (0), .ref nw, .ref la, .int (th), .ref sh, .ref rcm, .int (cnt), .ref bf, .int (ps), .int (pp1), .int (nI q)])) := g13
        refine qp_iload_n dX4_read_41 rfl ?_
        refine qp_if_ne 52 dX4_read_42 (by decide) (fun c_42 => absurd rfl c_42) (fun c_42 => ?_)
        refine qp_iconst (v := -1) dX4_read_45 (by decide) ?_
        refine qp_aload_n dX4_read_46 rfl ?_
        refine qp_getf dX4_read_47 fX4_42 g13 rfl ?_
        refine qp_isub dX4_read_50 ?_
        exact qr_i dX4_read_51 rfl rfl rfl ⟨rfl, ⟨_, _, g13, g17⟩, fun b hb1 hb2 => (((o14 b hb1).trans (o1 b hb1 hb2)).trans (o3 b hb1)).trans (hfr b hb1 hb2)⟩
      · rw [hs] at p9
        obtain ⟨⟨wr1, gm1, gw1⟩, o1⟩ := p9
        have g18 : h8 sa = some (.inl (1, 60, .inl (g))) := (o1 _ (ne_of_cells g4 g2 (by simp)) (ne_of_cells g4 g5 (by simp))).trans g4
        have g19 : h8 la = some (.inl (0, 40, .inl (a))) := (o1 _ (ne_of_cells g6 g2 (by simp)) (Ne.symm hnl)).trans g6
        have gm1 : h8 m0 = some (.inr (5, [.int (0), .int (1), .ref sa, .int (nI z), .ref nw, .ref la, .int (th), .ref sh, .ref rcm, .int (cnt), .ref bf, .int (ps), .int (nI q), .int (wr1)])) := gm1
        have gw1 : h8 nw = some (.inl (0, 40, .inl (y))) := gw1
        refine QP.topI (y := 1) rfl ?_
        refine qp_istore_n dX4_read_35 (by decide) ?_
        refine QP.locsE (L1 := [some (.ref m0), some (.int (1)), none]) rfl ?_
        refine qp_aload_n dX4_read_36 rfl ?_
        refine qp_iconst (v := 0) dX4_read_37 (by decide) ?_
        refine qk_put dX4_read_38 fX4_36 gm1 nm rfl rfl rfl rfl rfl (fun h20 g21 o22 => ?_)
        have g23 : h20 sa = some (.inl (1, 60, .inl (g))) := (o22 _ (ne_of_cells g18 gm1 (by simp))).trans g18
        have g24 : h20 la = some (.inl (0, 40, .inl (a))) := (o22 _ (ne_of_cells g19 gm1 (by simp))).trans g19
        have g25 : h20 nw = some (.inl (0, 40, .inl (y))) := (o22 _ (ne_of_cells gw1 gm1 (by simp))).trans gw1
        have g21 : h20 m0 = some (.inr (5, [.int (0), .int (1), .ref sa, .int (0), .ref nw, .ref la, .int (th), .ref sh, .ref rcm, .int (cnt), .ref bf, .int (ps), .int (nI q), .int (wr1)])) := g21
        refine qp_iload_n dX4_read_41 rfl ?_
        refine qp_if_ne 52 dX4_read_42 (by decide) (fun c_42 => ?_) (fun c_42 => absurd c_42 (by decide))
        refine qp_iconst (v := 0) dX4_read_52 (by decide) ?_
        refine qp_istore_n dX4_read_53 (by decide) ?_
        refine QP.locsE (L1 := [some (.ref m0), some (.int (1)), some (.int (0))]) rfl ?_
        refine QP.mono (fun r h' ⟨v, e, hq⟩ => ⟨v, e, hq⟩) (lm_copy1 (w := y) (a := a) (x1 := 1) nm nn nla hnl 41 0 h20 (by omega) (by omega) g21 g25 (by rw [cpW_0]; exact g24) (fun b hb1 hb2 _ => (((o22 b hb1).trans (o1 b hb1 hb2)).trans (o3 b hb1)).trans (hfr b hb1 hb2)))
    · have hk : k < 40 := Nat.not_le.mp fun q => c_10 ((nI_leI (a := 40) (by decide) (by omega)).mpr q)
      refine qp_aload_n dX4_read_13 rfl ?_
      refine qp_getf dX4_read_14 fX4_13 gm rfl ?_
      refine qp_iload_n dX4_read_17 rfl ?_
      refine qp_iconst (v := 0) dX4_read_18 (by decide) ?_
      refine qk_iast (k) dX4_read_19 gw nn rfl (by omega) (by decide) (fun h26 g27 o28 => ?_)
      have g29 : h26 m0 = some (.inr (5, [.int (0), .int (1), .ref sa, .int (nI z), .ref nw, .ref la, .int (th), .ref sh, .ref rcm, .int (cnt), .ref bf, .int (ps), .int (pp), .int (wr)])) := (o28 _ (ne_of_cells gm gw (by simp))).trans gm
      have g30 : h26 sa = some (.inl (1, 60, .inl (g))) := (o28 _ (ne_of_cells gs gw (by simp))).trans gs
      have g31 : h26 la = some (.inl (0, 40, .inl (a))) := (o28 _ (Ne.symm hnl)).trans gl
      have g27 : h26 nw = some (.inl (0, 40, .inl (upd (clrW w k) (k) (0)))) := g27
      refine qp_iinc (v := nI (k + 1)) dX4_read_20 rfl (by decide) (nI_1 k) ?_
      refine QP.locsE (L1 := [some (.ref m0), some (.int (nI (k + 1))), none]) rfl ?_
      refine qp_goto 7 dX4_read_23 (by decide) ?_
      rw [clrW_s] at g27
      exact ih (k + 1) h26 (by omega) (by omega) g29 g30 g27 g31 (fun b hb1 hb2 => (o28 b hb2).trans (hfr b hb1 hb2))
set_option maxHeartbeats 4000000 in
set_option maxRecDepth 100000 in
theorem m_read1 (G : qG) {h : qH} {thr th cnt ps pp wr : Int32} {m0 sa nw la sh rcm bf z : Nat} {g w a : Nat → Int32} (nm : G.2.1 ≤ m0) (nn : G.2.1 ≤ nw) (nla : G.2.1 ≤ la) (hnl : nw ≠ la) (hz : z ≤ 60) (hby : ∀ i, i < z → (g i = 46 ↔ g i &&& 255 = 46)) (gm : h m0 = some (mdCell thr 1 sa (nI z) nw la th sh rcm cnt bf ps pp wr)) (gs : h sa = some (saCell g)) (gw : h nw = some (rwCell w)) (gl : h la = some (rwCell a)) : qMet G M_X4_read [.ref m0] h (qI (fun v h1 => MdRes h h1 1 th cnt ps m0 sa nw la sh rcm bf a v (mReads1 (Sm z g) z (clrW w 40)))) := by
  refine qMet.of (by decide) (Nat.le_of_ble_eq_true rfl) rfl ?_
  refine QP.locsE (L1 := [some (.ref m0), none, none]) rfl ?_
  refine qp_aload_n dX4_read_0 rfl ?_
  refine qp_iconst (v := 0) dX4_read_1 (by decide) ?_
  refine qk_put dX4_read_2 fX4_33 gm nm rfl rfl rfl rfl rfl (fun h1 g2 o3 => ?_)
  have g4 : h1 sa = some (.inl (1, 60, .inl (g))) := (o3 _ (ne_of_cells gs gm (by simp))).trans gs
  have g5 : h1 nw = some (.inl (0, 40, .inl (w))) := (o3 _ (ne_of_cells gw gm (by simp))).trans gw
  have g6 : h1 la = some (.inl (0, 40, .inl (a))) := (o3 _ (ne_of_cells gl gm (by simp))).trans gl
  have g2 : h1 m0 = some (.inr (5, [.int (0), .int (1), .ref sa, .int (nI z), .ref nw, .ref la, .int (th), .ref sh, .ref rcm, .int (cnt), .ref bf, .int (ps), .int (pp), .int (wr)])) := g2
  refine qp_iconst (v := 0) dX4_read_5 (by decide) ?_
  refine qp_istore_n dX4_read_6 (by decide) ?_
  refine QP.locsE (L1 := [some (.ref m0), some (.int (0)), none]) rfl ?_
  refine QP.forget 2 ?_
  exact lm_read1 nm nn nla hnl hz hby 41 0 h1 (by omega) (by omega) g2 g4 (by rw [clrW_0]; exact g5) g6 (fun b hb1 _ => (o3 b hb1))
