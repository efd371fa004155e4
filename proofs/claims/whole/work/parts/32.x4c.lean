set_option maxHeartbeats 4000000 in
set_option maxRecDepth 100000 in
theorem lm_frac0 {G : qG} {h0 : qH} {thr th cnt ps : Int32} {m0 sa nw la sh rcm bf z p : Nat} {g w : Nat → Int32} {R : MOut} (nm : G.2.1 ≤ m0) (nn : G.2.1 ≤ nw) (hz : z ≤ 60) (hp : p ≤ 150) {wr : Int32} {h : qH} {a1 a2 : Option Value} (hR : R = mFrac (Sm z g) p 9 w) (gm : h m0 = some (mdCell thr 0 sa (nI z) nw la th sh rcm cnt bf ps (nI p) wr)) (gs : h sa = some (saCell g)) (gw : h nw = some (rwCell w)) (hfr : ∀ b : Nat, b ≠ m0 → b ≠ nw → h b = h0 b) : QP G M_X4_readClass qTr (qMZ G M_X4_readClass (qI (fun v h1 => v = bI (mOk R) ∧ MdOut h0 h1 thr 0 th cnt ps m0 sa nw la sh rcm bf z R))) 158 [some (.ref m0), a1, a2] [] h 0 0 := by
  refine qp_aload_n dX4_readClass_158 rfl ?_
  refine qv_Ip dX4_readClass_159 mX4_45 (m_look G hz (by omega) gm gs) gm rfl rfl rfl rfl rfl rfl rfl ?_
  refine qp_bipush (v := 46) dX4_readClass_162 (by decide) ?_
  refine qp_icmp_ne 200 dX4_readClass_164 (by decide) (fun c_164 => ?_) (fun c_164 => ?_)
  · refine qp_aload_n dX4_readClass_200 rfl ?_
    refine qp_getf dX4_readClass_201 fX4_13 gm rfl ?_
    refine qp_bipush (v := 37) dX4_readClass_204 (by decide) ?_
    refine qp_aload_n dX4_readClass_206 rfl ?_
    refine qp_getf dX4_readClass_207 fX4_39 gm rfl ?_
    refine qk_iast (37) dX4_readClass_210 gw nn rfl (by omega) (by decide) (fun h4 g5 o6 => ?_)
    have g7 : h4 m0 = some (.inr (5, [.int (thr), .int (0), .ref sa, .int (nI z), .ref nw, .ref la, .int (th), .ref sh, .ref rcm, .int (cnt), .ref bf, .int (ps), .int (nI p), .int (wr)])) := (o6 _ (ne_of_cells gm gw (by simp))).trans gm
    have g8 : h4 sa = some (.inl (1, 60, .inl (g))) := (o6 _ (ne_of_cells gs gw (by simp))).trans gs
    have g5 : h4 nw = some (.inl (0, 40, .inl (upd (w) (37) (nI p)))) := g5
    refine qp_iconst (v := 1) dX4_readClass_211 (by decide) ?_
    have eR : R = .inr (p, upd w 37 (nI p)) := by rw [hR, mFrac, if_neg c_164]; rfl
    exact qr_z dX4_readClass_212 rfl nar_1 rfl rfl ⟨by rw [eR]; rfl, by rw [eR]; exact ⟨⟨_, g7, g5⟩, fun b hb1 hb2 => (o6 b hb2).trans (hfr b hb1 hb2)⟩⟩
  · refine qp_aload_n dX4_readClass_167 rfl ?_
    refine qp_dup dX4_readClass_168 rfl ?_
    refine qp_getf dX4_readClass_169 fX4_39 gm rfl ?_
    refine qp_iconst (v := 1) dX4_readClass_172 (by decide) ?_
    refine qp_iadd dX4_readClass_173 ?_
    refine QP.topI (y := nI (p + 1)) (nI_1 p) ?_
    refine qk_put dX4_readClass_174 fX4_39 gm nm rfl rfl rfl rfl rfl (fun h9 g10 o11 => ?_)
    have g12 : h9 sa = some (.inl (1, 60, .inl (g))) := (o11 _ (ne_of_cells gs gm (by simp))).trans gs
    have g13 : h9 nw = some (.inl (0, 40, .inl (w))) := (o11 _ (ne_of_cells gw gm (by simp))).trans gw
    have g10 : h9 m0 = some (.inr (5, [.int (thr), .int (0), .ref sa, .int (nI z), .ref nw, .ref la, .int (th), .ref sh, .ref rcm, .int (cnt), .ref bf, .int (ps), .int (nI (p + 1)), .int (wr)])) := g10
    refine qp_aload_n dX4_readClass_177 rfl ?_
    refine qp_iconst (v := 4) dX4_readClass_178 (by decide) ?_
    refine qp_aload_n dX4_readClass_179 rfl ?_
    refine qp_getf dX4_readClass_180 fX4_29 g10 rfl ?_
    refine qp_if_ne 191 dX4_readClass_183 (by decide) (fun c_183 => absurd rfl c_183) (fun c_183 => ?_)
    refine qp_bipush (v := 9) dX4_readClass_186 (by decide) ?_
    refine qp_goto 192 dX4_readClass_188 (by decide) ?_
    refine qv_Iq dX4_readClass_192 mX4_63 (m_digits G (4) (9) (by omega) (p := p + 1) ⟨nm, nn, hz, by omega, g10, g12, g13⟩) g10 rfl rfl rfl rfl rfl rfl rfl (fun h15 p16 => ?_)
    rcases hs17 : mDigits (Sm z g) (p + 1) (4) (9) (w) with q17 | ⟨q17, w17⟩
    · rw [hs17] at p16
      obtain ⟨⟨pp17, w17, g18, g19⟩, o20⟩ := p16
      have g21 : h15 sa = some (.inl (1, 60, .inl (g))) := (o20 _ (ne_of_cells g12 g10 (by simp)) (ne_of_cells g12 g13 (by simp))).trans g12
      have g18 : h15 m0 = some (.inr (5, [.int (thr), .int (0), .ref sa, .int (nI z), .ref nw, .ref la, .int (th), .ref sh, .ref rcm, .int (cnt), .ref bf, .int (ps), .int (pp17), .int (nI q17)])) := g18
      have g19 : h15 nw = some (.inl (0, 40, .inl (w17))) := g19
      refine QP.topI (y := 0) rfl ?_
      refine qp_if_ne 200 dX4_readClass_195 (by decide) (fun c_195 => absurd rfl c_195) (fun c_195 => ?_)
      refine qp_iconst (v := 0) dX4_readClass_198 (by decide) ?_
      have eR : R = .inl q17 := by rw [hR, mFrac, if_pos c_164, hs17]; rfl
      exact qr_z dX4_readClass_199 rfl nar_0 rfl rfl ⟨by rw [eR]; rfl, by rw [eR]; exact ⟨⟨_, _, g18, g19⟩, fun b hb1 hb2 => ((o20 b hb1 hb2).trans (o11 b hb1)).trans (hfr b hb1 hb2)⟩⟩
    · rw [hs17] at p16
      obtain ⟨⟨wr17, g22, g23⟩, o24⟩ := p16
      have bd17 := mDigits_bd hs17
      have g25 : h15 sa = some (.inl (1, 60, .inl (g))) := (o24 _ (ne_of_cells g12 g10 (by simp)) (ne_of_cells g12 g13 (by simp))).trans g12
      have g22 : h15 m0 = some (.inr (5, [.int (thr), .int (0), .ref sa, .int (nI z), .ref nw, .ref la, .int (th), .ref sh, .ref rcm, .int (cnt), .ref bf, .int (ps), .int (nI q17), .int (wr17)])) := g22
      have g23 : h15 nw = some (.inl (0, 40, .inl (w17))) := g23
      refine QP.topI (y := 1) rfl ?_
      refine qp_if_ne 200 dX4_readClass_195 (by decide) (fun c_195 => ?_) (fun c_195 => absurd c_195 (by decide))
      refine qp_aload_n dX4_readClass_200 rfl ?_
      refine qp_getf dX4_readClass_201 fX4_13 g22 rfl ?_
      refine qp_bipush (v := 37) dX4_readClass_204 (by decide) ?_
      refine qp_aload_n dX4_readClass_206 rfl ?_
      refine qp_getf dX4_readClass_207 fX4_39 g22 rfl ?_
      refine qk_iast (37) dX4_readClass_210 g23 nn rfl (by omega) (by decide) (fun h26 g27 o28 => ?_)
      have g29 : h26 sa = some (.inl (1, 60, .inl (g))) := (o28 _ (ne_of_cells g25 g23 (by simp))).trans g25
      have g30 : h26 m0 = some (.inr (5, [.int (thr), .int (0), .ref sa, .int (nI z), .ref nw, .ref la, .int (th), .ref sh, .ref rcm, .int (cnt), .ref bf, .int (ps), .int (nI q17), .int (wr17)])) := (o28 _ (ne_of_cells g22 g23 (by simp))).trans g22
      have g27 : h26 nw = some (.inl (0, 40, .inl (upd (w17) (37) (nI q17)))) := g27
      refine qp_iconst (v := 1) dX4_readClass_211 (by decide) ?_
      have eR : R = .inr (q17, upd w17 37 (nI q17)) := by rw [hR, mFrac, if_pos c_164, hs17]; rfl
      exact qr_z dX4_readClass_212 rfl nar_1 rfl rfl ⟨by rw [eR]; rfl, by rw [eR]; exact ⟨⟨_, g30, g27⟩, fun b hb1 hb2 => (((o28 b hb2).trans (o24 b hb1 hb2)).trans (o11 b hb1)).trans (hfr b hb1 hb2)⟩⟩
set_option maxHeartbeats 4000000 in
set_option maxRecDepth 100000 in
theorem lm_frac1 {G : qG} {h0 : qH} {thr th cnt ps : Int32} {m0 sa nw la sh rcm bf z p : Nat} {g w : Nat → Int32} {R : MOut} (nm : G.2.1 ≤ m0) (nn : G.2.1 ≤ nw) (hz : z ≤ 60) (hp : p ≤ 150) {wr : Int32} {h : qH} {a1 a2 : Option Value} (hR : R = mFrac (Sm z g) p 4 w) (gm : h m0 = some (mdCell thr 1 sa (nI z) nw la th sh rcm cnt bf ps (nI p) wr)) (gs : h sa = some (saCell g)) (gw : h nw = some (rwCell w)) (hfr : ∀ b : Nat, b ≠ m0 → b ≠ nw → h b = h0 b) : QP G M_X4_readClass qTr (qMZ G M_X4_readClass (qI (fun v h1 => v = bI (mOk R) ∧ MdOut h0 h1 thr 1 th cnt ps m0 sa nw la sh rcm bf z R))) 158 [some (.ref m0), a1, a2] [] h 0 0 := by
  refine qp_aload_n dX4_readClass_158 rfl ?_
  refine qv_Ip dX4_readClass_159 mX4_45 (m_look G hz (by omega) gm gs) gm rfl rfl rfl rfl rfl rfl rfl ?_
  refine qp_bipush (v := 46) dX4_readClass_162 (by decide) ?_
  refine qp_icmp_ne 200 dX4_readClass_164 (by decide) (fun c_164 => ?_) (fun c_164 => ?_)
  · refine qp_aload_n dX4_readClass_200 rfl ?_
    refine qp_getf dX4_readClass_201 fX4_13 gm rfl ?_
    refine qp_bipush (v := 37) dX4_readClass_204 (by decide) ?_
    refine qp_aload_n dX4_readClass_206 rfl ?_
    refine qp_getf dX4_readClass_207 fX4_39 gm rfl ?_
    refine qk_iast (37) dX4_readClass_210 gw nn rfl (by omega) (by decide) (fun h4 g5 o6 => ?_)
    have g7 : h4 m0 = some (.inr (5, [.int (thr), .int (1), .ref sa, .int (nI z), .ref nw, .ref la, .int (th), .ref sh, .ref rcm, .int (cnt), .ref bf, .int (ps), .int (nI p), .int (wr)])) := (o6 _ (ne_of_cells gm gw (by simp))).trans gm
    have g8 : h4 sa = some (.inl (1, 60, .inl (g))) := (o6 _ (ne_of_cells gs gw (by simp))).trans gs
    have g5 : h4 nw = some (.inl (0, 40, .inl (upd (w) (37) (nI p)))) := g5
    refine qp_iconst (v := 1) dX4_readClass_211 (by decide) ?_
    have eR : R = .inr (p, upd w 37 (nI p)) := by rw [hR, mFrac, if_neg c_164]; rfl
    exact qr_z dX4_readClass_212 rfl nar_1 rfl rfl ⟨by rw [eR]; rfl, by rw [eR]; exact ⟨⟨_, g7, g5⟩, fun b hb1 hb2 => (o6 b hb2).trans (hfr b hb1 hb2)⟩⟩
  · refine qp_aload_n dX4_readClass_167 rfl ?_
    refine qp_dup dX4_readClass_168 rfl ?_
    refine qp_getf dX4_readClass_169 fX4_39 gm rfl ?_
    refine qp_iconst (v := 1) dX4_readClass_172 (by decide) ?_
    refine qp_iadd dX4_readClass_173 ?_
    refine QP.topI (y := nI (p + 1)) (nI_1 p) ?_
    refine qk_put dX4_readClass_174 fX4_39 gm nm rfl rfl rfl rfl rfl (fun h9 g10 o11 => ?_)
    have g12 : h9 sa = some (.inl (1, 60, .inl (g))) := (o11 _ (ne_of_cells gs gm (by simp))).trans gs
    have g13 : h9 nw = some (.inl (0, 40, .inl (w))) := (o11 _ (ne_of_cells gw gm (by simp))).trans gw
    have g10 : h9 m0 = some (.inr (5, [.int (thr), .int (1), .ref sa, .int (nI z), .ref nw, .ref la, .int (th), .ref sh, .ref rcm, .int (cnt), .ref bf, .int (ps), .int (nI (p + 1)), .int (wr)])) := g10
    refine qp_aload_n dX4_readClass_177 rfl ?_
    refine qp_iconst (v := 4) dX4_readClass_178 (by decide) ?_
    refine qp_aload_n dX4_readClass_179 rfl ?_
    refine qp_getf dX4_readClass_180 fX4_29 g10 rfl ?_
    refine qp_if_ne 191 dX4_readClass_183 (by decide) (fun c_183 => ?_) (fun c_183 => absurd c_183 (by decide))
    refine qp_iconst (v := 4) dX4_readClass_191 (by decide) ?_
    refine qv_Iq dX4_readClass_192 mX4_63 (m_digits G (4) (4) (by omega) (p := p + 1) ⟨nm, nn, hz, by omega, g10, g12, g13⟩) g10 rfl rfl rfl rfl rfl rfl rfl (fun h15 p16 => ?_)
    rcases hs17 : mDigits (Sm z g) (p + 1) (4) (4) (w) with q17 | ⟨q17, w17⟩
    · rw [hs17] at p16
      obtain ⟨⟨pp17, w17, g18, g19⟩, o20⟩ := p16
      have g21 : h15 sa = some (.inl (1, 60, .inl (g))) := (o20 _ (ne_of_cells g12 g10 (by simp)) (ne_of_cells g12 g13 (by simp))).trans g12
      have g18 : h15 m0 = some (.inr (5, [.int (thr), .int (1), .ref sa, .int (nI z), .ref nw, .ref la, .int (th), .ref sh, .ref rcm, .int (cnt), .ref bf, .int (ps), .int (pp17), .int (nI q17)])) := g18
      have g19 : h15 nw = some (.inl (0, 40, .inl (w17))) := g19
      refine QP.topI (y := 0) rfl ?_
      refine qp_if_ne 200 dX4_readClass_195 (by decide) (fun c_195 => absurd rfl c_195) (fun c_195 => ?_)
      refine qp_iconst (v := 0) dX4_readClass_198 (by decide) ?_
      have eR : R = .inl q17 := by rw [hR, mFrac, if_pos c_164, hs17]; rfl
      exact qr_z dX4_readClass_199 rfl nar_0 rfl rfl ⟨by rw [eR]; rfl, by rw [eR]; exact ⟨⟨_, _, g18, g19⟩, fun b hb1 hb2 => ((o20 b hb1 hb2).trans (o11 b hb1)).trans (hfr b hb1 hb2)⟩⟩
    · rw [hs17] at p16
      obtain ⟨⟨wr17, g22, g23⟩, o24⟩ := p16
      have bd17 := mDigits_bd hs17
      have g25 : h15 sa = some (.inl (1, 60, .inl (g))) := (o24 _ (ne_of_cells g12 g10 (by simp)) (ne_of_cells g12 g13 (by simp))).trans g12
      have g22 : h15 m0 = some (.inr (5, [.int (thr), .int (1), .ref sa, .int (nI z), .ref nw, .ref la, .int (th), .ref sh, .ref rcm, .int (cnt), .ref bf, .int (ps), .int (nI q17), .int (wr17)])) := g22
      have g23 : h15 nw = some (.inl (0, 40, .inl (w17))) := g23
      refine QP.topI (y := 1) rfl ?_
      refine qp_if_ne 200 dX4_readClass_195 (by decide) (fun c_195 => ?_) (fun c_195 => absurd c_195 (by decide))
      refine qp_aload_n dX4_readClass_200 rfl ?_
      refine qp_getf dX4_readClass_201 fX4_13 g22 rfl ?_
      refine qp_bipush (v := 37) dX4_readClass_204 (by decide) ?_
      refine qp_aload_n dX4_readClass_206 rfl ?_
      refine qp_getf dX4_readClass_207 fX4_39 g22 rfl ?_
      refine qk_iast (37) dX4_readClass_210 g23 nn rfl (by omega) (by decide) (fun h26 g27 o28 => ?_)
      have g29 : h26 sa = some (.inl (1, 60, .inl (g))) := (o28 _ (ne_of_cells g25 g23 (by simp))).trans g25
      have g30 : h26 m0 = some (.inr (5, [.int (thr), .int (1), .ref sa, .int (nI z), .ref nw, .ref la, .int (th), .ref sh, .ref rcm, .int (cnt), .ref bf, .int (ps), .int (nI q17), .int (wr17)])) := (o28 _ (ne_of_cells g22 g23 (by simp))).trans g22
      have g27 : h26 nw = some (.inl (0, 40, .inl (upd (w17) (37) (nI q17)))) := g27
      refine qp_iconst (v := 1) dX4_readClass_211 (by decide) ?_
      have eR : R = .inr (q17, upd w17 37 (nI q17)) := by rw [hR, mFrac, if_pos c_164, hs17]; rfl
      exact qr_z dX4_readClass_212 rfl nar_1 rfl rfl ⟨by rw [eR]; rfl, by rw [eR]; exact ⟨⟨_, g30, g27⟩, fun b hb1 hb2 => (((o28 b hb2).trans (o24 b hb1 hb2)).trans (o11 b hb1)).trans (hfr b hb1 hb2)⟩⟩
set_option maxHeartbeats 4000000 in
set_option maxRecDepth 100000 in
theorem lm_class0 {G : qG} {h0 : qH} {thr th cnt ps : Int32} {m0 sa nw la sh rcm bf z p : Nat} {g w : Nat → Int32} {R : MOut} (nm : G.2.1 ≤ m0) (nn : G.2.1 ≤ nw) (hz : z ≤ 60) (hp : p ≤ 100) (hR : R = mClass0 (Sm z g) p w) : ∀ (t n : Nat) (wr : Int32) (h : qH), 3 < n + t → n ≤ 3 → (∀ j, j < n → isDig (Sm z g (p + j)) = true) → h m0 = some (mdCell thr 0 sa (nI z) nw la th sh rcm cnt bf ps (nI (p + n)) wr) → h sa = some (saCell g) → h nw = some (rwCell (w)) → (∀ b : Nat, b ≠ m0 → b ≠ nw → h b = h0 b) → QP G M_X4_readClass qTr (qMZ G M_X4_readClass (qI (fun v h1 => v = bI (mOk R) ∧ MdOut h0 h1 thr 0 th cnt ps m0 sa nw la sh rcm bf z R))) 11 [some (.ref m0), some (.int (sVal (Sm z g) p n)), some (.int (nI n))] [] h 0 0 := by
  intro t
  induction t with
  | zero =>
    intro n wr h h1 h2
    omega
  | succ t ih =>
    intro n wr h h1 h2 hdig gm gs gw hfr
    refine qp_iload_n dX4_readClass_11 rfl ?_
    refine qp_iconst (v := 3) dX4_readClass_12 (by decide) ?_
    refine qp_icmp_ge 64 dX4_readClass_13 (by decide) (fun c_13 => ?_) (fun c_13 => ?_)
    · have hn3 : n = 3 := by have := (nI_leI (a := 3) (by decide) (by omega)).mp c_13; omega
      refine qp_aload_n dX4_readClass_64 rfl ?_
      refine qp_getf dX4_readClass_65 fX4_13 gm rfl ?_
      refine qp_iconst (v := 3) dX4_readClass_68 (by decide) ?_
      refine qp_iload_n dX4_readClass_69 rfl ?_
      refine qp_iconst (v := 1) dX4_readClass_70 (by decide) ?_
      refine qp_iadd dX4_readClass_71 ?_
      refine qk_iast (3) dX4_readClass_72 gw nn rfl (by omega) (by decide) (fun h1 g2 o3 => ?_)
      have g4 : h1 m0 = some (.inr (5, [.int (thr), .int (0), .ref sa, .int (nI z), .ref nw, .ref la, .int (th), .ref sh, .ref rcm, .int (cnt), .ref bf, .int (ps), .int (nI (p + n)), .int (wr)])) := (o3 _ (ne_of_cells gm gw (by simp))).trans gm
      have g5 : h1 sa = some (.inl (1, 60, .inl (g))) := (o3 _ (ne_of_cells gs gw (by simp))).trans gs
      have g2 : h1 nw = some (.inl (0, 40, .inl (upd (w) (3) ((sVal (Sm z g) p n) + (1))))) := g2
      refine qp_goto 158 dX4_readClass_73 (by decide) ?_
      have hn : runD (Sm z g) 3 p = 3 := runD_dig 3 p (fun j hj => hdig j (by omega))
      exact lm_frac0 (p := p + n) nm nn hz (by omega) (by rw [hR, mClass0, hn, if_neg (by omega), hn3]) g4 g5 g2 (fun b hb1 hb2 => (o3 b hb2).trans (hfr b hb1 hb2))
    · have hn3 : n < 3 := Nat.not_le.mp fun q => c_13 ((nI_leI (a := 3) (by decide) (by omega)).mpr q)
      refine qp_aload_n dX4_readClass_16 rfl ?_
      refine qv_Ip dX4_readClass_17 mX4_45 (m_look G hz (by omega) gm gs) gm rfl rfl rfl rfl rfl rfl rfl ?_
      refine qs_Ip dX4_readClass_20 mX4_49 (m_isDigit G (Sm z g (p + n))) rfl rfl rfl rfl rfl rfl ?_
      refine qp_if_ne 35 dX4_readClass_23 (by decide) (fun c_23 => ?_) (fun c_23 => ?_)
      · rw [bI_n0] at c_23
        refine qp_bipush (v := 10) dX4_readClass_35 (by decide) ?_
        refine qp_iload_n dX4_readClass_37 rfl ?_
        refine qp_imul dX4_readClass_38 ?_
        refine qp_aload_n dX4_readClass_39 rfl ?_
        refine qv_Ip dX4_readClass_40 mX4_45 (m_look G hz (by omega) gm gs) gm rfl rfl rfl rfl rfl rfl rfl ?_
        refine qp_iadd dX4_readClass_43 ?_
        refine qp_bipush (v := 48) dX4_readClass_44 (by decide) ?_
        refine qp_isub dX4_readClass_46 ?_
        refine QP.topI (y := sVal (Sm z g) p (n + 1)) rfl ?_
        refine qp_istore_n dX4_readClass_47 (by decide) ?_
        refine QP.locsE (L1 := [some (.ref m0), some (.int (sVal (Sm z g) p (n + 1))), some (.int (nI n))]) rfl ?_
        refine qp_aload_n dX4_readClass_48 rfl ?_
        refine qp_dup dX4_readClass_49 rfl ?_
        refine qp_getf dX4_readClass_50 fX4_39 gm rfl ?_
        refine qp_iconst (v := 1) dX4_readClass_53 (by decide) ?_
        refine qp_iadd dX4_readClass_54 ?_
        refine QP.topI (y := nI (p + n + 1)) (nI_1 _) ?_
        refine qk_put dX4_readClass_55 fX4_39 gm nm rfl rfl rfl rfl rfl (fun h15 g16 o17 => ?_)
        have g18 : h15 sa = some (.inl (1, 60, .inl (g))) := (o17 _ (ne_of_cells gs gm (by simp))).trans gs
        have g19 : h15 nw = some (.inl (0, 40, .inl (w))) := (o17 _ (ne_of_cells gw gm (by simp))).trans gw
        have g16 : h15 m0 = some (.inr (5, [.int (thr), .int (0), .ref sa, .int (nI z), .ref nw, .ref la, .int (th), .ref sh, .ref rcm, .int (cnt), .ref bf, .int (ps), .int (nI (p + n + 1)), .int (wr)])) := g16
        refine qp_iinc (v := nI (n + 1)) dX4_readClass_58 rfl (by decide) (nI_1 n) ?_
        refine QP.locsE (L1 := [some (.ref m0), some (.int (sVal (Sm z g) p (n + 1))), some (.int (nI (n + 1)))]) rfl ?_
        refine qp_goto 11 dX4_readClass_61 (by decide) ?_
        exact ih (n + 1) _ h15 (by omega) (by omega) (fun j hj => by rcases Nat.lt_succ_iff_lt_or_eq.mp hj with q | q; exact hdig j q; rw [q]; exact c_23) g16 g18 g19 (fun b hb1 hb2 => (o17 b hb1).trans (hfr b hb1 hb2))
      · rw [bI_0] at c_23
        refine qp_aload_n dX4_readClass_26 rfl ?_
        refine qp_aload_n dX4_readClass_27 rfl ?_
        refine qp_getf dX4_readClass_28 fX4_39 gm rfl ?_
        refine qv_Iq dX4_readClass_31 mX4_53 (m_bad G (nI (p + n)) nm gm) gm rfl rfl rfl rfl rfl rfl rfl (fun h21 p22 => ?_)
        obtain ⟨g23, o24⟩ := p22
        have g25 : h21 sa = some (.inl (1, 60, .inl (g))) := (o24 _ (ne_of_cells gs gm (by simp))).trans gs
        have g26 : h21 nw = some (.inl (0, 40, .inl (w))) := (o24 _ (ne_of_cells gw gm (by simp))).trans gw
        have g23 : h21 m0 = some (.inr (5, [.int (thr), .int (0), .ref sa, .int (nI z), .ref nw, .ref la, .int (th), .ref sh, .ref rcm, .int (cnt), .ref bf, .int (ps), .int (nI (p + n)), .int (nI (p + n))])) := g23
        have hn : runD (Sm z g) 3 p = n := runD_stop 3 p n (by omega) hdig c_23
        have eR : R = .inl (p + n) := by rw [hR, mClass0, hn, if_pos hn3]
        exact qr_z dX4_readClass_34 rfl nar_0 rfl rfl ⟨by rw [eR]; rfl, by rw [eR]; exact ⟨⟨_, _, g23, g26⟩, fun b hb1 hb2 => (o24 b hb1).trans (hfr b hb1 hb2)⟩⟩
set_option maxHeartbeats 4000000 in
set_option maxRecDepth 100000 in
theorem m_readClass0 (G : qG) {h : qH} {thr th cnt ps wr : Int32} {m0 sa nw la sh rcm bf z p : Nat} {g w : Nat → Int32} (hp100 : p ≤ 100) (hin : MdIn G h thr 0 th cnt ps wr m0 sa nw la sh rcm bf z p g w) : qMet G M_X4_readClass [.ref m0] h (qI (fun v h1 => v = bI (mOk (mClass0 (Sm z g) p w)) ∧ MdOut h h1 thr 0 th cnt ps m0 sa nw la sh rcm bf z (mClass0 (Sm z g) p w))) := by
  obtain ⟨nm, nn, hz, hp, gm, gs, gw⟩ := hin
  refine qMet.of (by decide) (Nat.le_of_ble_eq_true rfl) rfl ?_
  refine QP.locsE (L1 := [some (.ref m0), none, none]) rfl ?_
  refine qp_aload_n dX4_readClass_0 rfl ?_
  refine qp_getf dX4_readClass_1 fX4_29 gm rfl ?_
  refine qp_if_ne 76 dX4_readClass_4 (by decide) (fun c_4 => absurd rfl c_4) (fun c_4 => ?_)
  refine qp_iconst (v := 0) dX4_readClass_7 (by decide) ?_
  refine qp_istore_n dX4_readClass_8 (by decide) ?_
  refine QP.locsE (L1 := [some (.ref m0), some (.int (0)), none]) rfl ?_
  refine qp_iconst (v := 0) dX4_readClass_9 (by decide) ?_
  refine qp_istore_n dX4_readClass_10 (by decide) ?_
  refine QP.locsE (L1 := [some (.ref m0), some (.int (0)), some (.int (0))]) rfl ?_
  exact lm_class0 nm nn hz hp100 rfl 4 0 wr h (by omega) (by omega) (fun j hj => absurd hj (by omega)) gm gs gw (fun _ _ _ => rfl)
set_option maxHeartbeats 4000000 in
set_option maxRecDepth 100000 in
theorem lm_class1 {G : qG} {h0 : qH} {thr th cnt ps : Int32} {m0 sa nw la sh rcm bf z p : Nat} {g w : Nat → Int32} {R : MOut} (nm : G.2.1 ≤ m0) (nn : G.2.1 ≤ nw) (hz : z ≤ 60) (hp : p ≤ 100) (hR : R = mClass1 (Sm z g) p w) : ∀ (t n : Nat) (wr : Int32) (h : qH), 3 < n + t → n ≤ 3 → (∀ j, j < n → isCap (Sm z g (p + j)) = true) → h m0 = some (mdCell thr 1 sa (nI z) nw la th sh rcm cnt bf ps (nI (p + n)) wr) → h sa = some (saCell g) → h nw = some (rwCell (rowW w 0 (Sm z g) p n)) → (∀ b : Nat, b ≠ m0 → b ≠ nw → h b = h0 b) → QP G M_X4_readClass qTr (qMZ G M_X4_readClass (qI (fun v h1 => v = bI (mOk R) ∧ MdOut h0 h1 thr 1 th cnt ps m0 sa nw la sh rcm bf z R))) 78 [some (.ref m0), some (.int (nI n)), none] [] h 0 0 := by
  intro t
  induction t with
  | zero =>
    intro n wr h h1 h2
    omega
  | succ t ih =>
    intro n wr h h1 h2 hdig gm gs gw hfr
    refine qp_aload_n dX4_readClass_78 rfl ?_
    refine qv_Ip dX4_readClass_79 mX4_45 (m_look G hz (by omega) gm gs) gm rfl rfl rfl rfl rfl rfl rfl ?_
    refine qs_Ip dX4_readClass_82 mX4_56 (m_isCapital G (Sm z g (p + n))) rfl rfl rfl rfl rfl rfl ?_
    refine qp_if_eq 128 dX4_readClass_85 (by decide) (fun c_85 => ?_) (fun c_85 => ?_)
    · rw [bI_0] at c_85
      refine qp_iload_n dX4_readClass_128 rfl ?_
      refine qp_if_eq 141 dX4_readClass_129 (by decide) (fun c_129 => ?_) (fun c_129 => ?_)
      · have hn0 : n = 0 := (nI_eq (b := 0) (by omega) (by decide)).mp c_129
        refine qp_iload_n dX4_readClass_141 rfl ?_
        refine qp_if_le 149 dX4_readClass_142 (by decide) (fun c_142 => ?_) (fun c_142 => absurd (by rw [hn0]; decide) c_142)
        refine qp_aload_n dX4_readClass_149 rfl ?_
        refine qp_aload_n dX4_readClass_150 rfl ?_
        refine qp_getf dX4_readClass_151 fX4_39 gm rfl ?_
        refine qv_Iq dX4_readClass_154 mX4_53 (m_bad G (nI (p + n)) nm gm) gm rfl rfl rfl rfl rfl rfl rfl (fun h8 p9 => ?_)
        obtain ⟨g10, o11⟩ := p9
        have g12 : h8 sa = some (.inl (1, 60, .inl (g))) := (o11 _ (ne_of_cells gs gm (by simp))).trans gs
        have g13 : h8 nw = some (.inl (0, 40, .inl (rowW w 0 (Sm z g) p n))) := (o11 _ (ne_of_cells gw gm (by simp))).trans gw
        have g10 : h8 m0 = some (.inr (5, [.int (thr), .int (1), .ref sa, .int (nI z), .ref nw, .ref la, .int (th), .ref sh, .ref rcm, .int (cnt), .ref bf, .int (ps), .int (nI (p + n)), .int (nI (p + n))])) := g10
        have hn : runP isCap (Sm z g) 3 p = n := runP_stop 3 p n (by omega) hdig c_85
        have eR : R = .inl (p + n) := by rw [hR, mClass1, hn, if_neg (by rw [c_85]; decide), if_pos hn0, hn0]; rfl
        exact qr_z dX4_readClass_157 rfl nar_0 rfl rfl ⟨by rw [eR]; rfl, by rw [eR]; exact ⟨⟨_, _, g10, g13⟩, fun b hb1 hb2 => (o11 b hb1).trans (hfr b hb1 hb2)⟩⟩
      · have hn0 : ¬ n = 0 := fun q => c_129 (by rw [q]; decide)
        refine qp_aload_n dX4_readClass_132 rfl ?_
        refine qp_iconst (v := 3) dX4_readClass_133 (by decide) ?_
        refine qp_iconst (v := 4) dX4_readClass_134 (by decide) ?_
        refine qv_Iq dX4_readClass_135 mX4_59 (m_number G (3) (4) (by omega) (by omega) (by omega) (p := p + n) ⟨nm, nn, hz, by omega, gm, gs, gw⟩) gm rfl rfl rfl rfl rfl rfl rfl (fun h15 p16 => ?_)
        rcases hs17 : mNumber (Sm z g) (p + n) (3) (4) (rowW w 0 (Sm z g) p n) with q17 | ⟨q17, w17⟩
        · rw [hs17] at p16
          obtain ⟨⟨pp17, w17, g18, g19⟩, o20⟩ := p16
          have g21 : h15 sa = some (.inl (1, 60, .inl (g))) := (o20 _ (ne_of_cells gs gm (by simp)) (ne_of_cells gs gw (by simp))).trans gs
          have g18 : h15 m0 = some (.inr (5, [.int (thr), .int (1), .ref sa, .int (nI z), .ref nw, .ref la, .int (th), .ref sh, .ref rcm, .int (cnt), .ref bf, .int (ps), .int (pp17), .int (nI q17)])) := g18
          have g19 : h15 nw = some (.inl (0, 40, .inl (w17))) := g19
          refine QP.topI (y := 0) rfl ?_
          refine qp_if_ne 158 dX4_readClass_138 (by decide) (fun c_138 => absurd rfl c_138) (fun c_138 => ?_)
          refine qp_iload_n dX4_readClass_141 rfl ?_
          refine qp_if_le 149 dX4_readClass_142 (by decide) (fun c_142 => absurd c_142 (nI_nle (by omega) (by omega))) (fun c_142 => ?_)
          refine qp_iconst (v := 0) dX4_readClass_145 (by decide) ?_
          refine qp_goto 157 dX4_readClass_146 (by decide) ?_
          have hn : runP isCap (Sm z g) 3 p = n := runP_stop 3 p n (by omega) hdig c_85
          have eR : R = .inl q17 := by rw [hR, mClass1, hn, if_neg (by rw [c_85]; decide), if_neg hn0, hs17]; rfl
          exact qr_z dX4_readClass_157 rfl nar_0 rfl rfl ⟨by rw [eR]; rfl, by rw [eR]; exact ⟨⟨_, _, g18, g19⟩, fun b hb1 hb2 => (o20 b hb1 hb2).trans (hfr b hb1 hb2)⟩⟩
        · rw [hs17] at p16
          obtain ⟨⟨wr17, g22, g23⟩, o24⟩ := p16
          have bd17 := mNumber_bd hs17
          have g25 : h15 sa = some (.inl (1, 60, .inl (g))) := (o24 _ (ne_of_cells gs gm (by simp)) (ne_of_cells gs gw (by simp))).trans gs
          have g22 : h15 m0 = some (.inr (5, [.int (thr), .int (1), .ref sa, .int (nI z), .ref nw, .ref la, .int (th), .ref sh, .ref rcm, .int (cnt), .ref bf, .int (ps), .int (nI q17), .int (wr17)])) := g22
          have g23 : h15 nw = some (.inl (0, 40, .inl (w17))) := g23
          refine QP.topI (y := 1) rfl ?_
          refine qp_if_ne 158 dX4_readClass_138 (by decide) (fun c_138 => ?_) (fun c_138 => absurd c_138 (by decide))
          have hn : runP isCap (Sm z g) 3 p = n := runP_stop 3 p n (by omega) hdig c_85
          exact lm_frac1 (p := q17) nm nn hz (by omega) (by rw [hR, mClass1, hn, if_neg (by rw [c_85]; decide), if_neg hn0, hs17]; rfl) g22 g25 g23 (fun b hb1 hb2 => (o24 b hb1 hb2).trans (hfr b hb1 hb2))
    · rw [bI_n0] at c_85
      refine qp_iload_n dX4_readClass_88 rfl ?_
      refine qp_iconst (v := 3) dX4_readClass_89 (by decide) ?_
      refine qp_icmp_ne 102 dX4_readClass_90 (by decide) (fun c_90 => ?_) (fun c_90 => ?_)
      · have hn3 : n < 3 := by have : ¬ n = 3 := fun q => c_90 (by rw [q]; decide); omega
        refine qp_aload_n dX4_readClass_102 rfl ?_
        refine qp_getf dX4_readClass_103 fX4_13 gm rfl ?_
        refine qp_iload_n dX4_readClass_106 rfl ?_
        refine qp_aload_n dX4_readClass_107 rfl ?_
        refine qv_Ip dX4_readClass_108 mX4_45 (m_look G hz (by omega) gm gs) gm rfl rfl rfl rfl rfl rfl rfl ?_
        refine qk_iast (n) dX4_readClass_111 gw nn rfl (by omega) (by decide) (fun h29 g30 o31 => ?_)
        have g32 : h29 m0 = some (.inr (5, [.int (thr), .int (1), .ref sa, .int (nI z), .ref nw, .ref la, .int (th), .ref sh, .ref rcm, .int (cnt), .ref bf, .int (ps), .int (nI (p + n)), .int (wr)])) := (o31 _ (ne_of_cells gm gw (by simp))).trans gm
        have g33 : h29 sa = some (.inl (1, 60, .inl (g))) := (o31 _ (ne_of_cells gs gw (by simp))).trans gs
        have g30 : h29 nw = some (.inl (0, 40, .inl (upd (rowW w 0 (Sm z g) p n) (n) (Sm z g (p + n))))) := g30
        refine qp_iinc (v := nI (n + 1)) dX4_readClass_112 rfl (by decide) (nI_1 n) ?_
        refine QP.locsE (L1 := [some (.ref m0), some (.int (nI (n + 1))), none]) rfl ?_
        refine qp_aload_n dX4_readClass_115 rfl ?_
        refine qp_dup dX4_readClass_116 rfl ?_
        refine qp_getf dX4_readClass_117 fX4_39 g32 rfl ?_
        refine qp_iconst (v := 1) dX4_readClass_120 (by decide) ?_
        refine qp_iadd dX4_readClass_121 ?_
        refine QP.topI (y := nI (p + n + 1)) (nI_1 _) ?_
        refine qk_put dX4_readClass_122 fX4_39 g32 nm rfl rfl rfl rfl rfl (fun h34 g35 o36 => ?_)
        have g37 : h34 sa = some (.inl (1, 60, .inl (g))) := (o36 _ (ne_of_cells g33 g32 (by simp))).trans g33
        have g38 : h34 nw = some (.inl (0, 40, .inl (upd (rowW w 0 (Sm z g) p n) (n) (Sm z g (p + n))))) := (o36 _ (ne_of_cells g30 g32 (by simp))).trans g30
        have g35 : h34 m0 = some (.inr (5, [.int (thr), .int (1), .ref sa, .int (nI z), .ref nw, .ref la, .int (th), .ref sh, .ref rcm, .int (cnt), .ref bf, .int (ps), .int (nI (p + n + 1)), .int (wr)])) := g35
        refine qp_goto 78 dX4_readClass_125 (by decide) ?_
        have ez : upd (rowW w 0 (Sm z g) p n) n (Sm z g (p + n)) = rowW w 0 (Sm z g) p (n + 1) := by have := rowW_s w 0 (Sm z g) p n; rw [Nat.zero_add] at this; exact this
        rw [ez] at g38
        exact ih (n + 1) _ h34 (by omega) (by omega) (fun j hj => by rcases Nat.lt_succ_iff_lt_or_eq.mp hj with q | q; exact hdig j q; rw [q]; exact c_85) g35 g37 g38 (fun b hb1 hb2 => ((o36 b hb1).trans (o31 b hb2)).trans (hfr b hb1 hb2))
      · have hn3 : n = 3 := (nI_eq (b := 3) (by omega) (by decide)).mp c_90
        refine qp_aload_n dX4_readClass_93 rfl ?_
        refine qp_aload_n dX4_readClass_94 rfl ?_
        refine qp_getf dX4_readClass_95 fX4_39 gm rfl ?_
        refine qv_Iq dX4_readClass_98 mX4_53 (m_bad G (nI (p + n)) nm gm) gm rfl rfl rfl rfl rfl rfl rfl (fun h40 p41 => ?_)
        obtain ⟨g42, o43⟩ := p41
        have g44 : h40 sa = some (.inl (1, 60, .inl (g))) := (o43 _ (ne_of_cells gs gm (by simp))).trans gs
        have g45 : h40 nw = some (.inl (0, 40, .inl (rowW w 0 (Sm z g) p n))) := (o43 _ (ne_of_cells gw gm (by simp))).trans gw
        have g42 : h40 m0 = some (.inr (5, [.int (thr), .int (1), .ref sa, .int (nI z), .ref nw, .ref la, .int (th), .ref sh, .ref rcm, .int (cnt), .ref bf, .int (ps), .int (nI (p + n)), .int (nI (p + n))])) := g42
        have hn : runP isCap (Sm z g) 3 p = n := by rw [hn3]; exact runP_all 3 p (fun j hj => hdig j (by omega))
        have eR : R = .inl (p + n) := by rw [hR, mClass1, hn, if_pos c_85]
        exact qr_z dX4_readClass_101 rfl nar_0 rfl rfl ⟨by rw [eR]; rfl, by rw [eR]; exact ⟨⟨_, _, g42, g45⟩, fun b hb1 hb2 => (o43 b hb1).trans (hfr b hb1 hb2)⟩⟩
set_option maxHeartbeats 4000000 in
set_option maxRecDepth 100000 in
theorem m_readClass1 (G : qG) {h : qH} {thr th cnt ps wr : Int32} {m0 sa nw la sh rcm bf z p : Nat} {g w : Nat → Int32} (hp100 : p ≤ 100) (hin : MdIn G h thr 1 th cnt ps wr m0 sa nw la sh rcm bf z p g w) : qMet G M_X4_readClass [.ref m0] h (qI (fun v h1 => v = bI (mOk (mClass1 (Sm z g) p w)) ∧ MdOut h h1 thr 1 th cnt ps m0 sa nw la sh rcm bf z (mClass1 (Sm z g) p w))) := by
  obtain ⟨nm, nn, hz, hp, gm, gs, gw⟩ := hin
  refine qMet.of (by decide) (Nat.le_of_ble_eq_true rfl) rfl ?_
  refine QP.locsE (L1 := [some (.ref m0), none, none]) rfl ?_
  refine qp_aload_n dX4_readClass_0 rfl ?_
  refine qp_getf dX4_readClass_1 fX4_29 gm rfl ?_
  refine qp_if_ne 76 dX4_readClass_4 (by decide) (fun c_4 => ?_) (fun c_4 => absurd c_4 (by decide))
  refine qp_iconst (v := 0) dX4_readClass_76 (by decide) ?_
  refine qp_istore_n dX4_readClass_77 (by decide) ?_
  refine QP.locsE (L1 := [some (.ref m0), some (.int (0)), none]) rfl ?_
  exact lm_class1 nm nn hz hp100 rfl 4 0 wr h (by omega) (by omega) (fun j hj => absurd hj (by omega)) gm gs (by rw [rowW_0]; exact gw) (fun _ _ _ => rfl)
