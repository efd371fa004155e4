def mBeg (S : Nat → Int32) (p : Nat) : Nat := if isDig (S p) = true then 1 else if S p = 118 ∧ S (p + 1) = 46 then 2 else if isSml (S p) = true then 3 else 0
theorem mBeg_le (S : Nat → Int32) (p : Nat) : mBeg S p ≤ 3 := by
  simp only [mBeg]
  split
  · omega
  · split
    · omega
    · split <;> omega
def mRest (S : Nat → Int32) (z : Nat) : Nat → Nat → Nat → (Nat → Int32) → MOut
  | 0, _, p, _ => .inl p
  | t + 1, l, p, w => if p < z then (if S p = 32 then (if mBeg S (p + 1) ≤ l then .inl (p + 1) else mThen (if mBeg S (p + 1) = 1 then mYear S (p + 1) w else if mBeg S (p + 1) = 2 then mVolume S (p + 1) w else mMark S (p + 1) w) (fun q w' => mRest S z t (mBeg S (p + 1)) q (upd w' 34 (w' 34 + 1)))) else .inl p) else .inr (p, w)
theorem mRest_s (S : Nat → Int32) (z t l p : Nat) (w : Nat → Int32) : mRest S z (t + 1) l p w = if p < z then (if S p = 32 then (if mBeg S (p + 1) ≤ l then .inl (p + 1) else mThen (if mBeg S (p + 1) = 1 then mYear S (p + 1) w else if mBeg S (p + 1) = 2 then mVolume S (p + 1) w else mMark S (p + 1) w) (fun q w' => mRest S z t (mBeg S (p + 1)) q (upd w' 34 (w' 34 + 1)))) else .inl p) else .inr (p, w) := rfl
theorem mYear_bd {S : Nat → Int32} {p : Nat} {w w' : Nat → Int32} {q : Nat} (h : mYear S p w = .inr (q, w')) : p ≤ q ∧ q ≤ p + 8 := by
  simp only [mYear] at h
  split at h
  · cases h
  · split at h
    · cases h
    · cases h; omega
theorem mVolume_bd {S : Nat → Int32} {p : Nat} {w w' : Nat → Int32} {q : Nat} (h : mVolume S p w = .inr (q, w')) : p ≤ q ∧ q ≤ p + 8 := by
  simp only [mVolume, mThen] at h
  split at h
  · cases h
  · next y hy =>
    obtain ⟨a, b⟩ := y
    have := mNumber_bd hy
    dsimp only at h
    split at h
    · cases h; omega
    · cases h; omega
theorem runP_le (pr : Int32 → Bool) (S : Nat → Int32) : ∀ m p, runP pr S m p ≤ m
  | 0, _ => Nat.le_refl _
  | m + 1, p => by
    have := runP_le pr S m (p + 1)
    simp only [runP]
    split <;> omega
theorem mMark_bd {S : Nat → Int32} {p : Nat} {w w' : Nat → Int32} {q : Nat} (h : mMark S p w = .inr (q, w')) : p ≤ q ∧ q ≤ p + 8 := by
  have := runP_le isSml S 8 p
  simp only [mMark] at h
  split at h
  · cases h
  · cases h; omega
theorem mCutter_bd {S : Nat → Int32} {p : Nat} {w w' : Nat → Int32} {q : Nat} (h : mCutter S p w = .inr (q, w')) : p ≤ q ∧ q ≤ p + 7 := by
  simp only [mCutter] at h
  split at h
  · cases h
  · have := mDigits_bd h
    omega
theorem mSpace_bd {S : Nat → Int32} {p : Nat} {w w' : Nat → Int32} {q : Nat} (h : mSpace S p w = .inr (q, w')) : q = p + 1 ∧ w' = w ∧ S p = 32 := by
  simp only [mSpace] at h
  split at h
  · cases h; exact ⟨rfl, rfl, by assumption⟩
  · cases h
theorem mFrac_bd {S : Nat → Int32} {p m : Nat} {w w' : Nat → Int32} {q : Nat} (h : mFrac S p m w = .inr (q, w')) : p ≤ q ∧ q ≤ p + m + 1 := by
  simp only [mFrac, mThen] at h
  split at h
  · cases h
  · next y hy =>
    cases h
    split at hy
    · have := mDigits_bd (q := y.1) (w' := y.2) hy
      omega
    · cases hy
      exact ⟨Nat.le_refl _, by show p ≤ _; omega⟩
theorem mClass0_bd {S : Nat → Int32} {p : Nat} {w w' : Nat → Int32} {q : Nat} (h : mClass0 S p w = .inr (q, w')) : p ≤ q ∧ q ≤ p + 20 := by
  simp only [mClass0] at h
  split at h
  · cases h
  · have := mFrac_bd h
    omega
theorem mClass1_bd {S : Nat → Int32} {p : Nat} {w w' : Nat → Int32} {q : Nat} (h : mClass1 S p w = .inr (q, w')) : p ≤ q ∧ q ≤ p + 20 := by
  have hl := runP_le isCap S 3 p
  simp only [mClass1] at h
  split at h
  · cases h
  · split at h
    · cases h
    · simp only [mThen] at h
      split at h
      · cases h
      · next y hy =>
        have h1 := mNumber_bd (q := y.1) (w' := y.2) hy
        have h2 := mFrac_bd h
        omega
set_option maxHeartbeats 4000000 in
set_option maxRecDepth 100000 in
theorem lm_reads {G : qG} {h0 : qH} {thr sch th cnt ps : Int32} {m0 sa nw la sh rcm bf z : Nat} {g : Nat → Int32} {R : MOut} (nm : G.2.1 ≤ m0) (nn : G.2.1 ≤ nw) (hz : z ≤ 60) (hby : ∀ i, i < z → (g i = 46 ↔ g i &&& 255 = 46)) : ∀ (t l p : Nat) (w : Nat → Int32) (wr : Int32) (h : qH), 4 ≤ t + l → l ≤ 3 → p ≤ 140 → h m0 = some (mdCell thr sch sa (nI z) nw la th sh rcm cnt bf ps (nI p) wr) → h sa = some (saCell g) → h nw = some (rwCell (w)) → (∀ b : Nat, b ≠ m0 → b ≠ nw → h b = h0 b) → R = mRest (Sm z g) z t l p w → QP G M_X4_reads qTr (qMZ G M_X4_reads (qI (fun v h1 => v = bI (mOk R) ∧ MdOut h0 h1 thr sch th cnt ps m0 sa nw la sh rcm bf z R))) 33 [some (.ref m0), some (.int (nI l)), none, none, none] [] h 0 0 := by
  intro t
  induction t with
  | zero =>
    intro l p w wr h h1 h2
    omega
  | succ t2 ih =>
    intro l p w wr h h1 h2 hp gm gs gw hfr hR
    obtain ⟨t, ht1⟩ : ∃ t, t = t2 + 1 := ⟨_, rfl⟩
    rw [← ht1] at hR h1
    have ht1 : t = (t - 1) + 1 := by omega
    have ht2 : t - 1 = t2 := by omega
    refine qp_aload_n dX4_reads_33 rfl ?_
    refine qp_getf dX4_reads_34 fX4_39 gm rfl ?_
    refine qp_aload_n dX4_reads_37 rfl ?_
    refine qp_getf dX4_reads_38 fX4_36 gm rfl ?_
    refine qp_icmp_ge 205 dX4_reads_41 (by decide) (fun c_41 => ?_) (fun c_41 => ?_)
    · have hpz : z ≤ p := (nI_leI (by omega) (by omega)).mp c_41
      refine qp_iconst (v := 1) dX4_reads_205 (by decide) ?_
      have eR : R = .inr (p, w) := by rw [hR, ht1, mRest_s, if_neg (by omega)]
      exact qr_z dX4_reads_206 rfl nar_1 rfl rfl ⟨by rw [eR]; rfl, by rw [eR]; exact ⟨⟨_, gm, gw⟩, hfr⟩⟩
    · have hpz : p < z := Nat.not_le.mp fun q => c_41 ((nI_leI (by omega) (by omega)).mpr q)
      refine qp_aload_n dX4_reads_44 rfl ?_
      refine qv_Iq dX4_reads_45 mX4_73 (m_space G (p := p) ⟨nm, nn, hz, by omega, gm, gs, gw⟩) gm rfl rfl rfl rfl rfl rfl rfl (fun h2 p3 => ?_)
      by_cases h32 : Sm z g p = 32
      · have es : mSpace (Sm z g) p w = .inr (p + 1, w) := by simp only [mSpace]; rw [if_pos h32]
        rw [es] at p3 ⊢
        obtain ⟨⟨wr2, gm2, gw2⟩, o2⟩ := p3
        have g4 : h2 sa = some (.inl (1, 60, .inl (g))) := (o2 _ (ne_of_cells gs gm (by simp)) (ne_of_cells gs gw (by simp))).trans gs
        have gm2 : h2 m0 = some (.inr (5, [.int (thr), .int (sch), .ref sa, .int (nI z), .ref nw, .ref la, .int (th), .ref sh, .ref rcm, .int (cnt), .ref bf, .int (ps), .int (nI (p + 1)), .int (wr2)])) := gm2
        have gw2 : h2 nw = some (.inl (0, 40, .inl (w))) := gw2
        refine QP.topI (y := 1) rfl ?_
        have gm := gm2
        have gs := g4
        have gw := gw2
        have hfr : ∀ b : Nat, b ≠ m0 → b ≠ nw → h2 b = h0 b := fun b hb1 hb2 => (o2 b hb1 hb2).trans (hfr b hb1 hb2)
        have key : ∀ (cc vb : Int32), QP G M_X4_reads qTr (qMZ G M_X4_reads (qI (fun v h1 => v = bI (mOk R) ∧ MdOut h0 h1 thr sch th cnt ps m0 sa nw la sh rcm bf z R))) 132 [some (.ref m0), some (.int (nI l)), some (.int cc), some (.int vb), some (.int (nI (mBeg (Sm z g) (p + 1))))] [] h2 0 0 := by
          intro cc vb
          refine qp_iload dX4_reads_132 rfl ?_
          refine qp_iload_n dX4_reads_134 rfl ?_
          refine qp_icmp_gt 147 dX4_reads_135 (by decide) (fun c_135 => ?_) (fun c_135 => ?_)
          · have hle : l < mBeg (Sm z g) (p + 1) := (nI_ltI (by omega) (by have := mBeg_le (Sm z g) (p + 1); omega)).mp c_135
            refine qp_iload dX4_reads_147 rfl ?_
            refine qp_iconst (v := 1) dX4_reads_149 (by decide) ?_
            refine qp_icmp_ne 163 dX4_reads_150 (by decide) (fun c_150 => ?_) (fun c_150 => ?_)
            · have e1 : ¬ mBeg (Sm z g) (p + 1) = 1 := fun q => c_150 (by rw [q]; decide)
              refine qp_iload dX4_reads_163 rfl ?_
              refine qp_iconst (v := 2) dX4_reads_165 (by decide) ?_
              refine qp_icmp_ne 179 dX4_reads_166 (by decide) (fun c_166 => ?_) (fun c_166 => ?_)
              · have e2 : ¬ mBeg (Sm z g) (p + 1) = 2 := fun q => c_166 (by rw [q]; decide)
                refine qp_aload_n dX4_reads_179 rfl ?_
                refine qv_Iq dX4_reads_180 mX4_85 (m_readMark G (p := p + 1) ⟨nm, nn, hz, by omega, gm, gs, gw⟩) gm rfl rfl rfl rfl rfl rfl rfl (fun hk2 pk3 => ?_)
                rcases hsk4 : mMark (Sm z g) (p + 1) (w) with qk4 | ⟨qk4, wk4⟩
                · rw [hsk4] at pk3
                  obtain ⟨⟨ppk4, wk4, gk5, gk6⟩, ok7⟩ := pk3
                  have gk8 : hk2 sa = some (.inl (1, 60, .inl (g))) := (ok7 _ (ne_of_cells gs gm (by simp)) (ne_of_cells gs gw (by simp))).trans gs
                  have gk5 : hk2 m0 = some (.inr (5, [.int (thr), .int (sch), .ref sa, .int (nI z), .ref nw, .ref la, .int (th), .ref sh, .ref rcm, .int (cnt), .ref bf, .int (ps), .int (ppk4), .int (nI qk4)])) := gk5
                  have gk6 : hk2 nw = some (.inl (0, 40, .inl (wk4))) := gk6
                  refine QP.topI (y := 0) rfl ?_
                  refine qp_if_ne 188 dX4_reads_183 (by decide) (fun c_183 => absurd rfl c_183) (fun c_183 => ?_)
                  refine qp_iconst (v := 0) dX4_reads_186 (by decide) ?_
                  have eR : R = .inl qk4 := by rw [hR, ht1, mRest_s, if_pos hpz, if_pos h32, if_neg (by omega), if_neg e1, if_neg e2, hsk4]; rfl
                  exact qr_z dX4_reads_187 rfl nar_0 rfl rfl ⟨by rw [eR]; rfl, by rw [eR]; exact ⟨⟨_, _, gk5, gk6⟩, fun b hb1 hb2 => (ok7 b hb1 hb2).trans (hfr b hb1 hb2)⟩⟩
                · rw [hsk4] at pk3
                  obtain ⟨⟨wrk4, gk9, gk10⟩, ok11⟩ := pk3
                  have bdk4 := mMark_bd hsk4
                  have gk12 : hk2 sa = some (.inl (1, 60, .inl (g))) := (ok11 _ (ne_of_cells gs gm (by simp)) (ne_of_cells gs gw (by simp))).trans gs
                  have gk9 : hk2 m0 = some (.inr (5, [.int (thr), .int (sch), .ref sa, .int (nI z), .ref nw, .ref la, .int (th), .ref sh, .ref rcm, .int (cnt), .ref bf, .int (ps), .int (nI qk4), .int (wrk4)])) := gk9
                  have gk10 : hk2 nw = some (.inl (0, 40, .inl (wk4))) := gk10
                  refine QP.topI (y := 1) rfl ?_
                  refine qp_if_ne 188 dX4_reads_183 (by decide) (fun c_183 => ?_) (fun c_183 => absurd c_183 (by decide))
                  refine qp_aload_n dX4_reads_188 rfl ?_
                  refine qp_getf dX4_reads_189 fX4_13 gk9 rfl ?_
                  refine qp_bipush (v := 34) dX4_reads_192 (by decide) ?_
                  refine qp_dup2 dX4_reads_194 rfl rfl ?_
                  refine qp_ialdN (34) dX4_reads_195 gk10 rfl (by omega) (by decide) ?_
                  refine qp_iconst (v := 1) dX4_reads_196 (by decide) ?_
                  refine qp_iadd dX4_reads_197 ?_
                  refine qk_iast (34) dX4_reads_198 gk10 nn rfl (by omega) (by decide) (fun hk13 gk14 ok15 => ?_)
                  have gk16 : hk13 sa = some (.inl (1, 60, .inl (g))) := (ok15 _ (ne_of_cells gk12 gk10 (by simp))).trans gk12
                  have gk17 : hk13 m0 = some (.inr (5, [.int (thr), .int (sch), .ref sa, .int (nI z), .ref nw, .ref la, .int (th), .ref sh, .ref rcm, .int (cnt), .ref bf, .int (ps), .int (nI qk4), .int (wrk4)])) := (ok15 _ (ne_of_cells gk9 gk10 (by simp))).trans gk9
                  have gk14 : hk13 nw = some (.inl (0, 40, .inl (upd (wk4) (34) ((wk4 (34)) + (1))))) := gk14
                  refine qp_iload dX4_reads_199 rfl ?_
                  refine qp_istore_n dX4_reads_201 (by decide) ?_
                  refine QP.locsE (L1 := [some (.ref m0), some (.int (nI (mBeg (Sm z g) (p + 1)))), some (.int (cc)), some (.int (vb)), some (.int (nI (mBeg (Sm z g) (p + 1))))]) rfl ?_
                  refine qp_goto 33 dX4_reads_202 (by decide) ?_
                  refine QP.forget 2 (QP.forget 3 (QP.forget 4 ?_))
                  exact ih (mBeg (Sm z g) (p + 1)) qk4 _ _ hk13 (by omega) (mBeg_le _ _) (by omega) gk17 gk16 gk14 (fun b hb1 hb2 => ((ok15 b hb2).trans (ok11 b hb1 hb2)).trans (hfr b hb1 hb2)) (by rw [hR, ht1, mRest_s, if_pos hpz, if_pos h32, if_neg (by omega), if_neg e1, if_neg e2, hsk4]; simp only [mThen]; rw [show t - 1 = t2 by omega])
              · have e2 : mBeg (Sm z g) (p + 1) = 2 := (nI_eq (b := 2) (by have := mBeg_le (Sm z g) (p + 1); omega) (by decide)).mp c_166
                refine qp_aload_n dX4_reads_169 rfl ?_
                refine qv_Iq dX4_reads_170 mX4_82 (m_readVolume G (by omega) (p := p + 1) ⟨nm, nn, hz, by omega, gm, gs, gw⟩) gm rfl rfl rfl rfl rfl rfl rfl (fun hk19 pk20 => ?_)
                rcases hsk21 : mVolume (Sm z g) (p + 1) (w) with qk21 | ⟨qk21, wk21⟩
                · rw [hsk21] at pk20
                  obtain ⟨⟨ppk21, wk21, gk22, gk23⟩, ok24⟩ := pk20
                  have gk25 : hk19 sa = some (.inl (1, 60, .inl (g))) := (ok24 _ (ne_of_cells gs gm (by simp)) (ne_of_cells gs gw (by simp))).trans gs
                  have gk22 : hk19 m0 = some (.inr (5, [.int (thr), .int (sch), .ref sa, .int (nI z), .ref nw, .ref la, .int (th), .ref sh, .ref rcm, .int (cnt), .ref bf, .int (ps), .int (ppk21), .int (nI qk21)])) := gk22
                  have gk23 : hk19 nw = some (.inl (0, 40, .inl (wk21))) := gk23
                  refine QP.topI (y := 0) rfl ?_
                  refine qp_if_ne 188 dX4_reads_173 (by decide) (fun c_173 => absurd rfl c_173) (fun c_173 => ?_)
                  refine qp_goto 186 dX4_reads_176 (by decide) ?_
                  refine qp_iconst (v := 0) dX4_reads_186 (by decide) ?_
                  have eR : R = .inl qk21 := by rw [hR, ht1, mRest_s, if_pos hpz, if_pos h32, if_neg (by omega), if_neg e1, if_pos e2, hsk21]; rfl
                  exact qr_z dX4_reads_187 rfl nar_0 rfl rfl ⟨by rw [eR]; rfl, by rw [eR]; exact ⟨⟨_, _, gk22, gk23⟩, fun b hb1 hb2 => (ok24 b hb1 hb2).trans (hfr b hb1 hb2)⟩⟩
                · rw [hsk21] at pk20
                  obtain ⟨⟨wrk21, gk26, gk27⟩, ok28⟩ := pk20
                  have bdk21 := mVolume_bd hsk21
                  have gk29 : hk19 sa = some (.inl (1, 60, .inl (g))) := (ok28 _ (ne_of_cells gs gm (by simp)) (ne_of_cells gs gw (by simp))).trans gs
                  have gk26 : hk19 m0 = some (.inr (5, [.int (thr), .int (sch), .ref sa, .int (nI z), .ref nw, .ref la, .int (th), .ref sh, .ref rcm, .int (cnt), .ref bf, .int (ps), .int (nI qk21), .int (wrk21)])) := gk26
                  have gk27 : hk19 nw = some (.inl (0, 40, .inl (wk21))) := gk27
                  refine QP.topI (y := 1) rfl ?_
                  refine qp_if_ne 188 dX4_reads_173 (by decide) (fun c_173 => ?_) (fun c_173 => absurd c_173 (by decide))
                  refine qp_aload_n dX4_reads_188 rfl ?_
                  refine qp_getf dX4_reads_189 fX4_13 gk26 rfl ?_
                  refine qp_bipush (v := 34) dX4_reads_192 (by decide) ?_
                  refine qp_dup2 dX4_reads_194 rfl rfl ?_
                  refine qp_ialdN (34) dX4_reads_195 gk27 rfl (by omega) (by decide) ?_
                  refine qp_iconst (v := 1) dX4_reads_196 (by decide) ?_
                  refine qp_iadd dX4_reads_197 ?_
                  refine qk_iast (34) dX4_reads_198 gk27 nn rfl (by omega) (by decide) (fun hk30 gk31 ok32 => ?_)
                  have gk33 : hk30 sa = some (.inl (1, 60, .inl (g))) := (ok32 _ (ne_of_cells gk29 gk27 (by simp))).trans gk29
                  have gk34 : hk30 m0 = some (.inr (5, [.int (thr), .int (sch), .ref sa, .int (nI z), .ref nw, .ref la, .int (th), .ref sh, .ref rcm, .int (cnt), .ref bf, .int (ps), .int (nI qk21), .int (wrk21)])) := (ok32 _ (ne_of_cells gk26 gk27 (by simp))).trans gk26
                  have gk31 : hk30 nw = some (.inl (0, 40, .inl (upd (wk21) (34) ((wk21 (34)) + (1))))) := gk31
                  refine qp_iload dX4_reads_199 rfl ?_
                  refine qp_istore_n dX4_reads_201 (by decide) ?_
                  refine QP.locsE (L1 := [some (.ref m0), some (.int (nI (mBeg (Sm z g) (p + 1)))), some (.int (cc)), some (.int (vb)), some (.int (nI (mBeg (Sm z g) (p + 1))))]) rfl ?_
                  refine qp_goto 33 dX4_reads_202 (by decide) ?_
                  refine QP.forget 2 (QP.forget 3 (QP.forget 4 ?_))
                  exact ih (mBeg (Sm z g) (p + 1)) qk21 _ _ hk30 (by omega) (mBeg_le _ _) (by omega) gk34 gk33 gk31 (fun b hb1 hb2 => ((ok32 b hb2).trans (ok28 b hb1 hb2)).trans (hfr b hb1 hb2)) (by rw [hR, ht1, mRest_s, if_pos hpz, if_pos h32, if_neg (by omega), if_neg e1, if_pos e2, hsk21]; simp only [mThen]; rw [show t - 1 = t2 by omega])
            · have e1 : mBeg (Sm z g) (p + 1) = 1 := (nI_eq (b := 1) (by have := mBeg_le (Sm z g) (p + 1); omega) (by decide)).mp c_150
              refine qp_aload_n dX4_reads_153 rfl ?_
              refine qv_Iq dX4_reads_154 mX4_79 (m_readYear G (p := p + 1) ⟨nm, nn, hz, by omega, gm, gs, gw⟩) gm rfl rfl rfl rfl rfl rfl rfl (fun hk36 pk37 => ?_)
              rcases hsk38 : mYear (Sm z g) (p + 1) (w) with qk38 | ⟨qk38, wk38⟩
              · rw [hsk38] at pk37
                obtain ⟨⟨ppk38, wk38, gk39, gk40⟩, ok41⟩ := pk37
                have gk42 : hk36 sa = some (.inl (1, 60, .inl (g))) := (ok41 _ (ne_of_cells gs gm (by simp)) (ne_of_cells gs gw (by simp))).trans gs
                have gk39 : hk36 m0 = some (.inr (5, [.int (thr), .int (sch), .ref sa, .int (nI z), .ref nw, .ref la, .int (th), .ref sh, .ref rcm, .int (cnt), .ref bf, .int (ps), .int (ppk38), .int (nI qk38)])) := gk39
                have gk40 : hk36 nw = some (.inl (0, 40, .inl (wk38))) := gk40
                refine QP.topI (y := 0) rfl ?_
                refine qp_if_ne 188 dX4_reads_157 (by decide) (fun c_157 => absurd rfl c_157) (fun c_157 => ?_)
                refine qp_goto 186 dX4_reads_160 (by decide) ?_
                refine qp_iconst (v := 0) dX4_reads_186 (by decide) ?_
                have eR : R = .inl qk38 := by rw [hR, ht1, mRest_s, if_pos hpz, if_pos h32, if_neg (by omega), if_pos e1, hsk38]; rfl
                exact qr_z dX4_reads_187 rfl nar_0 rfl rfl ⟨by rw [eR]; rfl, by rw [eR]; exact ⟨⟨_, _, gk39, gk40⟩, fun b hb1 hb2 => (ok41 b hb1 hb2).trans (hfr b hb1 hb2)⟩⟩
              · rw [hsk38] at pk37
                obtain ⟨⟨wrk38, gk43, gk44⟩, ok45⟩ := pk37
                have bdk38 := mYear_bd hsk38
                have gk46 : hk36 sa = some (.inl (1, 60, .inl (g))) := (ok45 _ (ne_of_cells gs gm (by simp)) (ne_of_cells gs gw (by simp))).trans gs
                have gk43 : hk36 m0 = some (.inr (5, [.int (thr), .int (sch), .ref sa, .int (nI z), .ref nw, .ref la, .int (th), .ref sh, .ref rcm, .int (cnt), .ref bf, .int (ps), .int (nI qk38), .int (wrk38)])) := gk43
                have gk44 : hk36 nw = some (.inl (0, 40, .inl (wk38))) := gk44
                refine QP.topI (y := 1) rfl ?_
                refine qp_if_ne 188 dX4_reads_157 (by decide) (fun c_157 => ?_) (fun c_157 => absurd c_157 (by decide))
                refine qp_aload_n dX4_reads_188 rfl ?_
                refine qp_getf dX4_reads_189 fX4_13 gk43 rfl ?_
                refine qp_bipush (v := 34) dX4_reads_192 (by decide) ?_
                refine qp_dup2 dX4_reads_194 rfl rfl ?_
                refine qp_ialdN (34) dX4_reads_195 gk44 rfl (by omega) (by decide) ?_
                refine qp_iconst (v := 1) dX4_reads_196 (by decide) ?_
                refine qp_iadd dX4_reads_197 ?_
                refine qk_iast (34) dX4_reads_198 gk44 nn rfl (by omega) (by decide) (fun hk47 gk48 ok49 => ?_)
                have gk50 : hk47 sa = some (.inl (1, 60, .inl (g))) := (ok49 _ (ne_of_cells gk46 gk44 (by simp))).trans gk46
                have gk51 : hk47 m0 = some (.inr (5, [.int (thr), .int (sch), .ref sa, .int (nI z), .ref nw, .ref la, .int (th), .ref sh, .ref rcm, .int (cnt), .ref bf, .int (ps), .int (nI qk38), .int (wrk38)])) := (ok49 _ (ne_of_cells gk43 gk44 (by simp))).trans gk43
                have gk48 : hk47 nw = some (.inl (0, 40, .inl (upd (wk38) (34) ((wk38 (34)) + (1))))) := gk48
                refine qp_iload dX4_reads_199 rfl ?_
                refine qp_istore_n dX4_reads_201 (by decide) ?_
                refine QP.locsE (L1 := [some (.ref m0), some (.int (nI (mBeg (Sm z g) (p + 1)))), some (.int (cc)), some (.int (vb)), some (.int (nI (mBeg (Sm z g) (p + 1))))]) rfl ?_
                refine qp_goto 33 dX4_reads_202 (by decide) ?_
                refine QP.forget 2 (QP.forget 3 (QP.forget 4 ?_))
                exact ih (mBeg (Sm z g) (p + 1)) qk38 _ _ hk47 (by omega) (mBeg_le _ _) (by omega) gk51 gk50 gk48 (fun b hb1 hb2 => ((ok49 b hb2).trans (ok45 b hb1 hb2)).trans (hfr b hb1 hb2)) (by rw [hR, ht1, mRest_s, if_pos hpz, if_pos h32, if_neg (by omega), if_pos e1, hsk38]; simp only [mThen]; rw [show t - 1 = t2 by omega])
          · have hle : mBeg (Sm z g) (p + 1) ≤ l := Nat.not_lt.mp fun q => c_135 ((nI_ltI (by omega) (by have := mBeg_le (Sm z g) (p + 1); omega)).mpr q)
            refine qp_aload_n dX4_reads_138 rfl ?_
            refine qp_aload_n dX4_reads_139 rfl ?_
            refine qp_getf dX4_reads_140 fX4_39 gm rfl ?_
            refine qv_Iq dX4_reads_143 mX4_53 (m_bad G (nI (p + 1)) nm gm) gm rfl rfl rfl rfl rfl rfl rfl (fun hk53 pk54 => ?_)
            obtain ⟨gk55, ok56⟩ := pk54
            have gk57 : hk53 sa = some (.inl (1, 60, .inl (g))) := (ok56 _ (ne_of_cells gs gm (by simp))).trans gs
            have gk58 : hk53 nw = some (.inl (0, 40, .inl (w))) := (ok56 _ (ne_of_cells gw gm (by simp))).trans gw
            have gk55 : hk53 m0 = some (.inr (5, [.int (thr), .int (sch), .ref sa, .int (nI z), .ref nw, .ref la, .int (th), .ref sh, .ref rcm, .int (cnt), .ref bf, .int (ps), .int (nI (p + 1)), .int (nI (p + 1))])) := gk55
            have eR : R = .inl (p + 1) := by rw [hR, ht1, mRest_s, if_pos hpz, if_pos h32, if_pos hle]
            exact qr_z dX4_reads_146 rfl nar_0 rfl rfl ⟨by rw [eR]; rfl, by rw [eR]; exact ⟨⟨_, _, gk55, gk58⟩, fun b hb1 hb2 => (ok56 b hb1).trans (hfr b hb1 hb2)⟩⟩
        refine qp_if_ne 53 dX4_reads_48 (by decide) (fun c_48 => ?_) (fun c_48 => absurd c_48 (by decide))
        refine qp_aload_n dX4_reads_53 rfl ?_
        refine qv_Ip dX4_reads_54 mX4_45 (m_look G hz (by omega) gm gs) gm rfl rfl rfl rfl rfl rfl rfl ?_
        refine qp_istore_n dX4_reads_57 (by decide) ?_
        refine QP.locsE (L1 := [some (.ref m0), some (.int (nI l)), some (.int (Sm z g (p + 1))), none, none]) rfl ?_
        refine qp_iload_n dX4_reads_58 rfl ?_
        refine qp_bipush (v := 118) dX4_reads_59 (by decide) ?_
        refine qp_icmp_ne 97 dX4_reads_61 (by decide) (fun c_61 => ?_) (fun c_61 => ?_)
        · have hvol : ¬ (Sm z g (p + 1) = 118 ∧ Sm z g (p + 1 + 1) = 46) := fun q => c_61 q.1
          refine qp_iconst (v := 0) dX4_reads_97 (by decide) ?_
          refine qp_istore_n dX4_reads_98 (by decide) ?_
          refine QP.locsE (L1 := [some (.ref m0), some (.int (nI l)), some (.int (Sm z g (p + 1))), some (.int (0)), none]) rfl ?_
          refine qp_iload_n dX4_reads_99 rfl ?_
          refine qs_Ip dX4_reads_100 mX4_49 (m_isDigit G (Sm z g (p + 1))) rfl rfl rfl rfl rfl rfl ?_
          refine qp_if_eq 110 dX4_reads_103 (by decide) (fun c_103 => ?_) (fun c_103 => ?_)
          · rw [bI_0] at c_103
            refine qp_iload_n dX4_reads_110 rfl ?_
            refine qp_if_eq 118 dX4_reads_111 (by decide) (fun c_111 => ?_) (fun c_111 => absurd rfl c_111)
            refine qp_iload_n dX4_reads_118 rfl ?_
            refine qs_Ip dX4_reads_119 mX4_66 (m_isSmall G (Sm z g (p + 1))) rfl rfl rfl rfl rfl rfl ?_
            refine qp_if_eq 129 dX4_reads_122 (by decide) (fun c_122 => ?_) (fun c_122 => ?_)
            · rw [bI_0] at c_122
              refine qp_iconst (v := 0) dX4_reads_129 (by decide) ?_
              refine qp_istore dX4_reads_130 (by decide) ?_
              refine QP.locsE (L1 := [some (.ref m0), some (.int (nI l)), some (.int (Sm z g (p + 1))), some (.int (0)), some (.int (0))]) rfl ?_
              have eb : mBeg (Sm z g) (p + 1) = 0 := by simp only [mBeg]; rw [if_neg (by rw [c_103]; decide), if_neg hvol, if_neg (by rw [c_122]; decide)]
              refine QP.locsE (L1 := [some (.ref m0), some (.int (nI l)), some (.int (Sm z g (p + 1))), some (.int (0)), some (.int (nI (mBeg (Sm z g) (p + 1))))]) (by rw [eb]; rfl) ?_
              exact key _ _
            · rw [bI_n0] at c_122
              refine qp_iconst (v := 3) dX4_reads_125 (by decide) ?_
              refine qp_goto 130 dX4_reads_126 (by decide) ?_
              refine qp_istore dX4_reads_130 (by decide) ?_
              refine QP.locsE (L1 := [some (.ref m0), some (.int (nI l)), some (.int (Sm z g (p + 1))), some (.int (0)), some (.int (3))]) rfl ?_
              have eb : mBeg (Sm z g) (p + 1) = 3 := by simp only [mBeg]; rw [if_neg (by rw [c_103]; decide), if_neg hvol, if_pos c_122]
              refine QP.locsE (L1 := [some (.ref m0), some (.int (nI l)), some (.int (Sm z g (p + 1))), some (.int (0)), some (.int (nI (mBeg (Sm z g) (p + 1))))]) (by rw [eb]; rfl) ?_
              exact key _ _
          · rw [bI_n0] at c_103
            refine qp_iconst (v := 1) dX4_reads_106 (by decide) ?_
            refine qp_goto 130 dX4_reads_107 (by decide) ?_
            refine qp_istore dX4_reads_130 (by decide) ?_
            refine QP.locsE (L1 := [some (.ref m0), some (.int (nI l)), some (.int (Sm z g (p + 1))), some (.int (0)), some (.int (1))]) rfl ?_
            have eb : mBeg (Sm z g) (p + 1) = 1 := by simp only [mBeg]; rw [if_pos c_103]
            refine QP.locsE (L1 := [some (.ref m0), some (.int (nI l)), some (.int (Sm z g (p + 1))), some (.int (0)), some (.int (nI (mBeg (Sm z g) (p + 1))))]) (by rw [eb]; rfl) ?_
            exact key _ _
        · refine qp_aload_n dX4_reads_64 rfl ?_
          refine qp_getf dX4_reads_65 fX4_39 gm rfl ?_
          refine qp_iconst (v := 1) dX4_reads_68 (by decide) ?_
          refine qp_iadd dX4_reads_69 ?_
          refine QP.topI (y := nI (p + 1 + 1)) (nI_1 _) ?_
          refine qp_aload_n dX4_reads_70 rfl ?_
          refine qp_getf dX4_reads_71 fX4_36 gm rfl ?_
          refine qp_icmp_ge 97 dX4_reads_74 (by decide) (fun c_74 => ?_) (fun c_74 => ?_)
          · have hz2 : z ≤ p + 1 + 1 := (nI_leI (by omega) (by omega)).mp c_74
            have hvol : ¬ (Sm z g (p + 1) = 118 ∧ Sm z g (p + 1 + 1) = 46) := fun q => by have q2 := q.2; simp only [Sm] at q2; rw [if_neg (by omega)] at q2; exact absurd q2 (by decide)
            refine qp_iconst (v := 0) dX4_reads_97 (by decide) ?_
            refine qp_istore_n dX4_reads_98 (by decide) ?_
            refine QP.locsE (L1 := [some (.ref m0), some (.int (nI l)), some (.int (Sm z g (p + 1))), some (.int (0)), none]) rfl ?_
            refine qp_iload_n dX4_reads_99 rfl ?_
            refine qs_Ip dX4_reads_100 mX4_49 (m_isDigit G (Sm z g (p + 1))) rfl rfl rfl rfl rfl rfl ?_
            refine qp_if_eq 110 dX4_reads_103 (by decide) (fun c_103 => ?_) (fun c_103 => ?_)
            · rw [bI_0] at c_103
              refine qp_iload_n dX4_reads_110 rfl ?_
              refine qp_if_eq 118 dX4_reads_111 (by decide) (fun c_111 => ?_) (fun c_111 => absurd rfl c_111)
              refine qp_iload_n dX4_reads_118 rfl ?_
              refine qs_Ip dX4_reads_119 mX4_66 (m_isSmall G (Sm z g (p + 1))) rfl rfl rfl rfl rfl rfl ?_
              refine qp_if_eq 129 dX4_reads_122 (by decide) (fun c_122 => ?_) (fun c_122 => ?_)
              · rw [bI_0] at c_122
                refine qp_iconst (v := 0) dX4_reads_129 (by decide) ?_
                refine qp_istore dX4_reads_130 (by decide) ?_
                refine QP.locsE (L1 := [some (.ref m0), some (.int (nI l)), some (.int (Sm z g (p + 1))), some (.int (0)), some (.int (0))]) rfl ?_
                have eb : mBeg (Sm z g) (p + 1) = 0 := by simp only [mBeg]; rw [if_neg (by rw [c_103]; decide), if_neg hvol, if_neg (by rw [c_122]; decide)]
                refine QP.locsE (L1 := [some (.ref m0), some (.int (nI l)), some (.int (Sm z g (p + 1))), some (.int (0)), some (.int (nI (mBeg (Sm z g) (p + 1))))]) (by rw [eb]; rfl) ?_
                exact key _ _
              · rw [bI_n0] at c_122
                refine qp_iconst (v := 3) dX4_reads_125 (by decide) ?_
                refine qp_goto 130 dX4_reads_126 (by decide) ?_
                refine qp_istore dX4_reads_130 (by decide) ?_
                refine QP.locsE (L1 := [some (.ref m0), some (.int (nI l)), some (.int (Sm z g (p + 1))), some (.int (0)), some (.int (3))]) rfl ?_
                have eb : mBeg (Sm z g) (p + 1) = 3 := by simp only [mBeg]; rw [if_neg (by rw [c_103]; decide), if_neg hvol, if_pos c_122]
                refine QP.locsE (L1 := [some (.ref m0), some (.int (nI l)), some (.int (Sm z g (p + 1))), some (.int (0)), some (.int (nI (mBeg (Sm z g) (p + 1))))]) (by rw [eb]; rfl) ?_
                exact key _ _
            · rw [bI_n0] at c_103
              refine qp_iconst (v := 1) dX4_reads_106 (by decide) ?_
              refine qp_goto 130 dX4_reads_107 (by decide) ?_
              refine qp_istore dX4_reads_130 (by decide) ?_
              refine QP.locsE (L1 := [some (.ref m0), some (.int (nI l)), some (.int (Sm z g (p + 1))), some (.int (0)), some (.int (1))]) rfl ?_
              have eb : mBeg (Sm z g) (p + 1) = 1 := by simp only [mBeg]; rw [if_pos c_103]
              refine QP.locsE (L1 := [some (.ref m0), some (.int (nI l)), some (.int (Sm z g (p + 1))), some (.int (0)), some (.int (nI (mBeg (Sm z g) (p + 1))))]) (by rw [eb]; rfl) ?_
              exact key _ _
          · have hz2 : p + 1 + 1 < z := Nat.not_le.mp fun q => c_74 ((nI_leI (by omega) (by omega)).mpr q)
            refine qp_aload_n dX4_reads_77 rfl ?_
            refine qp_getf dX4_reads_78 fX4_7 gm rfl ?_
            refine qp_aload_n dX4_reads_81 rfl ?_
            refine qp_getf dX4_reads_82 fX4_39 gm rfl ?_
            refine qp_iconst (v := 1) dX4_reads_85 (by decide) ?_
            refine qp_iadd dX4_reads_86 ?_
            refine QP.topI (y := nI (p + 1 + 1)) (nI_1 _) ?_
            refine qp_baldN (p + 1 + 1) dX4_reads_87 gs rfl (by omega) (by decide) ?_
            refine qp_bipush (v := 46) dX4_reads_88 (by decide) ?_
            refine qp_icmp_ne 97 dX4_reads_90 (by decide) (fun c_90 => ?_) (fun c_90 => ?_)
            · have hvol : ¬ (Sm z g (p + 1) = 118 ∧ Sm z g (p + 1 + 1) = 46) := fun q => c_90 (by have q2 := q.2; simp only [Sm] at q2; rw [if_pos hz2] at q2; exact (hby _ hz2).mpr q2)
              refine qp_iconst (v := 0) dX4_reads_97 (by decide) ?_
              refine qp_istore_n dX4_reads_98 (by decide) ?_
              refine QP.locsE (L1 := [some (.ref m0), some (.int (nI l)), some (.int (Sm z g (p + 1))), some (.int (0)), none]) rfl ?_
              refine qp_iload_n dX4_reads_99 rfl ?_
              refine qs_Ip dX4_reads_100 mX4_49 (m_isDigit G (Sm z g (p + 1))) rfl rfl rfl rfl rfl rfl ?_
              refine qp_if_eq 110 dX4_reads_103 (by decide) (fun c_103 => ?_) (fun c_103 => ?_)
              · rw [bI_0] at c_103
                refine qp_iload_n dX4_reads_110 rfl ?_
                refine qp_if_eq 118 dX4_reads_111 (by decide) (fun c_111 => ?_) (fun c_111 => absurd rfl c_111)
                refine qp_iload_n dX4_reads_118 rfl ?_
                refine qs_Ip dX4_reads_119 mX4_66 (m_isSmall G (Sm z g (p + 1))) rfl rfl rfl rfl rfl rfl ?_
                refine qp_if_eq 129 dX4_reads_122 (by decide) (fun c_122 => ?_) (fun c_122 => ?_)
                · rw [bI_0] at c_122
                  refine qp_iconst (v := 0) dX4_reads_129 (by decide) ?_
                  refine qp_istore dX4_reads_130 (by decide) ?_
                  refine QP.locsE (L1 := [some (.ref m0), some (.int (nI l)), some (.int (Sm z g (p + 1))), some (.int (0)), some (.int (0))]) rfl ?_
                  have eb : mBeg (Sm z g) (p + 1) = 0 := by simp only [mBeg]; rw [if_neg (by rw [c_103]; decide), if_neg hvol, if_neg (by rw [c_122]; decide)]
                  refine QP.locsE (L1 := [some (.ref m0), some (.int (nI l)), some (.int (Sm z g (p + 1))), some (.int (0)), some (.int (nI (mBeg (Sm z g) (p + 1))))]) (by rw [eb]; rfl) ?_
                  exact key _ _
                · rw [bI_n0] at c_122
                  refine qp_iconst (v := 3) dX4_reads_125 (by decide) ?_
                  refine qp_goto 130 dX4_reads_126 (by decide) ?_
                  refine qp_istore dX4_reads_130 (by decide) ?_
                  refine QP.locsE (L1 := [some (.ref m0), some (.int (nI l)), some (.int (Sm z g (p + 1))), some (.int (0)), some (.int (3))]) rfl ?_
                  have eb : mBeg (Sm z g) (p + 1) = 3 := by simp only [mBeg]; rw [if_neg (by rw [c_103]; decide), if_neg hvol, if_pos c_122]
                  refine QP.locsE (L1 := [some (.ref m0), some (.int (nI l)), some (.int (Sm z g (p + 1))), some (.int (0)), some (.int (nI (mBeg (Sm z g) (p + 1))))]) (by rw [eb]; rfl) ?_
                  exact key _ _
              · rw [bI_n0] at c_103
                refine qp_iconst (v := 1) dX4_reads_106 (by decide) ?_
                refine qp_goto 130 dX4_reads_107 (by decide) ?_
                refine qp_istore dX4_reads_130 (by decide) ?_
                refine QP.locsE (L1 := [some (.ref m0), some (.int (nI l)), some (.int (Sm z g (p + 1))), some (.int (0)), some (.int (1))]) rfl ?_
                have eb : mBeg (Sm z g) (p + 1) = 1 := by simp only [mBeg]; rw [if_pos c_103]
                refine QP.locsE (L1 := [some (.ref m0), some (.int (nI l)), some (.int (Sm z g (p + 1))), some (.int (0)), some (.int (nI (mBeg (Sm z g) (p + 1))))]) (by rw [eb]; rfl) ?_
                exact key _ _
            · have hvol : Sm z g (p + 1) = 118 ∧ Sm z g (p + 1 + 1) = 46 := ⟨c_61, by simp only [Sm]; rw [if_pos hz2]; exact (hby _ hz2).mp c_90⟩
              refine qp_iconst (v := 1) dX4_reads_93 (by decide) ?_
              refine qp_goto 98 dX4_reads_94 (by decide) ?_
              refine qp_istore_n dX4_reads_98 (by decide) ?_
              refine QP.locsE (L1 := [some (.ref m0), some (.int (nI l)), some (.int (Sm z g (p + 1))), some (.int (1)), none]) rfl ?_
              refine qp_iload_n dX4_reads_99 rfl ?_
              refine qs_Ip dX4_reads_100 mX4_49 (m_isDigit G (Sm z g (p + 1))) rfl rfl rfl rfl rfl rfl ?_
              refine qp_if_eq 110 dX4_reads_103 (by decide) (fun c_103 => ?_) (fun c_103 => ?_)
              · rw [bI_0] at c_103
                refine qp_iload_n dX4_reads_110 rfl ?_
                refine qp_if_eq 118 dX4_reads_111 (by decide) (fun c_111 => absurd c_111 (by decide)) (fun c_111 => ?_)
                refine qp_iconst (v := 2) dX4_reads_114 (by decide) ?_
                refine qp_goto 130 dX4_reads_115 (by decide) ?_
                refine qp_istore dX4_reads_130 (by decide) ?_
                refine QP.locsE (L1 := [some (.ref m0), some (.int (nI l)), some (.int (Sm z g (p + 1))), some (.int (1)), some (.int (2))]) rfl ?_
                have eb : mBeg (Sm z g) (p + 1) = 2 := by simp only [mBeg]; rw [if_neg (by rw [c_103]; decide), if_pos hvol]
                refine QP.locsE (L1 := [some (.ref m0), some (.int (nI l)), some (.int (Sm z g (p + 1))), some (.int (1)), some (.int (nI (mBeg (Sm z g) (p + 1))))]) (by rw [eb]; rfl) ?_
                exact key _ _
              · rw [bI_n0] at c_103
                refine qp_iconst (v := 1) dX4_reads_106 (by decide) ?_
                refine qp_goto 130 dX4_reads_107 (by decide) ?_
                refine qp_istore dX4_reads_130 (by decide) ?_
                refine QP.locsE (L1 := [some (.ref m0), some (.int (nI l)), some (.int (Sm z g (p + 1))), some (.int (1)), some (.int (1))]) rfl ?_
                have eb : mBeg (Sm z g) (p + 1) = 1 := by simp only [mBeg]; rw [if_pos c_103]
                refine QP.locsE (L1 := [some (.ref m0), some (.int (nI l)), some (.int (Sm z g (p + 1))), some (.int (1)), some (.int (nI (mBeg (Sm z g) (p + 1))))]) (by rw [eb]; rfl) ?_
                exact key _ _
      · have es : mSpace (Sm z g) p w = .inl p := by simp only [mSpace]; rw [if_neg h32]
        rw [es] at p3 ⊢
        obtain ⟨⟨pp2, w2, gm2, gw2⟩, o2⟩ := p3
        have g29 : h2 sa = some (.inl (1, 60, .inl (g))) := (o2 _ (ne_of_cells gs gm (by simp)) (ne_of_cells gs gw (by simp))).trans gs
        have gm2 : h2 m0 = some (.inr (5, [.int (thr), .int (sch), .ref sa, .int (nI z), .ref nw, .ref la, .int (th), .ref sh, .ref rcm, .int (cnt), .ref bf, .int (ps), .int (pp2), .int (nI p)])) := gm2
        have gw2 : h2 nw = some (.inl (0, 40, .inl (w2))) := gw2
        refine QP.topI (y := 0) rfl ?_
        refine qp_if_ne 53 dX4_reads_48 (by decide) (fun c_48 => absurd rfl c_48) (fun c_48 => ?_)
        refine qp_iconst (v := 0) dX4_reads_51 (by decide) ?_
        have eR : R = .inl p := by rw [hR, ht1, mRest_s, if_pos hpz, if_neg h32]
        exact qr_z dX4_reads_52 rfl nar_0 rfl rfl ⟨by rw [eR]; rfl, by rw [eR]; exact ⟨⟨_, _, gm2, gw2⟩, fun b hb1 hb2 => (o2 b hb1 hb2).trans (hfr b hb1 hb2)⟩⟩
