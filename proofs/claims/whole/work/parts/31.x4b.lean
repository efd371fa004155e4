def sVal (S : Nat → Int32) (p : Nat) : Nat → Int32
  | 0 => 0
  | n + 1 => 10 * sVal S p n + S (p + n) - 48
def runP (pr : Int32 → Bool) (S : Nat → Int32) : Nat → Nat → Nat
  | 0, _ => 0
  | m + 1, p => if pr (S p) = true then runP pr S m (p + 1) + 1 else 0
theorem runP_all {pr : Int32 → Bool} {S : Nat → Int32} : ∀ (m p : Nat), (∀ j, j < m → pr (S (p + j)) = true) → runP pr S m p = m
  | 0, _, _ => rfl
  | m + 1, p, h => by
    have h0 := h 0 (by omega)
    rw [Nat.add_zero] at h0
    rw [runP, if_pos h0, runP_all m (p + 1) (fun j hj => by
      have := h (j + 1) (by omega)
      rwa [show p + 1 + j = p + (j + 1) by omega])]
theorem runP_stop {pr : Int32 → Bool} {S : Nat → Int32} : ∀ (m p n : Nat), n ≤ m → (∀ j, j < n → pr (S (p + j)) = true) → pr (S (p + n)) = false → runP pr S m p = n
  | 0, _, n, h, _, _ => by simp [runP]; omega
  | m + 1, p, 0, _, _, h => by
    rw [Nat.add_zero] at h
    rw [runP, if_neg (by rw [h]; decide)]
  | m + 1, p, n + 1, h1, h2, h3 => by
    have h0 := h2 0 (by omega)
    rw [Nat.add_zero] at h0
    rw [runP, if_pos h0, runP_stop m (p + 1) n (by omega) (fun j hj => by
      have := h2 (j + 1) (by omega)
      rwa [show p + 1 + j = p + (j + 1) by omega]) (by rwa [show p + 1 + n = p + (n + 1) by omega])]
def rowW (w : Nat → Int32) (fr : Nat) (S : Nat → Int32) (p n : Nat) : Nat → Int32 := fun i => if fr ≤ i ∧ i < fr + n then S (p + (i - fr)) else w i
theorem rowW_0 (w : Nat → Int32) (fr : Nat) (S : Nat → Int32) (p : Nat) : rowW w fr S p 0 = w := by
  funext i
  simp only [rowW]
  rw [if_neg (by omega)]
theorem rowW_s (w : Nat → Int32) (fr : Nat) (S : Nat → Int32) (p n : Nat) : upd (rowW w fr S p n) (fr + n) (S (p + n)) = rowW w fr S p (n + 1) := by
  funext i
  simp only [upd, rowW]
  by_cases h1 : i = fr + n
  · subst h1
    rw [if_pos rfl, if_pos (by omega), show fr + n - fr = n by omega]
  · rw [if_neg h1]
    by_cases h2 : fr ≤ i ∧ i < fr + n
    · rw [if_pos h2, if_pos (by omega)]
    · rw [if_neg h2, if_neg (by omega)]
theorem dig48 {x : Int32} (h : isDig x = false) : ¬ x = 48 := fun q => by
  subst q
  exact absurd h (by decide)
def mNumber (S : Nat → Int32) (p into most : Nat) (w : Nat → Int32) : MOut := if S p = 48 then .inl p else if isDig (S (p + runD S most p)) = true then .inl (p + runD S most p) else if runD S most p = 0 then .inl p else .inr (p + runD S most p, upd w into (sVal S p (runD S most p)))
def mYear (S : Nat → Int32) (p : Nat) (w : Nat → Int32) : MOut := if S p = 48 then .inl p else if runD S 4 p < 4 then .inl (p + runD S 4 p) else .inr (p + 4, upd w 23 (sVal S p 4))
def mMark (S : Nat → Int32) (p : Nat) (w : Nat → Int32) : MOut := if isSml (S (p + runP isSml S 8 p)) = true then .inl (p + runP isSml S 8 p) else .inr (p + runP isSml S 8 p, rowW w 26 S p (runP isSml S 8 p))
def mSpace (S : Nat → Int32) (p : Nat) (w : Nat → Int32) : MOut := if S p = 32 then .inr (p + 1, w) else .inl p
def mCutter (S : Nat → Int32) (p : Nat) (w : Nat → Int32) : MOut := if isCap (S p) = false then .inl p else mDigits S (p + 1) 17 6 (upd w 16 (S p))
def mThen (o : MOut) (k : Nat → (Nat → Int32) → MOut) : MOut := match o with
  | .inl q => .inl q
  | .inr y => k y.1 y.2
def mVolume (S : Nat → Int32) (p : Nat) (w : Nat → Int32) : MOut := mThen (mNumber S (p + 2) 24 4 w) (fun q w' => if isSml (S q) = true then .inr (q + 1, upd w' 25 (S q)) else .inr (q, w'))
def mFrac (S : Nat → Int32) (q most : Nat) (w : Nat → Int32) : MOut := mThen (if S q = 46 then mDigits S (q + 1) 4 most w else .inr (q, w)) (fun q w' => .inr (q, upd w' 37 (nI q)))
def mClass0 (S : Nat → Int32) (p : Nat) (w : Nat → Int32) : MOut := if runD S 3 p < 3 then .inl (p + runD S 3 p) else mFrac S (p + 3) 9 (upd w 3 (sVal S p 3 + 1))
def mClass1 (S : Nat → Int32) (p : Nat) (w : Nat → Int32) : MOut := if isCap (S (p + runP isCap S 3 p)) = true then .inl (p + runP isCap S 3 p) else if runP isCap S 3 p = 0 then .inl p else mThen (mNumber S (p + runP isCap S 3 p) 3 4 (rowW w 0 S p (runP isCap S 3 p))) (fun q w' => mFrac S q 4 w')
set_option maxHeartbeats 4000000 in
set_option maxRecDepth 100000 in
theorem lm_number {G : qG} {h0 : qH} {thr sch th cnt ps : Int32} {m0 sa nw la sh rcm bf z p : Nat} {g w : Nat → Int32} {R : MOut} (nm : G.2.1 ≤ m0) (nn : G.2.1 ≤ nw) (hz : z ≤ 60) (hp : p ≤ 200) {into most : Nat} (hi : into < 40) (hm0 : 0 < most) (hm : most ≤ 10) (hR : R = mNumber (Sm z g) p into most w) : ∀ (t n : Nat) (wr : Int32) (h : qH), most < n + t → n ≤ most → (∀ j, j < n → isDig (Sm z g (p + j)) = true) → (0 < n → ¬ Sm z g p = 48) → h m0 = some (mdCell thr sch sa (nI z) nw la th sh rcm cnt bf ps (nI (p + n)) wr) → h sa = some (saCell g) → h nw = some (rwCell (w)) → (∀ b : Nat, b ≠ m0 → b ≠ nw → h b = h0 b) → QP G M_X4_number qTr (qMZ G M_X4_number (qI (fun v h1 => v = bI (mOk R) ∧ MdOut h0 h1 thr sch th cnt ps m0 sa nw la sh rcm bf z R))) 5 [some (.ref m0), some (.int (nI into)), some (.int (nI most)), some (.int (nI n)), some (.int (sVal (Sm z g) p n))] [] h 0 0 := by
  intro t
  induction t with
  | zero =>
    intro n wr h h1 h2
    omega
  | succ t ih =>
    intro n wr h h1 h2 hdig h48 gm gs gw hfr
    refine qp_aload_n dX4_number_5 rfl ?_
    refine qv_Ip dX4_number_6 mX4_45 (m_look G hz (by omega) gm gs) gm rfl rfl rfl rfl rfl rfl rfl ?_
    refine qs_Ip dX4_number_9 mX4_49 (m_isDigit G (Sm z g (p + n))) rfl rfl rfl rfl rfl rfl ?_
    refine qp_if_eq 73 dX4_number_12 (by decide) (fun c_12 => ?_) (fun c_12 => ?_)
    · rw [bI_0] at c_12
      refine qp_aload_n dX4_number_73 rfl ?_
      refine qp_getf dX4_number_74 fX4_13 gm rfl ?_
      refine qp_iload_n dX4_number_77 rfl ?_
      refine qp_iload dX4_number_78 rfl ?_
      refine qk_iast (into) dX4_number_80 gw nn rfl (by omega) (by decide) (fun h7 g8 o9 => ?_)
      have g10 : h7 m0 = some (.inr (5, [.int (thr), .int (sch), .ref sa, .int (nI z), .ref nw, .ref la, .int (th), .ref sh, .ref rcm, .int (cnt), .ref bf, .int (ps), .int (nI (p + n)), .int (wr)])) := (o9 _ (ne_of_cells gm gw (by simp))).trans gm
      have g11 : h7 sa = some (.inl (1, 60, .inl (g))) := (o9 _ (ne_of_cells gs gw (by simp))).trans gs
      have g8 : h7 nw = some (.inl (0, 40, .inl (upd (w) (into) (sVal (Sm z g) p n)))) := g8
      refine qp_iload_n dX4_number_81 rfl ?_
      refine qp_if_gt 96 dX4_number_82 (by decide) (fun c_82 => ?_) (fun c_82 => ?_)
      · have hn0 : 0 < n := (nI_ltI (a := 0) (by decide) (by omega)).mp c_82
        refine qp_iconst (v := 1) dX4_number_96 (by decide) ?_
        refine qp_goto 101 dX4_number_97 (by decide) ?_
        have hn : runD (Sm z g) most p = n := runD_stop most p n (by omega) hdig c_12
        have eR : R = .inr (p + n, upd w into (sVal (Sm z g) p n)) := by rw [hR, mNumber, hn, if_neg (h48 hn0), if_neg (by rw [c_12]; decide), if_neg (by omega)]
        exact qr_z dX4_number_101 rfl nar_1 rfl rfl ⟨by rw [eR]; rfl, by rw [eR]; exact ⟨⟨_, g10, g8⟩, fun b hb1 hb2 => (o9 b hb2).trans (hfr b hb1 hb2)⟩⟩
      · have hn0 : n = 0 := Nat.eq_zero_of_not_pos fun q => c_82 ((nI_ltI (a := 0) (by decide) (by omega)).mpr q)
        refine qp_aload_n dX4_number_85 rfl ?_
        refine qp_aload_n dX4_number_86 rfl ?_
        refine qp_getf dX4_number_87 fX4_39 g10 rfl ?_
        refine qv_Iq dX4_number_90 mX4_53 (m_bad G (nI (p + n)) nm g10) g10 rfl rfl rfl rfl rfl rfl rfl (fun h13 p14 => ?_)
        obtain ⟨g15, o16⟩ := p14
        have g17 : h13 sa = some (.inl (1, 60, .inl (g))) := (o16 _ (ne_of_cells g11 g10 (by simp))).trans g11
        have g18 : h13 nw = some (.inl (0, 40, .inl (upd (w) (into) (sVal (Sm z g) p n)))) := (o16 _ (ne_of_cells g8 g10 (by simp))).trans g8
        have g15 : h13 m0 = some (.inr (5, [.int (thr), .int (sch), .ref sa, .int (nI z), .ref nw, .ref la, .int (th), .ref sh, .ref rcm, .int (cnt), .ref bf, .int (ps), .int (nI (p + n)), .int (nI (p + n))])) := g15
        refine qp_if_eq 100 dX4_number_93 (by decide) (fun c_93 => ?_) (fun c_93 => absurd rfl c_93)
        refine qp_iconst (v := 0) dX4_number_100 (by decide) ?_
        have hn : runD (Sm z g) most p = n := runD_stop most p n (by omega) hdig c_12
        have eR : R = .inl (p + n) := by rw [hR, mNumber, hn, hn0, if_neg (by have := dig48 c_12; rw [hn0] at this; exact this), if_neg (by have := c_12; rw [hn0] at this; rw [this]; decide), if_pos rfl]; rfl
        exact qr_z dX4_number_101 rfl nar_0 rfl rfl ⟨by rw [eR]; rfl, by rw [eR]; exact ⟨⟨_, _, g15, g18⟩, fun b hb1 hb2 => ((o16 b hb1).trans (o9 b hb2)).trans (hfr b hb1 hb2)⟩⟩
    · rw [bI_n0] at c_12
      refine qp_iload_n dX4_number_15 rfl ?_
      refine qp_iload_n dX4_number_16 rfl ?_
      refine qp_icmp_eq 33 dX4_number_17 (by decide) (fun c_17 => ?_) (fun c_17 => ?_)
      · have hnm : n = most := (nI_eq (by omega) (by omega)).mp c_17
        refine qp_aload_n dX4_number_33 rfl ?_
        refine qp_aload_n dX4_number_34 rfl ?_
        refine qp_getf dX4_number_35 fX4_39 gm rfl ?_
        refine qv_Iq dX4_number_38 mX4_53 (m_bad G (nI (p + n)) nm gm) gm rfl rfl rfl rfl rfl rfl rfl (fun h20 p21 => ?_)
        obtain ⟨g22, o23⟩ := p21
        have g24 : h20 sa = some (.inl (1, 60, .inl (g))) := (o23 _ (ne_of_cells gs gm (by simp))).trans gs
        have g25 : h20 nw = some (.inl (0, 40, .inl (w))) := (o23 _ (ne_of_cells gw gm (by simp))).trans gw
        have g22 : h20 m0 = some (.inr (5, [.int (thr), .int (sch), .ref sa, .int (nI z), .ref nw, .ref la, .int (th), .ref sh, .ref rcm, .int (cnt), .ref bf, .int (ps), .int (nI (p + n)), .int (nI (p + n))])) := g22
        have hn : runD (Sm z g) most p = n := by rw [hnm]; exact runD_dig most p (fun j hj => hdig j (by omega))
        have eR : R = .inl (p + n) := by rw [hR, mNumber, hn, if_neg (h48 (by omega)), if_pos c_12]
        exact qr_z dX4_number_41 rfl nar_0 rfl rfl ⟨by rw [eR]; rfl, by rw [eR]; exact ⟨⟨_, _, g22, g25⟩, fun b hb1 hb2 => (o23 b hb1).trans (hfr b hb1 hb2)⟩⟩
      · have hnm : n < most := by have : ¬ n = most := fun q => c_17 (by rw [q]); omega
        refine qp_iload_n dX4_number_20 rfl ?_
        refine qp_if_ne 42 dX4_number_21 (by decide) (fun c_21 => ?_) (fun c_21 => ?_)
        · have hn0 : ¬ n = 0 := fun q => c_21 (by rw [q]; decide)
          refine qp_bipush (v := 10) dX4_number_42 (by decide) ?_
          refine qp_iload dX4_number_44 rfl ?_
          refine qp_imul dX4_number_46 ?_
          refine qp_aload_n dX4_number_47 rfl ?_
          refine qv_Ip dX4_number_48 mX4_45 (m_look G hz (by omega) gm gs) gm rfl rfl rfl rfl rfl rfl rfl ?_
          refine qp_iadd dX4_number_51 ?_
          refine qp_bipush (v := 48) dX4_number_52 (by decide) ?_
          refine qp_isub dX4_number_54 ?_
          refine QP.topI (y := sVal (Sm z g) p (n + 1)) rfl ?_
          refine qp_istore dX4_number_55 (by decide) ?_
          refine QP.locsE (L1 := [some (.ref m0), some (.int (nI into)), some (.int (nI most)), some (.int (nI n)), some (.int (sVal (Sm z g) p (n + 1)))]) rfl ?_
          refine qp_iinc (v := nI (n + 1)) dX4_number_57 rfl (by decide) (nI_1 n) ?_
          refine QP.locsE (L1 := [some (.ref m0), some (.int (nI into)), some (.int (nI most)), some (.int (nI (n + 1))), some (.int (sVal (Sm z g) p (n + 1)))]) rfl ?_
          refine qp_aload_n dX4_number_60 rfl ?_
          refine qp_dup dX4_number_61 rfl ?_
          refine qp_getf dX4_number_62 fX4_39 gm rfl ?_
          refine qp_iconst (v := 1) dX4_number_65 (by decide) ?_
          refine qp_iadd dX4_number_66 ?_
          refine QP.topI (y := nI (p + n + 1)) (nI_1 _) ?_
          refine qk_put dX4_number_67 fX4_39 gm nm rfl rfl rfl rfl rfl (fun h29 g30 o31 => ?_)
          have g32 : h29 sa = some (.inl (1, 60, .inl (g))) := (o31 _ (ne_of_cells gs gm (by simp))).trans gs
          have g33 : h29 nw = some (.inl (0, 40, .inl (w))) := (o31 _ (ne_of_cells gw gm (by simp))).trans gw
          have g30 : h29 m0 = some (.inr (5, [.int (thr), .int (sch), .ref sa, .int (nI z), .ref nw, .ref la, .int (th), .ref sh, .ref rcm, .int (cnt), .ref bf, .int (ps), .int (nI (p + n + 1)), .int (wr)])) := g30
          refine qp_goto 5 dX4_number_70 (by decide) ?_
          exact ih (n + 1) _ h29 (by omega) (by omega) (fun j hj => by rcases Nat.lt_succ_iff_lt_or_eq.mp hj with q | q; exact hdig j q; rw [q]; exact c_12) (fun _ => h48 (by omega)) g30 g32 g33 (fun b hb1 hb2 => (o31 b hb1).trans (hfr b hb1 hb2))
        · have hn0 : n = 0 := (nI_eq (b := 0) (by omega) (by decide)).mp c_21
          refine qp_aload_n dX4_number_24 rfl ?_
          refine qv_Ip dX4_number_25 mX4_45 (m_look G hz (by omega) gm gs) gm rfl rfl rfl rfl rfl rfl rfl ?_
          refine qp_bipush (v := 48) dX4_number_28 (by decide) ?_
          refine qp_icmp_ne 42 dX4_number_30 (by decide) (fun c_30 => ?_) (fun c_30 => ?_)
          · refine qp_bipush (v := 10) dX4_number_42 (by decide) ?_
            refine qp_iload dX4_number_44 rfl ?_
            refine qp_imul dX4_number_46 ?_
            refine qp_aload_n dX4_number_47 rfl ?_
            refine qv_Ip dX4_number_48 mX4_45 (m_look G hz (by omega) gm gs) gm rfl rfl rfl rfl rfl rfl rfl ?_
            refine qp_iadd dX4_number_51 ?_
            refine qp_bipush (v := 48) dX4_number_52 (by decide) ?_
            refine qp_isub dX4_number_54 ?_
            refine QP.topI (y := sVal (Sm z g) p (n + 1)) rfl ?_
            refine qp_istore dX4_number_55 (by decide) ?_
            refine QP.locsE (L1 := [some (.ref m0), some (.int (nI into)), some (.int (nI most)), some (.int (nI n)), some (.int (sVal (Sm z g) p (n + 1)))]) rfl ?_
            refine qp_iinc (v := nI (n + 1)) dX4_number_57 rfl (by decide) (nI_1 n) ?_
            refine QP.locsE (L1 := [some (.ref m0), some (.int (nI into)), some (.int (nI most)), some (.int (nI (n + 1))), some (.int (sVal (Sm z g) p (n + 1)))]) rfl ?_
            refine qp_aload_n dX4_number_60 rfl ?_
            refine qp_dup dX4_number_61 rfl ?_
            refine qp_getf dX4_number_62 fX4_39 gm rfl ?_
            refine qp_iconst (v := 1) dX4_number_65 (by decide) ?_
            refine qp_iadd dX4_number_66 ?_
            refine QP.topI (y := nI (p + n + 1)) (nI_1 _) ?_
            refine qk_put dX4_number_67 fX4_39 gm nm rfl rfl rfl rfl rfl (fun h40 g41 o42 => ?_)
            have g43 : h40 sa = some (.inl (1, 60, .inl (g))) := (o42 _ (ne_of_cells gs gm (by simp))).trans gs
            have g44 : h40 nw = some (.inl (0, 40, .inl (w))) := (o42 _ (ne_of_cells gw gm (by simp))).trans gw
            have g41 : h40 m0 = some (.inr (5, [.int (thr), .int (sch), .ref sa, .int (nI z), .ref nw, .ref la, .int (th), .ref sh, .ref rcm, .int (cnt), .ref bf, .int (ps), .int (nI (p + n + 1)), .int (wr)])) := g41
            refine qp_goto 5 dX4_number_70 (by decide) ?_
            exact ih (n + 1) _ h40 (by omega) (by omega) (fun j hj => by rcases Nat.lt_succ_iff_lt_or_eq.mp hj with q | q; exact hdig j q; rw [q]; exact c_12) (fun _ => by have := c_30; rw [hn0] at this; exact this) g41 g43 g44 (fun b hb1 hb2 => (o42 b hb1).trans (hfr b hb1 hb2))
          · refine qp_aload_n dX4_number_33 rfl ?_
            refine qp_aload_n dX4_number_34 rfl ?_
            refine qp_getf dX4_number_35 fX4_39 gm rfl ?_
            refine qv_Iq dX4_number_38 mX4_53 (m_bad G (nI (p + n)) nm gm) gm rfl rfl rfl rfl rfl rfl rfl (fun h46 p47 => ?_)
            obtain ⟨g48, o49⟩ := p47
            have g50 : h46 sa = some (.inl (1, 60, .inl (g))) := (o49 _ (ne_of_cells gs gm (by simp))).trans gs
            have g51 : h46 nw = some (.inl (0, 40, .inl (w))) := (o49 _ (ne_of_cells gw gm (by simp))).trans gw
            have g48 : h46 m0 = some (.inr (5, [.int (thr), .int (sch), .ref sa, .int (nI z), .ref nw, .ref la, .int (th), .ref sh, .ref rcm, .int (cnt), .ref bf, .int (ps), .int (nI (p + n)), .int (nI (p + n))])) := g48
            have eR : R = .inl (p + n) := by rw [hR, mNumber, if_pos (by have := c_30; rw [hn0] at this; exact this), hn0]; rfl
            exact qr_z dX4_number_41 rfl nar_0 rfl rfl ⟨by rw [eR]; rfl, by rw [eR]; exact ⟨⟨_, _, g48, g51⟩, fun b hb1 hb2 => (o49 b hb1).trans (hfr b hb1 hb2)⟩⟩
set_option maxHeartbeats 4000000 in
set_option maxRecDepth 100000 in
theorem m_number (G : qG) {h : qH} {thr sch th cnt ps wr : Int32} {m0 sa nw la sh rcm bf z p : Nat} {g w : Nat → Int32} (into most : Nat) (hi : into < 40) (hm0 : 0 < most) (hm : most ≤ 10) (hin : MdIn G h thr sch th cnt ps wr m0 sa nw la sh rcm bf z p g w) : qMet G M_X4_number [.ref m0, .int (nI into), .int (nI most)] h (qI (fun v h1 => v = bI (mOk (mNumber (Sm z g) p into most w)) ∧ MdOut h h1 thr sch th cnt ps m0 sa nw la sh rcm bf z (mNumber (Sm z g) p into most w))) := by
  obtain ⟨nm, nn, hz, hp, gm, gs, gw⟩ := hin
  refine qMet.of (by decide) (Nat.le_of_ble_eq_true rfl) rfl ?_
  refine QP.locsE (L1 := [some (.ref m0), some (.int (nI into)), some (.int (nI most)), none, none]) rfl ?_
  refine qp_iconst (v := 0) dX4_number_0 (by decide) ?_
  refine qp_istore_n dX4_number_1 (by decide) ?_
  refine QP.locsE (L1 := [some (.ref m0), some (.int (nI into)), some (.int (nI most)), some (.int (0)), none]) rfl ?_
  refine qp_iconst (v := 0) dX4_number_2 (by decide) ?_
  refine qp_istore dX4_number_3 (by decide) ?_
  refine QP.locsE (L1 := [some (.ref m0), some (.int (nI into)), some (.int (nI most)), some (.int (0)), some (.int (0))]) rfl ?_
  exact lm_number nm nn hz hp hi hm0 hm rfl (most + 1) 0 wr h (by omega) (by omega) (fun j hj => absurd hj (by omega)) (fun q => absurd q (by omega)) gm gs gw (fun _ _ _ => rfl)
set_option maxHeartbeats 4000000 in
set_option maxRecDepth 100000 in
theorem lm_readYear {G : qG} {h0 : qH} {thr sch th cnt ps : Int32} {m0 sa nw la sh rcm bf z p : Nat} {g w : Nat → Int32} {R : MOut} (nm : G.2.1 ≤ m0) (nn : G.2.1 ≤ nw) (hz : z ≤ 60) (hp : p ≤ 200) (hR : R = mYear (Sm z g) p w) : ∀ (t n : Nat) (wr : Int32) (h : qH), 4 < n + t → n ≤ 4 → (∀ j, j < n → isDig (Sm z g (p + j)) = true) → (0 < n → ¬ Sm z g p = 48) → h m0 = some (mdCell thr sch sa (nI z) nw la th sh rcm cnt bf ps (nI (p + n)) wr) → h sa = some (saCell g) → h nw = some (rwCell (w)) → (∀ b : Nat, b ≠ m0 → b ≠ nw → h b = h0 b) → QP G M_X4_readYear qTr (qMZ G M_X4_readYear (qI (fun v h1 => v = bI (mOk R) ∧ MdOut h0 h1 thr sch th cnt ps m0 sa nw la sh rcm bf z R))) 4 [some (.ref m0), some (.int (sVal (Sm z g) p n)), some (.int (nI n))] [] h 0 0 := by
  intro t
  induction t with
  | zero =>
    intro n wr h h1 h2
    omega
  | succ t ih =>
    intro n wr h h1 h2 hdig h48 gm gs gw hfr
    refine qp_iload_n dX4_readYear_4 rfl ?_
    refine qp_iconst (v := 4) dX4_readYear_5 (by decide) ?_
    refine qp_icmp_ge 70 dX4_readYear_6 (by decide) (fun c_6 => ?_) (fun c_6 => ?_)
    · have hn4 : n = 4 := by have := (nI_leI (a := 4) (by decide) (by omega)).mp c_6; omega
      refine qp_aload_n dX4_readYear_70 rfl ?_
      refine qp_getf dX4_readYear_71 fX4_13 gm rfl ?_
      refine qp_bipush (v := 23) dX4_readYear_74 (by decide) ?_
      refine qp_iload_n dX4_readYear_76 rfl ?_
      refine qk_iast (23) dX4_readYear_77 gw nn rfl (by omega) (by decide) (fun h1 g2 o3 => ?_)
      have g4 : h1 m0 = some (.inr (5, [.int (thr), .int (sch), .ref sa, .int (nI z), .ref nw, .ref la, .int (th), .ref sh, .ref rcm, .int (cnt), .ref bf, .int (ps), .int (nI (p + n)), .int (wr)])) := (o3 _ (ne_of_cells gm gw (by simp))).trans gm
      have g5 : h1 sa = some (.inl (1, 60, .inl (g))) := (o3 _ (ne_of_cells gs gw (by simp))).trans gs
      have g2 : h1 nw = some (.inl (0, 40, .inl (upd (w) (23) (sVal (Sm z g) p n)))) := g2
      refine qp_iconst (v := 1) dX4_readYear_78 (by decide) ?_
      have hn : runD (Sm z g) 4 p = 4 := runD_dig 4 p (fun j hj => hdig j (by omega))
      have eR : R = .inr (p + n, upd w 23 (sVal (Sm z g) p n)) := by rw [hR, mYear, hn, if_neg (h48 (by omega)), if_neg (by omega), hn4]
      exact qr_z dX4_readYear_79 rfl nar_1 rfl rfl ⟨by rw [eR]; rfl, by rw [eR]; exact ⟨⟨_, g4, g2⟩, fun b hb1 hb2 => (o3 b hb2).trans (hfr b hb1 hb2)⟩⟩
    · have hn4 : n < 4 := Nat.not_le.mp fun q => c_6 ((nI_leI (a := 4) (by decide) (by omega)).mpr q)
      refine qp_aload_n dX4_readYear_9 rfl ?_
      refine qv_Ip dX4_readYear_10 mX4_45 (m_look G hz (by omega) gm gs) gm rfl rfl rfl rfl rfl rfl rfl ?_
      refine qs_Ip dX4_readYear_13 mX4_49 (m_isDigit G (Sm z g (p + n))) rfl rfl rfl rfl rfl rfl ?_
      refine qp_if_eq 32 dX4_readYear_16 (by decide) (fun c_16 => ?_) (fun c_16 => ?_)
      · rw [bI_0] at c_16
        refine qp_aload_n dX4_readYear_32 rfl ?_
        refine qp_aload_n dX4_readYear_33 rfl ?_
        refine qp_getf dX4_readYear_34 fX4_39 gm rfl ?_
        refine qv_Iq dX4_readYear_37 mX4_53 (m_bad G (nI (p + n)) nm gm) gm rfl rfl rfl rfl rfl rfl rfl (fun h13 p14 => ?_)
        obtain ⟨g15, o16⟩ := p14
        have g17 : h13 sa = some (.inl (1, 60, .inl (g))) := (o16 _ (ne_of_cells gs gm (by simp))).trans gs
        have g18 : h13 nw = some (.inl (0, 40, .inl (w))) := (o16 _ (ne_of_cells gw gm (by simp))).trans gw
        have g15 : h13 m0 = some (.inr (5, [.int (thr), .int (sch), .ref sa, .int (nI z), .ref nw, .ref la, .int (th), .ref sh, .ref rcm, .int (cnt), .ref bf, .int (ps), .int (nI (p + n)), .int (nI (p + n))])) := g15
        have hn : runD (Sm z g) 4 p = n := runD_stop 4 p n (by omega) hdig c_16
        have hne : ¬ Sm z g p = 48 := by by_cases q : n = 0; have q2 := dig48 c_16; rw [q] at q2; exact q2; exact h48 (by omega)
        have eR : R = .inl (p + n) := by rw [hR, mYear, hn, if_neg hne, if_pos hn4]
        exact qr_z dX4_readYear_40 rfl nar_0 rfl rfl ⟨by rw [eR]; rfl, by rw [eR]; exact ⟨⟨_, _, g15, g18⟩, fun b hb1 hb2 => (o16 b hb1).trans (hfr b hb1 hb2)⟩⟩
      · rw [bI_n0] at c_16
        refine qp_iload_n dX4_readYear_19 rfl ?_
        refine qp_if_ne 41 dX4_readYear_20 (by decide) (fun c_20 => ?_) (fun c_20 => ?_)
        · have hn0 : ¬ n = 0 := fun q => c_20 (by rw [q]; decide)
          refine qp_bipush (v := 10) dX4_readYear_41 (by decide) ?_
          refine qp_iload_n dX4_readYear_43 rfl ?_
          refine qp_imul dX4_readYear_44 ?_
          refine qp_aload_n dX4_readYear_45 rfl ?_
          refine qv_Ip dX4_readYear_46 mX4_45 (m_look G hz (by omega) gm gs) gm rfl rfl rfl rfl rfl rfl rfl ?_
          refine qp_iadd dX4_readYear_49 ?_
          refine qp_bipush (v := 48) dX4_readYear_50 (by decide) ?_
          refine qp_isub dX4_readYear_52 ?_
          refine QP.topI (y := sVal (Sm z g) p (n + 1)) rfl ?_
          refine qp_istore_n dX4_readYear_53 (by decide) ?_
          refine QP.locsE (L1 := [some (.ref m0), some (.int (sVal (Sm z g) p (n + 1))), some (.int (nI n))]) rfl ?_
          refine qp_aload_n dX4_readYear_54 rfl ?_
          refine qp_dup dX4_readYear_55 rfl ?_
          refine qp_getf dX4_readYear_56 fX4_39 gm rfl ?_
          refine qp_iconst (v := 1) dX4_readYear_59 (by decide) ?_
          refine qp_iadd dX4_readYear_60 ?_
          refine QP.topI (y := nI (p + n + 1)) (nI_1 _) ?_
          refine qk_put dX4_readYear_61 fX4_39 gm nm rfl rfl rfl rfl rfl (fun h22 g23 o24 => ?_)
          have g25 : h22 sa = some (.inl (1, 60, .inl (g))) := (o24 _ (ne_of_cells gs gm (by simp))).trans gs
          have g26 : h22 nw = some (.inl (0, 40, .inl (w))) := (o24 _ (ne_of_cells gw gm (by simp))).trans gw
          have g23 : h22 m0 = some (.inr (5, [.int (thr), .int (sch), .ref sa, .int (nI z), .ref nw, .ref la, .int (th), .ref sh, .ref rcm, .int (cnt), .ref bf, .int (ps), .int (nI (p + n + 1)), .int (wr)])) := g23
          refine qp_iinc (v := nI (n + 1)) dX4_readYear_64 rfl (by decide) (nI_1 n) ?_
          refine QP.locsE (L1 := [some (.ref m0), some (.int (sVal (Sm z g) p (n + 1))), some (.int (nI (n + 1)))]) rfl ?_
          refine qp_goto 4 dX4_readYear_67 (by decide) ?_
          exact ih (n + 1) _ h22 (by omega) (by omega) (fun j hj => by rcases Nat.lt_succ_iff_lt_or_eq.mp hj with q | q; exact hdig j q; rw [q]; exact c_16) (fun _ => h48 (by omega)) g23 g25 g26 (fun b hb1 hb2 => (o24 b hb1).trans (hfr b hb1 hb2))
        · have hn0 : n = 0 := (nI_eq (b := 0) (by omega) (by decide)).mp c_20
          refine qp_aload_n dX4_readYear_23 rfl ?_
          refine qv_Ip dX4_readYear_24 mX4_45 (m_look G hz (by omega) gm gs) gm rfl rfl rfl rfl rfl rfl rfl ?_
          refine qp_bipush (v := 48) dX4_readYear_27 (by decide) ?_
          refine qp_icmp_ne 41 dX4_readYear_29 (by decide) (fun c_29 => ?_) (fun c_29 => ?_)
          · refine qp_bipush (v := 10) dX4_readYear_41 (by decide) ?_
            refine qp_iload_n dX4_readYear_43 rfl ?_
            refine qp_imul dX4_readYear_44 ?_
            refine qp_aload_n dX4_readYear_45 rfl ?_
            refine qv_Ip dX4_readYear_46 mX4_45 (m_look G hz (by omega) gm gs) gm rfl rfl rfl rfl rfl rfl rfl ?_
            refine qp_iadd dX4_readYear_49 ?_
            refine qp_bipush (v := 48) dX4_readYear_50 (by decide) ?_
            refine qp_isub dX4_readYear_52 ?_
            refine QP.topI (y := sVal (Sm z g) p (n + 1)) rfl ?_
            refine qp_istore_n dX4_readYear_53 (by decide) ?_
            refine QP.locsE (L1 := [some (.ref m0), some (.int (sVal (Sm z g) p (n + 1))), some (.int (nI n))]) rfl ?_
            refine qp_aload_n dX4_readYear_54 rfl ?_
            refine qp_dup dX4_readYear_55 rfl ?_
            refine qp_getf dX4_readYear_56 fX4_39 gm rfl ?_
            refine qp_iconst (v := 1) dX4_readYear_59 (by decide) ?_
            refine qp_iadd dX4_readYear_60 ?_
            refine QP.topI (y := nI (p + n + 1)) (nI_1 _) ?_
            refine qk_put dX4_readYear_61 fX4_39 gm nm rfl rfl rfl rfl rfl (fun h33 g34 o35 => ?_)
            have g36 : h33 sa = some (.inl (1, 60, .inl (g))) := (o35 _ (ne_of_cells gs gm (by simp))).trans gs
            have g37 : h33 nw = some (.inl (0, 40, .inl (w))) := (o35 _ (ne_of_cells gw gm (by simp))).trans gw
            have g34 : h33 m0 = some (.inr (5, [.int (thr), .int (sch), .ref sa, .int (nI z), .ref nw, .ref la, .int (th), .ref sh, .ref rcm, .int (cnt), .ref bf, .int (ps), .int (nI (p + n + 1)), .int (wr)])) := g34
            refine qp_iinc (v := nI (n + 1)) dX4_readYear_64 rfl (by decide) (nI_1 n) ?_
            refine QP.locsE (L1 := [some (.ref m0), some (.int (sVal (Sm z g) p (n + 1))), some (.int (nI (n + 1)))]) rfl ?_
            refine qp_goto 4 dX4_readYear_67 (by decide) ?_
            exact ih (n + 1) _ h33 (by omega) (by omega) (fun j hj => by rcases Nat.lt_succ_iff_lt_or_eq.mp hj with q | q; exact hdig j q; rw [q]; exact c_16) (fun _ => by have := c_29; rw [hn0] at this; exact this) g34 g36 g37 (fun b hb1 hb2 => (o35 b hb1).trans (hfr b hb1 hb2))
          · refine qp_aload_n dX4_readYear_32 rfl ?_
            refine qp_aload_n dX4_readYear_33 rfl ?_
            refine qp_getf dX4_readYear_34 fX4_39 gm rfl ?_
            refine qv_Iq dX4_readYear_37 mX4_53 (m_bad G (nI (p + n)) nm gm) gm rfl rfl rfl rfl rfl rfl rfl (fun h39 p40 => ?_)
            obtain ⟨g41, o42⟩ := p40
            have g43 : h39 sa = some (.inl (1, 60, .inl (g))) := (o42 _ (ne_of_cells gs gm (by simp))).trans gs
            have g44 : h39 nw = some (.inl (0, 40, .inl (w))) := (o42 _ (ne_of_cells gw gm (by simp))).trans gw
            have g41 : h39 m0 = some (.inr (5, [.int (thr), .int (sch), .ref sa, .int (nI z), .ref nw, .ref la, .int (th), .ref sh, .ref rcm, .int (cnt), .ref bf, .int (ps), .int (nI (p + n)), .int (nI (p + n))])) := g41
            have eR : R = .inl (p + n) := by rw [hR, mYear, if_pos (by have := c_29; rw [hn0] at this; exact this), hn0]; rfl
            exact qr_z dX4_readYear_40 rfl nar_0 rfl rfl ⟨by rw [eR]; rfl, by rw [eR]; exact ⟨⟨_, _, g41, g44⟩, fun b hb1 hb2 => (o42 b hb1).trans (hfr b hb1 hb2)⟩⟩
set_option maxHeartbeats 4000000 in
set_option maxRecDepth 100000 in
theorem m_readYear (G : qG) {h : qH} {thr sch th cnt ps wr : Int32} {m0 sa nw la sh rcm bf z p : Nat} {g w : Nat → Int32} (hin : MdIn G h thr sch th cnt ps wr m0 sa nw la sh rcm bf z p g w) : qMet G M_X4_readYear [.ref m0] h (qI (fun v h1 => v = bI (mOk (mYear (Sm z g) p w)) ∧ MdOut h h1 thr sch th cnt ps m0 sa nw la sh rcm bf z (mYear (Sm z g) p w))) := by
  obtain ⟨nm, nn, hz, hp, gm, gs, gw⟩ := hin
  refine qMet.of (by decide) (Nat.le_of_ble_eq_true rfl) rfl ?_
  refine QP.locsE (L1 := [some (.ref m0), none, none]) rfl ?_
  refine qp_iconst (v := 0) dX4_readYear_0 (by decide) ?_
  refine qp_istore_n dX4_readYear_1 (by decide) ?_
  refine QP.locsE (L1 := [some (.ref m0), some (.int (0)), none]) rfl ?_
  refine qp_iconst (v := 0) dX4_readYear_2 (by decide) ?_
  refine qp_istore_n dX4_readYear_3 (by decide) ?_
  refine QP.locsE (L1 := [some (.ref m0), some (.int (0)), some (.int (0))]) rfl ?_
  exact lm_readYear nm nn hz hp rfl 5 0 wr h (by omega) (by omega) (fun j hj => absurd hj (by omega)) (fun q => absurd q (by omega)) gm gs gw (fun _ _ _ => rfl)
set_option maxHeartbeats 4000000 in
set_option maxRecDepth 100000 in
theorem lm_readMark {G : qG} {h0 : qH} {thr sch th cnt ps : Int32} {m0 sa nw la sh rcm bf z p : Nat} {g w : Nat → Int32} {R : MOut} (nm : G.2.1 ≤ m0) (nn : G.2.1 ≤ nw) (hz : z ≤ 60) (hp : p ≤ 200) (hR : R = mMark (Sm z g) p w) : ∀ (t n : Nat) (wr : Int32) (h : qH), 8 < n + t → n ≤ 8 → (∀ j, j < n → isSml (Sm z g (p + j)) = true) → h m0 = some (mdCell thr sch sa (nI z) nw la th sh rcm cnt bf ps (nI (p + n)) wr) → h sa = some (saCell g) → h nw = some (rwCell (rowW w 26 (Sm z g) p n)) → (∀ b : Nat, b ≠ m0 → b ≠ nw → h b = h0 b) → QP G M_X4_readMark qTr (qMZ G M_X4_readMark (qI (fun v h1 => v = bI (mOk R) ∧ MdOut h0 h1 thr sch th cnt ps m0 sa nw la sh rcm bf z R))) 2 [some (.ref m0), some (.int (nI n))] [] h 0 0 := by
  intro t
  induction t with
  | zero =>
    intro n wr h h1 h2
    omega
  | succ t ih =>
    intro n wr h h1 h2 hdig gm gs gw hfr
    refine qp_aload_n dX4_readMark_2 rfl ?_
    refine qv_Ip dX4_readMark_3 mX4_45 (m_look G hz (by omega) gm gs) gm rfl rfl rfl rfl rfl rfl rfl ?_
    refine qs_Ip dX4_readMark_6 mX4_66 (m_isSmall G (Sm z g (p + n))) rfl rfl rfl rfl rfl rfl ?_
    refine qp_if_eq 56 dX4_readMark_9 (by decide) (fun c_9 => ?_) (fun c_9 => ?_)
    · rw [bI_0] at c_9
      refine qp_iconst (v := 1) dX4_readMark_56 (by decide) ?_
      have hn : runP isSml (Sm z g) 8 p = n := runP_stop 8 p n (by omega) hdig c_9
      have eR : R = .inr (p + n, rowW w 26 (Sm z g) p n) := by rw [hR, mMark, hn, if_neg (by rw [c_9]; decide)]
      exact qr_z dX4_readMark_57 rfl nar_1 rfl rfl ⟨by rw [eR]; rfl, by rw [eR]; exact ⟨⟨_, gm, gw⟩, hfr⟩⟩
    · rw [bI_n0] at c_9
      refine qp_iload_n dX4_readMark_12 rfl ?_
      refine qp_bipush (v := 8) dX4_readMark_13 (by decide) ?_
      refine qp_icmp_ne 27 dX4_readMark_15 (by decide) (fun c_15 => ?_) (fun c_15 => ?_)
      · have hn8 : n < 8 := by have : ¬ n = 8 := fun q => c_15 (by rw [q]; decide); omega
        refine qp_aload_n dX4_readMark_27 rfl ?_
        refine qp_getf dX4_readMark_28 fX4_13 gm rfl ?_
        refine qp_bipush (v := 26) dX4_readMark_31 (by decide) ?_
        refine qp_iload_n dX4_readMark_33 rfl ?_
        refine qp_iadd dX4_readMark_34 ?_
        refine QP.topI (y := nI (26 + n)) (nI_add 26 n) ?_
        refine qp_aload_n dX4_readMark_35 rfl ?_
        refine qv_Ip dX4_readMark_36 mX4_45 (m_look G hz (by omega) gm gs) gm rfl rfl rfl rfl rfl rfl rfl ?_
        refine qk_iast (26 + n) dX4_readMark_39 gw nn rfl (by omega) (by decide) (fun h10 g11 o12 => ?_)
        have g13 : h10 m0 = some (.inr (5, [.int (thr), .int (sch), .ref sa, .int (nI z), .ref nw, .ref la, .int (th), .ref sh, .ref rcm, .int (cnt), .ref bf, .int (ps), .int (nI (p + n)), .int (wr)])) := (o12 _ (ne_of_cells gm gw (by simp))).trans gm
        have g14 : h10 sa = some (.inl (1, 60, .inl (g))) := (o12 _ (ne_of_cells gs gw (by simp))).trans gs
        have g11 : h10 nw = some (.inl (0, 40, .inl (upd (rowW w 26 (Sm z g) p n) (26 + n) (Sm z g (p + n))))) := g11
        refine qp_iinc (v := nI (n + 1)) dX4_readMark_40 rfl (by decide) (nI_1 n) ?_
        refine QP.locsE (L1 := [some (.ref m0), some (.int (nI (n + 1)))]) rfl ?_
        refine qp_aload_n dX4_readMark_43 rfl ?_
        refine qp_dup dX4_readMark_44 rfl ?_
        refine qp_getf dX4_readMark_45 fX4_39 g13 rfl ?_
        refine qp_iconst (v := 1) dX4_readMark_48 (by decide) ?_
        refine qp_iadd dX4_readMark_49 ?_
        refine QP.topI (y := nI (p + n + 1)) (nI_1 _) ?_
        refine qk_put dX4_readMark_50 fX4_39 g13 nm rfl rfl rfl rfl rfl (fun h15 g16 o17 => ?_)
        have g18 : h15 sa = some (.inl (1, 60, .inl (g))) := (o17 _ (ne_of_cells g14 g13 (by simp))).trans g14
        have g19 : h15 nw = some (.inl (0, 40, .inl (upd (rowW w 26 (Sm z g) p n) (26 + n) (Sm z g (p + n))))) := (o17 _ (ne_of_cells g11 g13 (by simp))).trans g11
        have g16 : h15 m0 = some (.inr (5, [.int (thr), .int (sch), .ref sa, .int (nI z), .ref nw, .ref la, .int (th), .ref sh, .ref rcm, .int (cnt), .ref bf, .int (ps), .int (nI (p + n + 1)), .int (wr)])) := g16
        refine qp_goto 2 dX4_readMark_53 (by decide) ?_
        rw [rowW_s] at g19
        exact ih (n + 1) _ h15 (by omega) (by omega) (fun j hj => by rcases Nat.lt_succ_iff_lt_or_eq.mp hj with q | q; exact hdig j q; rw [q]; exact c_9) g16 g18 g19 (fun b hb1 hb2 => ((o17 b hb1).trans (o12 b hb2)).trans (hfr b hb1 hb2))
      · have hn8 : n = 8 := (nI_eq (b := 8) (by omega) (by decide)).mp c_15
        refine qp_aload_n dX4_readMark_18 rfl ?_
        refine qp_aload_n dX4_readMark_19 rfl ?_
        refine qp_getf dX4_readMark_20 fX4_39 gm rfl ?_
        refine qv_Iq dX4_readMark_23 mX4_53 (m_bad G (nI (p + n)) nm gm) gm rfl rfl rfl rfl rfl rfl rfl (fun h21 p22 => ?_)
        obtain ⟨g23, o24⟩ := p22
        have g25 : h21 sa = some (.inl (1, 60, .inl (g))) := (o24 _ (ne_of_cells gs gm (by simp))).trans gs
        have g26 : h21 nw = some (.inl (0, 40, .inl (rowW w 26 (Sm z g) p n))) := (o24 _ (ne_of_cells gw gm (by simp))).trans gw
        have g23 : h21 m0 = some (.inr (5, [.int (thr), .int (sch), .ref sa, .int (nI z), .ref nw, .ref la, .int (th), .ref sh, .ref rcm, .int (cnt), .ref bf, .int (ps), .int (nI (p + n)), .int (nI (p + n))])) := g23
        have hn : runP isSml (Sm z g) 8 p = n := by rw [hn8]; exact runP_all 8 p (fun j hj => hdig j (by omega))
        have eR : R = .inl (p + n) := by rw [hR, mMark, hn, if_pos c_9]
        exact qr_z dX4_readMark_26 rfl nar_0 rfl rfl ⟨by rw [eR]; rfl, by rw [eR]; exact ⟨⟨_, _, g23, g26⟩, fun b hb1 hb2 => (o24 b hb1).trans (hfr b hb1 hb2)⟩⟩
set_option maxHeartbeats 4000000 in
set_option maxRecDepth 100000 in
theorem m_readMark (G : qG) {h : qH} {thr sch th cnt ps wr : Int32} {m0 sa nw la sh rcm bf z p : Nat} {g w : Nat → Int32} (hin : MdIn G h thr sch th cnt ps wr m0 sa nw la sh rcm bf z p g w) : qMet G M_X4_readMark [.ref m0] h (qI (fun v h1 => v = bI (mOk (mMark (Sm z g) p w)) ∧ MdOut h h1 thr sch th cnt ps m0 sa nw la sh rcm bf z (mMark (Sm z g) p w))) := by
  obtain ⟨nm, nn, hz, hp, gm, gs, gw⟩ := hin
  refine qMet.of (by decide) (Nat.le_of_ble_eq_true rfl) rfl ?_
  refine QP.locsE (L1 := [some (.ref m0), none]) rfl ?_
  refine qp_iconst (v := 0) dX4_readMark_0 (by decide) ?_
  refine qp_istore_n dX4_readMark_1 (by decide) ?_
  refine QP.locsE (L1 := [some (.ref m0), some (.int (0))]) rfl ?_
  exact lm_readMark nm nn hz hp rfl 9 0 wr h (by omega) (by omega) (fun j hj => absurd hj (by omega)) gm gs (by rw [rowW_0]; exact gw) (fun _ _ _ => rfl)
set_option maxHeartbeats 4000000 in
set_option maxRecDepth 100000 in
theorem m_space (G : qG) {h : qH} {thr sch th cnt ps wr : Int32} {m0 sa nw la sh rcm bf z p : Nat} {g w : Nat → Int32} (hin : MdIn G h thr sch th cnt ps wr m0 sa nw la sh rcm bf z p g w) : qMet G M_X4_space [.ref m0] h (qI (fun v h1 => v = bI (mOk (mSpace (Sm z g) p w)) ∧ MdOut h h1 thr sch th cnt ps m0 sa nw la sh rcm bf z (mSpace (Sm z g) p w))) := by
  obtain ⟨nm, nn, hz, hp, gm, gs, gw⟩ := hin
  refine qMet.of (by decide) (Nat.le_of_ble_eq_true rfl) rfl ?_
  refine QP.locsE (L1 := [some (.ref m0)]) rfl ?_
  refine qp_aload_n dX4_space_0 rfl ?_
  refine qv_Ip dX4_space_1 mX4_45 (m_look G hz (by omega) gm gs) gm rfl rfl rfl rfl rfl rfl rfl ?_
  refine qp_bipush (v := 32) dX4_space_4 (by decide) ?_
  refine qp_icmp_eq 18 dX4_space_6 (by decide) (fun c_6 => ?_) (fun c_6 => ?_)
  · refine qp_aload_n dX4_space_18 rfl ?_
    refine qp_dup dX4_space_19 rfl ?_
    refine qp_getf dX4_space_20 fX4_39 gm rfl ?_
    refine qp_iconst (v := 1) dX4_space_23 (by decide) ?_
    refine qp_iadd dX4_space_24 ?_
    refine QP.topI (y := nI (p + 1)) (nI_1 p) ?_
    refine qk_put dX4_space_25 fX4_39 gm nm rfl rfl rfl rfl rfl (fun h4 g5 o6 => ?_)
    have g7 : h4 sa = some (.inl (1, 60, .inl (g))) := (o6 _ (ne_of_cells gs gm (by simp))).trans gs
    have g8 : h4 nw = some (.inl (0, 40, .inl (w))) := (o6 _ (ne_of_cells gw gm (by simp))).trans gw
    have g5 : h4 m0 = some (.inr (5, [.int (thr), .int (sch), .ref sa, .int (nI z), .ref nw, .ref la, .int (th), .ref sh, .ref rcm, .int (cnt), .ref bf, .int (ps), .int (nI (p + 1)), .int (wr)])) := g5
    refine qp_iconst (v := 1) dX4_space_28 (by decide) ?_
    exact qr_z dX4_space_29 rfl nar_1 rfl rfl ⟨by simp only [mSpace]; rw [if_pos c_6]; rfl, by simp only [mSpace]; rw [if_pos c_6]; exact ⟨⟨_, g5, g8⟩, fun b hb1 hb2 => (o6 b hb1)⟩⟩
  · refine qp_aload_n dX4_space_9 rfl ?_
    refine qp_aload_n dX4_space_10 rfl ?_
    refine qp_getf dX4_space_11 fX4_39 gm rfl ?_
    refine qv_Iq dX4_space_14 mX4_53 (m_bad G (nI p) nm gm) gm rfl rfl rfl rfl rfl rfl rfl (fun h10 p11 => ?_)
    obtain ⟨g12, o13⟩ := p11
    have g14 : h10 sa = some (.inl (1, 60, .inl (g))) := (o13 _ (ne_of_cells gs gm (by simp))).trans gs
    have g15 : h10 nw = some (.inl (0, 40, .inl (w))) := (o13 _ (ne_of_cells gw gm (by simp))).trans gw
    have g12 : h10 m0 = some (.inr (5, [.int (thr), .int (sch), .ref sa, .int (nI z), .ref nw, .ref la, .int (th), .ref sh, .ref rcm, .int (cnt), .ref bf, .int (ps), .int (nI p), .int (nI p)])) := g12
    exact qr_z dX4_space_17 rfl nar_0 rfl rfl ⟨by simp only [mSpace]; rw [if_neg c_6]; rfl, by simp only [mSpace]; rw [if_neg c_6]; exact ⟨⟨_, _, g12, g15⟩, fun b hb1 hb2 => (o13 b hb1)⟩⟩
theorem mDigits_bd {S : Nat → Int32} {p fr most : Nat} {w w' : Nat → Int32} {q : Nat} (h : mDigits S p fr most w = .inr (q, w')) : p ≤ q ∧ q ≤ p + most := by
  have := runD_le S most p
  simp only [mDigits] at h
  split at h
  · cases h
  · split at h
    · cases h
    · split at h
      · cases h
      · cases h; omega
theorem mNumber_bd {S : Nat → Int32} {p into most : Nat} {w w' : Nat → Int32} {q : Nat} (h : mNumber S p into most w = .inr (q, w')) : p ≤ q ∧ q ≤ p + most := by
  have := runD_le S most p
  simp only [mNumber] at h
  split at h
  · cases h
  · split at h
    · cases h
    · split at h
      · cases h
      · cases h; omega
set_option maxHeartbeats 4000000 in
set_option maxRecDepth 100000 in
theorem m_readCutter (G : qG) {h : qH} {thr sch th cnt ps wr : Int32} {m0 sa nw la sh rcm bf z p : Nat} {g w : Nat → Int32} (hp150 : p ≤ 150) (hin : MdIn G h thr sch th cnt ps wr m0 sa nw la sh rcm bf z p g w) : qMet G M_X4_readCutter [.ref m0] h (qI (fun v h1 => v = bI (mOk (mCutter (Sm z g) p w)) ∧ MdOut h h1 thr sch th cnt ps m0 sa nw la sh rcm bf z (mCutter (Sm z g) p w))) := by
  obtain ⟨nm, nn, hz, hp, gm, gs, gw⟩ := hin
  refine qMet.of (by decide) (Nat.le_of_ble_eq_true rfl) rfl ?_
  refine QP.locsE (L1 := [some (.ref m0)]) rfl ?_
  refine qp_aload_n dX4_readCutter_0 rfl ?_
  refine qv_Ip dX4_readCutter_1 mX4_45 (m_look G hz (by omega) gm gs) gm rfl rfl rfl rfl rfl rfl rfl ?_
  refine qs_Ip dX4_readCutter_4 mX4_56 (m_isCapital G (Sm z g (p))) rfl rfl rfl rfl rfl rfl ?_
  refine qp_if_ne 19 dX4_readCutter_7 (by decide) (fun c_7 => ?_) (fun c_7 => ?_)
  · rw [bI_n0] at c_7
    refine qp_aload_n dX4_readCutter_19 rfl ?_
    refine qp_getf dX4_readCutter_20 fX4_13 gm rfl ?_
    refine qp_bipush (v := 16) dX4_readCutter_23 (by decide) ?_
    refine qp_aload_n dX4_readCutter_25 rfl ?_
    refine qv_Ip dX4_readCutter_26 mX4_45 (m_look G hz (by omega) gm gs) gm rfl rfl rfl rfl rfl rfl rfl ?_
    refine qk_iast (16) dX4_readCutter_29 gw nn rfl (by omega) (by decide) (fun h10 g11 o12 => ?_)
    have g13 : h10 m0 = some (.inr (5, [.int (thr), .int (sch), .ref sa, .int (nI z), .ref nw, .ref la, .int (th), .ref sh, .ref rcm, .int (cnt), .ref bf, .int (ps), .int (nI p), .int (wr)])) := (o12 _ (ne_of_cells gm gw (by simp))).trans gm
    have g14 : h10 sa = some (.inl (1, 60, .inl (g))) := (o12 _ (ne_of_cells gs gw (by simp))).trans gs
    have g11 : h10 nw = some (.inl (0, 40, .inl (upd (w) (16) (Sm z g (p))))) := g11
    refine qp_aload_n dX4_readCutter_30 rfl ?_
    refine qp_dup dX4_readCutter_31 rfl ?_
    refine qp_getf dX4_readCutter_32 fX4_39 g13 rfl ?_
    refine qp_iconst (v := 1) dX4_readCutter_35 (by decide) ?_
    refine qp_iadd dX4_readCutter_36 ?_
    refine QP.topI (y := nI (p + 1)) (nI_1 p) ?_
    refine qk_put dX4_readCutter_37 fX4_39 g13 nm rfl rfl rfl rfl rfl (fun h15 g16 o17 => ?_)
    have g18 : h15 sa = some (.inl (1, 60, .inl (g))) := (o17 _ (ne_of_cells g14 g13 (by simp))).trans g14
    have g19 : h15 nw = some (.inl (0, 40, .inl (upd (w) (16) (Sm z g (p))))) := (o17 _ (ne_of_cells g11 g13 (by simp))).trans g11
    have g16 : h15 m0 = some (.inr (5, [.int (thr), .int (sch), .ref sa, .int (nI z), .ref nw, .ref la, .int (th), .ref sh, .ref rcm, .int (cnt), .ref bf, .int (ps), .int (nI (p + 1)), .int (wr)])) := g16
    refine qp_aload_n dX4_readCutter_40 rfl ?_
    refine qp_bipush (v := 17) dX4_readCutter_41 (by decide) ?_
    refine qp_bipush (v := 6) dX4_readCutter_43 (by decide) ?_
    refine qv_Iq dX4_readCutter_45 mX4_63 (m_digits G (17) (6) (by omega) (p := p + 1) ⟨nm, nn, hz, by omega, g16, g18, g19⟩) g16 rfl rfl rfl rfl rfl rfl rfl (fun h21 p22 => ?_)
    rcases hs23 : mDigits (Sm z g) (p + 1) (17) (6) (upd (w) (16) (Sm z g (p))) with q23 | ⟨q23, w23⟩
    · rw [hs23] at p22
      obtain ⟨⟨pp23, w23, g24, g25⟩, o26⟩ := p22
      have g27 : h21 sa = some (.inl (1, 60, .inl (g))) := (o26 _ (ne_of_cells g18 g16 (by simp)) (ne_of_cells g18 g19 (by simp))).trans g18
      have g24 : h21 m0 = some (.inr (5, [.int (thr), .int (sch), .ref sa, .int (nI z), .ref nw, .ref la, .int (th), .ref sh, .ref rcm, .int (cnt), .ref bf, .int (ps), .int (pp23), .int (nI q23)])) := g24
      have g25 : h21 nw = some (.inl (0, 40, .inl (w23))) := g25
      refine QP.topI (y := 0) rfl ?_
      exact qr_z dX4_readCutter_48 rfl nar_0 rfl rfl ⟨by simp only [mCutter]; rw [if_neg (by rw [c_7]; decide), hs23]; rfl, by simp only [mCutter]; rw [if_neg (by rw [c_7]; decide), hs23]; exact ⟨⟨_, _, g24, g25⟩, fun b hb1 hb2 => (((o26 b hb1 hb2).trans (o17 b hb1)).trans (o12 b hb2))⟩⟩
    · rw [hs23] at p22
      obtain ⟨⟨wr23, g28, g29⟩, o30⟩ := p22
      have bd23 := mDigits_bd hs23
      have g31 : h21 sa = some (.inl (1, 60, .inl (g))) := (o30 _ (ne_of_cells g18 g16 (by simp)) (ne_of_cells g18 g19 (by simp))).trans g18
      have g28 : h21 m0 = some (.inr (5, [.int (thr), .int (sch), .ref sa, .int (nI z), .ref nw, .ref la, .int (th), .ref sh, .ref rcm, .int (cnt), .ref bf, .int (ps), .int (nI q23), .int (wr23)])) := g28
      have g29 : h21 nw = some (.inl (0, 40, .inl (w23))) := g29
      refine QP.topI (y := 1) rfl ?_
      exact qr_z dX4_readCutter_48 rfl nar_1 rfl rfl ⟨by simp only [mCutter]; rw [if_neg (by rw [c_7]; decide), hs23]; rfl, by simp only [mCutter]; rw [if_neg (by rw [c_7]; decide), hs23]; exact ⟨⟨_, g28, g29⟩, fun b hb1 hb2 => (((o30 b hb1 hb2).trans (o17 b hb1)).trans (o12 b hb2))⟩⟩
  · rw [bI_0] at c_7
    refine qp_aload_n dX4_readCutter_10 rfl ?_
    refine qp_aload_n dX4_readCutter_11 rfl ?_
    refine qp_getf dX4_readCutter_12 fX4_39 gm rfl ?_
    refine qv_Iq dX4_readCutter_15 mX4_53 (m_bad G (nI p) nm gm) gm rfl rfl rfl rfl rfl rfl rfl (fun h33 p34 => ?_)
    obtain ⟨g35, o36⟩ := p34
    have g37 : h33 sa = some (.inl (1, 60, .inl (g))) := (o36 _ (ne_of_cells gs gm (by simp))).trans gs
    have g38 : h33 nw = some (.inl (0, 40, .inl (w))) := (o36 _ (ne_of_cells gw gm (by simp))).trans gw
    have g35 : h33 m0 = some (.inr (5, [.int (thr), .int (sch), .ref sa, .int (nI z), .ref nw, .ref la, .int (th), .ref sh, .ref rcm, .int (cnt), .ref bf, .int (ps), .int (nI p), .int (nI p)])) := g35
    exact qr_z dX4_readCutter_18 rfl nar_0 rfl rfl ⟨by simp only [mCutter]; rw [if_pos c_7]; rfl, by simp only [mCutter]; rw [if_pos c_7]; exact ⟨⟨_, _, g35, g38⟩, fun b hb1 hb2 => (o36 b hb1)⟩⟩
set_option maxHeartbeats 4000000 in
set_option maxRecDepth 100000 in
theorem m_readVolume (G : qG) {h : qH} {thr sch th cnt ps wr : Int32} {m0 sa nw la sh rcm bf z p : Nat} {g w : Nat → Int32} (hp150 : p ≤ 150) (hin : MdIn G h thr sch th cnt ps wr m0 sa nw la sh rcm bf z p g w) : qMet G M_X4_readVolume [.ref m0] h (qI (fun v h1 => v = bI (mOk (mVolume (Sm z g) p w)) ∧ MdOut h h1 thr sch th cnt ps m0 sa nw la sh rcm bf z (mVolume (Sm z g) p w))) := by
  obtain ⟨nm, nn, hz, hp, gm, gs, gw⟩ := hin
  refine qMet.of (by decide) (Nat.le_of_ble_eq_true rfl) rfl ?_
  refine QP.locsE (L1 := [some (.ref m0)]) rfl ?_
  refine qp_aload_n dX4_readVolume_0 rfl ?_
  refine qp_dup dX4_readVolume_1 rfl ?_
  refine qp_getf dX4_readVolume_2 fX4_39 gm rfl ?_
  refine qp_iconst (v := 2) dX4_readVolume_5 (by decide) ?_
  refine qp_iadd dX4_readVolume_6 ?_
  refine QP.topI (y := nI (p + 2)) (nI_add p 2) ?_
  refine qk_put dX4_readVolume_7 fX4_39 gm nm rfl rfl rfl rfl rfl (fun h1 g2 o3 => ?_)
  have g4 : h1 sa = some (.inl (1, 60, .inl (g))) := (o3 _ (ne_of_cells gs gm (by simp))).trans gs
  have g5 : h1 nw = some (.inl (0, 40, .inl (w))) := (o3 _ (ne_of_cells gw gm (by simp))).trans gw
  have g2 : h1 m0 = some (.inr (5, [.int (thr), .int (sch), .ref sa, .int (nI z), .ref nw, .ref la, .int (th), .ref sh, .ref rcm, .int (cnt), .ref bf, .int (ps), .int (nI (p + 2)), .int (wr)])) := g2
  refine qp_aload_n dX4_readVolume_10 rfl ?_
  refine qp_bipush (v := 24) dX4_readVolume_11 (by decide) ?_
  refine qp_iconst (v := 4) dX4_readVolume_13 (by decide) ?_
  refine qv_Iq dX4_readVolume_14 mX4_59 (m_number G (24) (4) (by omega) (by omega) (by omega) (p := p + 2) ⟨nm, nn, hz, by omega, g2, g4, g5⟩) g2 rfl rfl rfl rfl rfl rfl rfl (fun h7 p8 => ?_)
  rcases hs9 : mNumber (Sm z g) (p + 2) (24) (4) (w) with q9 | ⟨q9, w9⟩
  · rw [hs9] at p8
    obtain ⟨⟨pp9, w9, g10, g11⟩, o12⟩ := p8
    have g13 : h7 sa = some (.inl (1, 60, .inl (g))) := (o12 _ (ne_of_cells g4 g2 (by simp)) (ne_of_cells g4 g5 (by simp))).trans g4
    have g10 : h7 m0 = some (.inr (5, [.int (thr), .int (sch), .ref sa, .int (nI z), .ref nw, .ref la, .int (th), .ref sh, .ref rcm, .int (cnt), .ref bf, .int (ps), .int (pp9), .int (nI q9)])) := g10
    have g11 : h7 nw = some (.inl (0, 40, .inl (w9))) := g11
    refine QP.topI (y := 0) rfl ?_
    refine qp_if_ne 22 dX4_readVolume_17 (by decide) (fun c_17 => absurd rfl c_17) (fun c_17 => ?_)
    refine qp_iconst (v := 0) dX4_readVolume_20 (by decide) ?_
    exact qr_z dX4_readVolume_21 rfl nar_0 rfl rfl ⟨by simp only [mVolume]; rw [hs9]; rfl, by simp only [mVolume]; rw [hs9]; exact ⟨⟨_, _, g10, g11⟩, fun b hb1 hb2 => ((o12 b hb1 hb2).trans (o3 b hb1))⟩⟩
  · rw [hs9] at p8
    obtain ⟨⟨wr9, g14, g15⟩, o16⟩ := p8
    have bd9 := mNumber_bd hs9
    have g17 : h7 sa = some (.inl (1, 60, .inl (g))) := (o16 _ (ne_of_cells g4 g2 (by simp)) (ne_of_cells g4 g5 (by simp))).trans g4
    have g14 : h7 m0 = some (.inr (5, [.int (thr), .int (sch), .ref sa, .int (nI z), .ref nw, .ref la, .int (th), .ref sh, .ref rcm, .int (cnt), .ref bf, .int (ps), .int (nI q9), .int (wr9)])) := g14
    have g15 : h7 nw = some (.inl (0, 40, .inl (w9))) := g15
    refine QP.topI (y := 1) rfl ?_
    refine qp_if_ne 22 dX4_readVolume_17 (by decide) (fun c_17 => ?_) (fun c_17 => absurd c_17 (by decide))
    refine qp_aload_n dX4_readVolume_22 rfl ?_
    refine qv_Ip dX4_readVolume_23 mX4_45 (m_look G hz (by omega) g14 g17) g14 rfl rfl rfl rfl rfl rfl rfl ?_
    refine qs_Ip dX4_readVolume_26 mX4_66 (m_isSmall G (Sm z g (q9))) rfl rfl rfl rfl rfl rfl ?_
    refine qp_if_eq 53 dX4_readVolume_29 (by decide) (fun c_29 => ?_) (fun c_29 => ?_)
    · rw [bI_0] at c_29
      refine qp_iconst (v := 1) dX4_readVolume_53 (by decide) ?_
      exact qr_z dX4_readVolume_54 rfl nar_1 rfl rfl ⟨by simp only [mVolume]; rw [hs9]; simp only [mThen]; rw [if_neg (by rw [c_29]; decide)]; rfl, by simp only [mVolume]; rw [hs9]; simp only [mThen]; rw [if_neg (by rw [c_29]; decide)]; exact ⟨⟨_, g14, g15⟩, fun b hb1 hb2 => ((o16 b hb1 hb2).trans (o3 b hb1))⟩⟩
    · rw [bI_n0] at c_29
      refine qp_aload_n dX4_readVolume_32 rfl ?_
      refine qp_getf dX4_readVolume_33 fX4_13 g14 rfl ?_
      refine qp_bipush (v := 25) dX4_readVolume_36 (by decide) ?_
      refine qp_aload_n dX4_readVolume_38 rfl ?_
      refine qv_Ip dX4_readVolume_39 mX4_45 (m_look G hz (by omega) g14 g17) g14 rfl rfl rfl rfl rfl rfl rfl ?_
      refine qk_iast (25) dX4_readVolume_42 g15 nn rfl (by omega) (by decide) (fun h27 g28 o29 => ?_)
      have g30 : h27 sa = some (.inl (1, 60, .inl (g))) := (o29 _ (ne_of_cells g17 g15 (by simp))).trans g17
      have g31 : h27 m0 = some (.inr (5, [.int (thr), .int (sch), .ref sa, .int (nI z), .ref nw, .ref la, .int (th), .ref sh, .ref rcm, .int (cnt), .ref bf, .int (ps), .int (nI q9), .int (wr9)])) := (o29 _ (ne_of_cells g14 g15 (by simp))).trans g14
      have g28 : h27 nw = some (.inl (0, 40, .inl (upd (w9) (25) (Sm z g (q9))))) := g28
      refine qp_aload_n dX4_readVolume_43 rfl ?_
      refine qp_dup dX4_readVolume_44 rfl ?_
      refine qp_getf dX4_readVolume_45 fX4_39 g31 rfl ?_
      refine qp_iconst (v := 1) dX4_readVolume_48 (by decide) ?_
      refine qp_iadd dX4_readVolume_49 ?_
      refine QP.topI (y := nI (q9 + 1)) (nI_1 _) ?_
      refine qk_put dX4_readVolume_50 fX4_39 g31 nm rfl rfl rfl rfl rfl (fun h32 g33 o34 => ?_)
      have g35 : h32 sa = some (.inl (1, 60, .inl (g))) := (o34 _ (ne_of_cells g30 g31 (by simp))).trans g30
      have g36 : h32 nw = some (.inl (0, 40, .inl (upd (w9) (25) (Sm z g (q9))))) := (o34 _ (ne_of_cells g28 g31 (by simp))).trans g28
      have g33 : h32 m0 = some (.inr (5, [.int (thr), .int (sch), .ref sa, .int (nI z), .ref nw, .ref la, .int (th), .ref sh, .ref rcm, .int (cnt), .ref bf, .int (ps), .int (nI (q9 + 1)), .int (wr9)])) := g33
      refine qp_iconst (v := 1) dX4_readVolume_53 (by decide) ?_
      exact qr_z dX4_readVolume_54 rfl nar_1 rfl rfl ⟨by simp only [mVolume]; rw [hs9]; simp only [mThen]; rw [if_pos c_29]; rfl, by simp only [mVolume]; rw [hs9]; simp only [mThen]; rw [if_pos c_29]; exact ⟨⟨_, g33, g36⟩, fun b hb1 hb2 => ((((o34 b hb1).trans (o29 b hb2)).trans (o16 b hb1 hb2)).trans (o3 b hb1))⟩⟩
