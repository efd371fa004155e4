abbrev mdCell (thr sch : Int32) (sa : Nat) (sz : Int32) (nw la : Nat) (th : Int32) (sh rcm : Nat) (cnt : Int32) (bf : Nat) (ps at' wr : Int32) : qE := .inr (5, [.int thr, .int sch, .ref sa, .int sz, .ref nw, .ref la, .int th, .ref sh, .ref rcm, .int cnt, .ref bf, .int ps, .int at', .int wr])
abbrev saCell (g : Nat → Int32) : qE := .inl (1, 60, .inl g)
abbrev rwCell (w : Nat → Int32) : qE := .inl (0, 40, .inl w)
abbrev mshCell (w : Nat → Int32) : qE := .inl (0, 2400, .inl w)
/-- the reference's signs -/
def Sm (z : Nat) (g : Nat → Int32) : Nat → Int32 := fun p => if p < z then g p &&& 255 else -1
/-- what reading comes to: the wrong place, or the next place and the row -/
abbrev MOut : Type := Nat ⊕ (Nat × (Nat → Int32))
def mOk (o : MOut) : Bool := match o with
  | .inl _ => false
  | .inr _ => true
set_option maxHeartbeats 4000000 in
set_option maxRecDepth 100000 in
theorem m_thrown (G : qG) {h : qH} {thr sch th cnt ps wr sz pp : Int32} {m0 sa nw la sh rcm bf : Nat} (gm : h m0 = some (mdCell thr sch sa sz nw la th sh rcm cnt bf ps pp wr)) : qMet G M_X4_thrown [.ref m0] h (qI (fun v h1 => h1 = h ∧ v = thr)) := by
  refine qMet.of (by decide) (Nat.le_of_ble_eq_true rfl) rfl ?_
  refine QP.locsE (L1 := [some (.ref m0)]) rfl ?_
  refine qp_aload_n dX4_thrown_0 rfl ?_
  refine qp_getf dX4_thrown_1 fX4_33 gm rfl ?_
  exact qr_i dX4_thrown_4 rfl rfl rfl ⟨rfl, rfl⟩
set_option maxHeartbeats 4000000 in
set_option maxRecDepth 100000 in
theorem m_look (G : qG) {h : qH} {thr sch th cnt ps wr : Int32} {m0 sa nw la sh rcm bf z p : Nat} {g : Nat → Int32} (hz : z ≤ 60) (hp : p < 2147483648) (gm : h m0 = some (mdCell thr sch sa (nI z) nw la th sh rcm cnt bf ps (nI p) wr)) (gs : h sa = some (saCell g)) : qMet G M_X4_look [.ref m0] h (qI (fun v h1 => h1 = h ∧ v = Sm z g p)) := by
  refine qMet.of (by decide) (Nat.le_of_ble_eq_true rfl) rfl ?_
  refine QP.locsE (L1 := [some (.ref m0)]) rfl ?_
  refine qp_aload_n dX4_look_0 rfl ?_
  refine qp_getf dX4_look_1 fX4_39 gm rfl ?_
  refine qp_aload_n dX4_look_4 rfl ?_
  refine qp_getf dX4_look_5 fX4_36 gm rfl ?_
  refine qp_icmp_ge 27 dX4_look_8 (by decide) (fun c_8 => ?_) (fun c_8 => ?_)
  · have hk : z ≤ p := (nI_leI (by omega) (by omega)).mp c_8
    refine qp_iconst (v := -1) dX4_look_27 (by decide) ?_
    exact qr_i dX4_look_28 rfl rfl rfl ⟨rfl, by simp only [Sm]; rw [if_neg (by omega)]⟩
  · have hk : p < z := Nat.not_le.mp fun q => c_8 ((nI_leI (by omega) (by omega)).mpr q)
    refine qp_aload_n dX4_look_11 rfl ?_
    refine qp_getf dX4_look_12 fX4_7 gm rfl ?_
    refine qp_aload_n dX4_look_15 rfl ?_
    refine qp_getf dX4_look_16 fX4_39 gm rfl ?_
    refine qp_baldN (p) dX4_look_19 gs rfl (by omega) (by decide) ?_
    refine qp_sipush (v := 255) dX4_look_20 (by decide) ?_
    refine qp_iand dX4_look_23 ?_
    refine qp_goto 28 dX4_look_24 (by decide) ?_
    exact qr_i dX4_look_28 rfl rfl rfl ⟨rfl, by simp only [Sm]; rw [if_pos hk]⟩
set_option maxHeartbeats 4000000 in
set_option maxRecDepth 100000 in
theorem m_bad (G : qG) {h : qH} {thr sch th cnt ps wr sz pp : Int32} {m0 sa nw la sh rcm bf : Nat} (q : Int32) (nm : G.2.1 ≤ m0) (gm : h m0 = some (mdCell thr sch sa sz nw la th sh rcm cnt bf ps pp wr)) : qMet G M_X4_bad [.ref m0, .int q] h (qI (fun v h1 => v = 0 ∧ h1 m0 = some (mdCell thr sch sa sz nw la th sh rcm cnt bf ps pp q) ∧ ∀ b : Nat, b ≠ m0 → h1 b = h b)) := by
  refine qMet.of (by decide) (Nat.le_of_ble_eq_true rfl) rfl ?_
  refine QP.locsE (L1 := [some (.ref m0), some (.int (q))]) rfl ?_
  refine qp_aload_n dX4_bad_0 rfl ?_
  refine qp_iload_n dX4_bad_1 rfl ?_
  refine qk_put dX4_bad_2 fX4_42 gm nm rfl rfl rfl rfl rfl (fun h1 g2 o3 => ?_)
  have g2 : h1 m0 = some (.inr (5, [.int (thr), .int (sch), .ref sa, .int (sz), .ref nw, .ref la, .int (th), .ref sh, .ref rcm, .int (cnt), .ref bf, .int (ps), .int (pp), .int (q)])) := g2
  refine qp_iconst (v := 0) dX4_bad_5 (by decide) ?_
  exact qr_z dX4_bad_6 rfl nar_0 rfl rfl ⟨rfl, g2, fun b hb => (o3 b hb)⟩
def MdOut (h h1 : qH) (thr sch th cnt ps : Int32) (m0 sa nw la sh rcm bf z : Nat) (o : MOut) : Prop := match o with
  | .inl q => (∃ (pp : Int32) (w' : Nat → Int32), h1 m0 = some (mdCell thr sch sa (nI z) nw la th sh rcm cnt bf ps pp (nI q)) ∧ h1 nw = some (rwCell w')) ∧ ∀ b : Nat, b ≠ m0 → b ≠ nw → h1 b = h b
  | .inr y => (∃ wr : Int32, h1 m0 = some (mdCell thr sch sa (nI z) nw la th sh rcm cnt bf ps (nI y.1) wr) ∧ h1 nw = some (rwCell y.2)) ∧ ∀ b : Nat, b ≠ m0 → b ≠ nw → h1 b = h b
def MdIn (G : qG) (h : qH) (thr sch th cnt ps wr : Int32) (m0 sa nw la sh rcm bf z p : Nat) (g w : Nat → Int32) : Prop := G.2.1 ≤ m0 ∧ G.2.1 ≤ nw ∧ z ≤ 60 ∧ p ≤ 200 ∧ h m0 = some (mdCell thr sch sa (nI z) nw la th sh rcm cnt bf ps (nI p) wr) ∧ h sa = some (saCell g) ∧ h nw = some (rwCell w)
/-- the row with n digits, each one more, from a place on -/
def digW (w : Nat → Int32) (fr : Nat) (S : Nat → Int32) (p n : Nat) : Nat → Int32 := fun i => if fr ≤ i ∧ i < fr + n then S (p + (i - fr)) - 47 else w i
theorem digW_0 (w : Nat → Int32) (fr : Nat) (S : Nat → Int32) (p : Nat) : digW w fr S p 0 = w := by
  funext i
  simp only [digW]
  rw [if_neg (by omega)]
theorem digW_s (w : Nat → Int32) (fr : Nat) (S : Nat → Int32) (p n : Nat) : upd (digW w fr S p n) (fr + n) (S (p + n) - 47) = digW w fr S p (n + 1) := by
  funext i
  simp only [upd, digW]
  by_cases h1 : i = fr + n
  · subst h1
    rw [if_pos rfl, if_pos (by omega), show fr + n - fr = n by omega]
  · rw [if_neg h1]
    by_cases h2 : fr ≤ i ∧ i < fr + n
    · rw [if_pos h2, if_pos (by omega)]
    · rw [if_neg h2, if_neg (by omega)]
theorem digW_last {w : Nat → Int32} {fr : Nat} {S : Nat → Int32} {p n : Nat} (hn : 0 < n) : digW w fr S p n (fr + n - 1) = S (p + n - 1) - 47 := by
  simp only [digW]
  rw [if_pos (by omega), show p + (fr + n - 1 - fr) = p + n - 1 by omega]
def mDigits (S : Nat → Int32) (p fr most : Nat) (w : Nat → Int32) : MOut := if isDig (S (p + runD S most p)) = true then .inl (p + runD S most p) else if runD S most p = 0 then .inl (p + runD S most p) else if S (p + runD S most p - 1) = 48 then .inl (p + runD S most p - 1) else .inr (p + runD S most p, digW w fr S p (runD S most p))
theorem runD_dig {S : Nat → Int32} : ∀ (m p : Nat), (∀ j, j < m → isDig (S (p + j)) = true) → runD S m p = m
  | 0, _, _ => rfl
  | m + 1, p, h => by
    have h0 := h 0 (by omega)
    rw [Nat.add_zero] at h0
    rw [runD, if_pos h0, runD_dig m (p + 1) (fun j hj => by
      have := h (j + 1) (by omega)
      rwa [show p + 1 + j = p + (j + 1) by omega])]
theorem runD_stop {S : Nat → Int32} : ∀ (m p n : Nat), n ≤ m → (∀ j, j < n → isDig (S (p + j)) = true) → isDig (S (p + n)) = false → runD S m p = n
  | 0, _, n, h, _, _ => by simp [runD]; omega
  | m + 1, p, 0, _, _, h => by
    rw [Nat.add_zero] at h
    rw [runD, if_neg (by rw [h]; decide)]
  | m + 1, p, n + 1, h1, h2, h3 => by
    have h0 := h2 0 (by omega)
    rw [Nat.add_zero] at h0
    rw [runD, if_pos h0, runD_stop m (p + 1) n (by omega) (fun j hj => by
      have := h2 (j + 1) (by omega)
      rwa [show p + 1 + j = p + (j + 1) by omega]) (by rwa [show p + 1 + n = p + (n + 1) by omega])]
theorem i48 {x : Int32} : x - 47 = 1 ↔ x = 48 := by
  constructor
  · intro h
    have : x = x - 47 + 47 := by rw [Int32.sub_add_cancel]
    rw [this, h]; rfl
  · intro h
    subst h; rfl
set_option maxHeartbeats 4000000 in
set_option maxRecDepth 100000 in
theorem lm_digits {G : qG} {h0 : qH} {thr sch th cnt ps : Int32} {m0 sa nw la sh rcm bf z p fr most : Nat} {g w : Nat → Int32} {R : MOut} (nm : G.2.1 ≤ m0) (nn : G.2.1 ≤ nw) (hz : z ≤ 60) (hp : p ≤ 200) (hfr2 : fr + most ≤ 40) (hR : R = mDigits (Sm z g) p fr most w) : ∀ (t n : Nat) (wr : Int32) (h : qH), most < n + t → n ≤ most → (∀ j, j < n → isDig (Sm z g (p + j)) = true) → h m0 = some (mdCell thr sch sa (nI z) nw la th sh rcm cnt bf ps (nI (p + n)) wr) → h sa = some (saCell g) → h nw = some (rwCell (digW w fr (Sm z g) p n)) → (∀ b : Nat, b ≠ m0 → b ≠ nw → h b = h0 b) → QP G M_X4_digits qTr (qMZ G M_X4_digits (qI (fun v h1 => v = bI (mOk R) ∧ MdOut h0 h1 thr sch th cnt ps m0 sa nw la sh rcm bf z R))) 2 [some (.ref m0), some (.int (nI fr)), some (.int (nI most)), some (.int (nI n))] [] h 0 0 := by
  intro t
  induction t with
  | zero =>
    intro n wr h h1 h2
    omega
  | succ t ih =>
    intro n wr h h1 h2 hdig gm gs gw hfr
    refine qp_aload_n dX4_digits_2 rfl ?_
    refine qv_Ip dX4_digits_3 mX4_45 (m_look G hz (by omega) gm gs) gm rfl rfl rfl rfl rfl rfl rfl ?_
    refine qs_Ip dX4_digits_6 mX4_49 (m_isDigit G (Sm z g (p + n))) rfl rfl rfl rfl rfl rfl ?_
    refine qp_if_eq 57 dX4_digits_9 (by decide) (fun c_9 => ?_) (fun c_9 => ?_)
    · rw [bI_0] at c_9
      refine qp_iload_n dX4_digits_57 rfl ?_
      refine qp_if_ne 70 dX4_digits_58 (by decide) (fun c_58 => ?_) (fun c_58 => ?_)
      · have hn0 : ¬ n = 0 := fun q => c_58 (by rw [q]; decide)
        refine qp_aload_n dX4_digits_70 rfl ?_
        refine qp_getf dX4_digits_71 fX4_13 gm rfl ?_
        refine qp_iload_n dX4_digits_74 rfl ?_
        refine qp_iload_n dX4_digits_75 rfl ?_
        refine qp_iadd dX4_digits_76 ?_
        refine QP.topI (y := nI (fr + n)) (nI_add fr n) ?_
        refine qp_iconst (v := 1) dX4_digits_77 (by decide) ?_
        refine qp_isub dX4_digits_78 ?_
        refine QP.topI (y := nI (fr + n - 1)) (pk_sub (a := fr + n) (b := 1) (by omega)) ?_
        refine qp_ialdN (fr + n - 1) dX4_digits_79 gw rfl (by omega) (by decide) ?_
        refine QP.topI (y := Sm z g (p + n - 1) - 47) (digW_last (by omega)) ?_
        refine qp_iconst (v := 1) dX4_digits_80 (by decide) ?_
        refine qp_icmp_ne 97 dX4_digits_81 (by decide) (fun c_81 => ?_) (fun c_81 => ?_)
        · refine qp_iconst (v := 1) dX4_digits_97 (by decide) ?_
          refine qp_goto 102 dX4_digits_98 (by decide) ?_
          have hn : runD (Sm z g) most p = n := runD_stop most p n (by omega) hdig c_9
          have eR : R = .inr (p + n, digW w fr (Sm z g) p n) := by rw [hR, mDigits, hn, if_neg (by rw [c_9]; decide), if_neg hn0, if_neg (fun q => c_81 (i48.mpr q))]
          exact qr_z dX4_digits_102 rfl nar_1 rfl rfl ⟨by rw [eR]; rfl, by rw [eR]; exact ⟨⟨_, gm, gw⟩, hfr⟩⟩
        · refine qp_aload_n dX4_digits_84 rfl ?_
          refine qp_aload_n dX4_digits_85 rfl ?_
          refine qp_getf dX4_digits_86 fX4_39 gm rfl ?_
          refine qp_iconst (v := 1) dX4_digits_89 (by decide) ?_
          refine qp_isub dX4_digits_90 ?_
          refine QP.topI (y := nI (p + n - 1)) (pk_sub (a := p + n) (b := 1) (by omega)) ?_
          refine qv_Iq dX4_digits_91 mX4_53 (m_bad G (nI (p + n - 1)) nm gm) gm rfl rfl rfl rfl rfl rfl rfl (fun h8 p9 => ?_)
          obtain ⟨g10, o11⟩ := p9
          have g12 : h8 sa = some (.inl (1, 60, .inl (g))) := (o11 _ (ne_of_cells gs gm (by simp))).trans gs
          have g13 : h8 nw = some (.inl (0, 40, .inl (digW w fr (Sm z g) p n))) := (o11 _ (ne_of_cells gw gm (by simp))).trans gw
          have g10 : h8 m0 = some (.inr (5, [.int (thr), .int (sch), .ref sa, .int (nI z), .ref nw, .ref la, .int (th), .ref sh, .ref rcm, .int (cnt), .ref bf, .int (ps), .int (nI (p + n)), .int (nI (p + n - 1))])) := g10
          refine qp_if_eq 101 dX4_digits_94 (by decide) (fun c_94 => ?_) (fun c_94 => absurd rfl c_94)
          refine qp_iconst (v := 0) dX4_digits_101 (by decide) ?_
          have hn : runD (Sm z g) most p = n := runD_stop most p n (by omega) hdig c_9
          have eR : R = .inl (p + n - 1) := by rw [hR, mDigits, hn, if_neg (by rw [c_9]; decide), if_neg hn0, if_pos (i48.mp c_81)]
          exact qr_z dX4_digits_102 rfl nar_0 rfl rfl ⟨by rw [eR]; rfl, by rw [eR]; exact ⟨⟨_, _, g10, g13⟩, fun b hb1 hb2 => (o11 b hb1).trans (hfr b hb1 hb2)⟩⟩
      · have hn0 : n = 0 := (nI_eq (b := 0) (by omega) (by decide)).mp c_58
        refine qp_aload_n dX4_digits_61 rfl ?_
        refine qp_aload_n dX4_digits_62 rfl ?_
        refine qp_getf dX4_digits_63 fX4_39 gm rfl ?_
        refine qv_Iq dX4_digits_66 mX4_53 (m_bad G (nI (p + n)) nm gm) gm rfl rfl rfl rfl rfl rfl rfl (fun h15 p16 => ?_)
        obtain ⟨g17, o18⟩ := p16
        have g19 : h15 sa = some (.inl (1, 60, .inl (g))) := (o18 _ (ne_of_cells gs gm (by simp))).trans gs
        have g20 : h15 nw = some (.inl (0, 40, .inl (digW w fr (Sm z g) p n))) := (o18 _ (ne_of_cells gw gm (by simp))).trans gw
        have g17 : h15 m0 = some (.inr (5, [.int (thr), .int (sch), .ref sa, .int (nI z), .ref nw, .ref la, .int (th), .ref sh, .ref rcm, .int (cnt), .ref bf, .int (ps), .int (nI (p + n)), .int (nI (p + n))])) := g17
        have hn : runD (Sm z g) most p = n := runD_stop most p n (by omega) hdig c_9
        have eR : R = .inl (p + n) := by rw [hR, mDigits, hn, if_neg (by rw [c_9]; decide), if_pos hn0]
        exact qr_z dX4_digits_69 rfl nar_0 rfl rfl ⟨by rw [eR]; rfl, by rw [eR]; exact ⟨⟨_, _, g17, g20⟩, fun b hb1 hb2 => (o18 b hb1).trans (hfr b hb1 hb2)⟩⟩
    · rw [bI_n0] at c_9
      refine qp_iload_n dX4_digits_12 rfl ?_
      refine qp_iload_n dX4_digits_13 rfl ?_
      refine qp_icmp_ne 26 dX4_digits_14 (by decide) (fun c_14 => ?_) (fun c_14 => ?_)
      · have hnm : n < most := by have : ¬ n = most := fun q => c_14 (by rw [q]); omega
        refine qp_aload_n dX4_digits_26 rfl ?_
        refine qp_getf dX4_digits_27 fX4_13 gm rfl ?_
        refine qp_iload_n dX4_digits_30 rfl ?_
        refine qp_iload_n dX4_digits_31 rfl ?_
        refine qp_iadd dX4_digits_32 ?_
        refine QP.topI (y := nI (fr + n)) (nI_add fr n) ?_
        refine qp_aload_n dX4_digits_33 rfl ?_
        refine qv_Ip dX4_digits_34 mX4_45 (m_look G hz (by omega) gm gs) gm rfl rfl rfl rfl rfl rfl rfl ?_
        refine qp_bipush (v := 47) dX4_digits_37 (by decide) ?_
        refine qp_isub dX4_digits_39 ?_
        refine qk_iast (fr + n) dX4_digits_40 gw nn rfl (by omega) (by decide) (fun h24 g25 o26 => ?_)
        have g27 : h24 m0 = some (.inr (5, [.int (thr), .int (sch), .ref sa, .int (nI z), .ref nw, .ref la, .int (th), .ref sh, .ref rcm, .int (cnt), .ref bf, .int (ps), .int (nI (p + n)), .int (wr)])) := (o26 _ (ne_of_cells gm gw (by simp))).trans gm
        have g28 : h24 sa = some (.inl (1, 60, .inl (g))) := (o26 _ (ne_of_cells gs gw (by simp))).trans gs
        have g25 : h24 nw = some (.inl (0, 40, .inl (upd (digW w fr (Sm z g) p n) (fr + n) ((Sm z g (p + n)) - (47))))) := g25
        refine qp_iinc (v := nI (n + 1)) dX4_digits_41 rfl (by decide) (nI_1 n) ?_
        refine QP.locsE (L1 := [some (.ref m0), some (.int (nI fr)), some (.int (nI most)), some (.int (nI (n + 1)))]) rfl ?_
        refine qp_aload_n dX4_digits_44 rfl ?_
        refine qp_dup dX4_digits_45 rfl ?_
        refine qp_getf dX4_digits_46 fX4_39 g27 rfl ?_
        refine qp_iconst (v := 1) dX4_digits_49 (by decide) ?_
        refine qp_iadd dX4_digits_50 ?_
        refine QP.topI (y := nI (p + n + 1)) (nI_1 _) ?_
        refine qk_put dX4_digits_51 fX4_39 g27 nm rfl rfl rfl rfl rfl (fun h29 g30 o31 => ?_)
        have g32 : h29 sa = some (.inl (1, 60, .inl (g))) := (o31 _ (ne_of_cells g28 g27 (by simp))).trans g28
        have g33 : h29 nw = some (.inl (0, 40, .inl (upd (digW w fr (Sm z g) p n) (fr + n) ((Sm z g (p + n)) - (47))))) := (o31 _ (ne_of_cells g25 g27 (by simp))).trans g25
        have g30 : h29 m0 = some (.inr (5, [.int (thr), .int (sch), .ref sa, .int (nI z), .ref nw, .ref la, .int (th), .ref sh, .ref rcm, .int (cnt), .ref bf, .int (ps), .int (nI (p + n + 1)), .int (wr)])) := g30
        refine qp_goto 2 dX4_digits_54 (by decide) ?_
        rw [digW_s] at g33
        exact ih (n + 1) _ h29 (by omega) (by omega) (fun j hj => by rcases Nat.lt_succ_iff_lt_or_eq.mp hj with q | q; exact hdig j q; rw [q]; exact c_9) g30 g32 g33 (fun b hb1 hb2 => ((o31 b hb1).trans (o26 b hb2)).trans (hfr b hb1 hb2))
      · have hnm : n = most := (nI_eq (by omega) (by omega)).mp c_14
        refine qp_aload_n dX4_digits_17 rfl ?_
        refine qp_aload_n dX4_digits_18 rfl ?_
        refine qp_getf dX4_digits_19 fX4_39 gm rfl ?_
        refine qv_Iq dX4_digits_22 mX4_53 (m_bad G (nI (p + n)) nm gm) gm rfl rfl rfl rfl rfl rfl rfl (fun h35 p36 => ?_)
        obtain ⟨g37, o38⟩ := p36
        have g39 : h35 sa = some (.inl (1, 60, .inl (g))) := (o38 _ (ne_of_cells gs gm (by simp))).trans gs
        have g40 : h35 nw = some (.inl (0, 40, .inl (digW w fr (Sm z g) p n))) := (o38 _ (ne_of_cells gw gm (by simp))).trans gw
        have g37 : h35 m0 = some (.inr (5, [.int (thr), .int (sch), .ref sa, .int (nI z), .ref nw, .ref la, .int (th), .ref sh, .ref rcm, .int (cnt), .ref bf, .int (ps), .int (nI (p + n)), .int (nI (p + n))])) := g37
        have hn : runD (Sm z g) most p = most := runD_dig most p (fun j hj => hdig j (by omega))
        have eR : R = .inl (p + n) := by rw [hR, mDigits, hn, ← hnm, if_pos c_9]
        exact qr_z dX4_digits_25 rfl nar_0 rfl rfl ⟨by rw [eR]; rfl, by rw [eR]; exact ⟨⟨_, _, g37, g40⟩, fun b hb1 hb2 => (o38 b hb1).trans (hfr b hb1 hb2)⟩⟩
set_option maxHeartbeats 4000000 in
set_option maxRecDepth 100000 in
theorem m_digits (G : qG) {h : qH} {thr sch th cnt ps wr : Int32} {m0 sa nw la sh rcm bf z p : Nat} {g w : Nat → Int32} (fr most : Nat) (hfr2 : fr + most ≤ 40) (hin : MdIn G h thr sch th cnt ps wr m0 sa nw la sh rcm bf z p g w) : qMet G M_X4_digits [.ref m0, .int (nI fr), .int (nI most)] h (qI (fun v h1 => v = bI (mOk (mDigits (Sm z g) p fr most w)) ∧ MdOut h h1 thr sch th cnt ps m0 sa nw la sh rcm bf z (mDigits (Sm z g) p fr most w))) := by
  obtain ⟨nm, nn, hz, hp, gm, gs, gw⟩ := hin
  refine qMet.of (by decide) (Nat.le_of_ble_eq_true rfl) rfl ?_
  refine QP.locsE (L1 := [some (.ref m0), some (.int (nI fr)), some (.int (nI most)), none]) rfl ?_
  refine qp_iconst (v := 0) dX4_digits_0 (by decide) ?_
  refine qp_istore_n dX4_digits_1 (by decide) ?_
  refine QP.locsE (L1 := [some (.ref m0), some (.int (nI fr)), some (.int (nI most)), some (.int (0))]) rfl ?_
  exact lm_digits nm nn hz hp hfr2 rfl (most + 1) 0 wr h (by omega) (by omega) (fun j hj => absurd hj (by omega)) gm gs (by rw [digW_0]; exact gw) (fun _ _ _ => rfl)
