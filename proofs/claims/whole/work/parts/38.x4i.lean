/-- rows above p up to c have moved up by one; of row p the first k places too -/
def shUI (H : Nat → Int32) (p c k : Nat) : Nat → Int32 := fun i => if (40 * (p + 1) ≤ i ∧ i < 40 * (c + 1)) ∨ (40 * p ≤ i ∧ i < 40 * p + k) then H (i - 40) else H i
theorem shUI_c (H : Nat → Int32) (c : Nat) : shUI H c c 0 = H := by
  funext i
  simp only [shUI]
  rw [if_neg (by omega)]
theorem shUI_s {H : Nat → Int32} {p c k : Nat} (hk : k < 40) (hp : 0 < p) : upd (shUI H p c k) (40 * p + k) (shUI H p c k (40 * p - 40 + k)) = shUI H p c (k + 1) := by
  funext i
  simp only [upd, shUI]
  by_cases h1 : i = 40 * p + k
  · subst h1
    rw [if_pos rfl, if_neg (by omega), if_pos (by omega), show 40 * p + k - 40 = 40 * p - 40 + k by omega]
  · rw [if_neg h1]
    by_cases h2 : (40 * (p + 1) ≤ i ∧ i < 40 * (c + 1)) ∨ (40 * p ≤ i ∧ i < 40 * p + k)
    · rw [if_pos h2, if_pos (by omega)]
    · rw [if_neg h2, if_neg (by omega)]
theorem shUI_n {H : Nat → Int32} {p c : Nat} (hpc : p + 1 ≤ c) : shUI H (p + 1) c 40 = shUI H p c 0 := by
  funext i
  simp only [shUI]
  by_cases h2 : (40 * (p + 1 + 1) ≤ i ∧ i < 40 * (c + 1)) ∨ (40 * (p + 1) ≤ i ∧ i < 40 * (p + 1) + 40)
  · rw [if_pos h2, if_pos (by omega)]
  · rw [if_neg h2, if_neg (by omega)]
/-- the first k places of row j are a's -/
def cpR (H : Nat → Int32) (j : Nat) (a : Nat → Int32) (k : Nat) : Nat → Int32 := fun i => if 40 * j ≤ i ∧ i < 40 * j + k then a (i - 40 * j) else H i
theorem cpR_0 (H : Nat → Int32) (j : Nat) (a : Nat → Int32) : cpR H j a 0 = H := by
  funext i
  simp only [cpR]
  rw [if_neg (by omega)]
theorem cpR_s (H : Nat → Int32) (j : Nat) (a : Nat → Int32) (k : Nat) : upd (cpR H j a k) (40 * j + k) (a k) = cpR H j a (k + 1) := by
  funext i
  simp only [upd, cpR]
  by_cases h1 : i = 40 * j + k
  · subst h1
    rw [if_pos rfl, if_pos (by omega), show 40 * j + k - 40 * j = k by omega]
  · rw [if_neg h1]
    by_cases h2 : 40 * j ≤ i ∧ i < 40 * j + k
    · rw [if_pos h2, if_pos (by omega)]
    · rw [if_neg h2, if_neg (by omega)]
/-- rows from j up to p have moved down by one; of row p the first k places too -/
def shDI (H : Nat → Int32) (j p k : Nat) : Nat → Int32 := fun i => if 40 * j ≤ i ∧ i < 40 * p + k then H (i + 40) else H i
theorem shDI_0 (H : Nat → Int32) (j : Nat) : shDI H j j 0 = H := by
  funext i
  simp only [shDI]
  rw [if_neg (by omega)]
theorem shDI_s {H : Nat → Int32} {j p k : Nat} (hk : k < 40) (hp : j ≤ p) : upd (shDI H j p k) (40 * p + k) (shDI H j p k (40 * p + 40 + k)) = shDI H j p (k + 1) := by
  funext i
  simp only [upd, shDI]
  by_cases h1 : i = 40 * p + k
  · subst h1
    rw [if_pos rfl, if_neg (by omega), if_pos (by omega), show 40 * p + k + 40 = 40 * p + 40 + k by omega]
  · rw [if_neg h1]
    by_cases h2 : 40 * j ≤ i ∧ i < 40 * p + k
    · rw [if_pos h2, if_pos (by omega)]
    · rw [if_neg h2, if_neg (by omega)]
theorem shDI_n {H : Nat → Int32} {j p : Nat} : shDI H j p 40 = shDI H j (p + 1) 0 := by
  funext i
  simp only [shDI]
  by_cases h2 : 40 * j ≤ i ∧ i < 40 * p + 40
  · rw [if_pos h2, if_pos (by omega)]
  · rw [if_neg h2, if_neg (by omega)]
set_option maxHeartbeats 4000000 in
set_option maxRecDepth 100000 in
theorem lm_putI {G : qG} {Z : qZ} {h0 : qH} {sch ps pp wr sz : Int32} {m0 sa nw la sh rcm bf c : Nat} {H : Nat → Int32} {p : Nat} {rec a2 : Int32} (nsh : G.2.1 ≤ sh) (hc : c < 60) (hp0 : 0 < p) (hp : p ≤ c)
    (cont : ∀ h : qH, h m0 = some (mdCell 0 sch sa sz nw la 1 sh rcm (nI c) bf ps pp wr) → h sh = some (mshCell (shUI H p c 40)) → (∀ b : Nat, b ≠ sh → h b = h0 b) → QP G M_X4_put qTr Z 110 [some (.ref m0), some (.int rec), some (.int a2), some (.int (nI p)), some (.int (nI 40))] [] h 0 0) : ∀ (t k : Nat) (h : qH), 40 < k + t → k ≤ 40 → h m0 = some (mdCell 0 sch sa sz nw la 1 sh rcm (nI c) bf ps pp wr) → h sh = some (mshCell (shUI H p c k)) → (∀ b : Nat, b ≠ sh → h b = h0 b) → QP G M_X4_put qTr Z 70 [some (.ref m0), some (.int rec), some (.int a2), some (.int (nI p)), some (.int (nI k))] [] h 0 0 := by
  intro t
  induction t with
  | zero =>
    intro k h h1 h2
    omega
  | succ t ih =>
    intro k h h1 h2 gm gh hfr
    refine qp_iload dX4_put_70 rfl ?_
    refine qp_bipush (v := 40) dX4_put_72 (by decide) ?_
    refine qp_icmp_ge 110 dX4_put_74 (by decide) (fun c_74 => ?_) (fun c_74 => ?_)
    · have hk : k = 40 := by have := (nI_leI (a := 40) (by decide) (by omega)).mp c_74; omega
      subst hk
      exact cont h gm gh hfr
    · have hk : k < 40 := Nat.not_le.mp fun q => c_74 ((nI_leI (a := 40) (by decide) (by omega)).mpr q)
      refine qp_aload_n dX4_put_77 rfl ?_
      refine qp_getf dX4_put_78 fX4_20 gm rfl ?_
      refine qp_bipush (v := 40) dX4_put_81 (by decide) ?_
      refine qp_iload_n dX4_put_83 rfl ?_
      refine qp_imul dX4_put_84 ?_
      refine QP.topI (y := nI (40 * p)) (pk_mul 40 _) ?_
      refine qp_iload dX4_put_85 rfl ?_
      refine qp_iadd dX4_put_87 ?_
      refine QP.topI (y := nI (40 * p + k)) (nI_add _ _) ?_
      refine qp_aload_n dX4_put_88 rfl ?_
      refine qp_getf dX4_put_89 fX4_20 gm rfl ?_
      refine qp_bipush (v := 40) dX4_put_92 (by decide) ?_
      refine qp_iload_n dX4_put_94 rfl ?_
      refine qp_imul dX4_put_95 ?_
      refine QP.topI (y := nI (40 * p)) (pk_mul 40 _) ?_
      refine qp_bipush (v := 40) dX4_put_96 (by decide) ?_
      refine qp_isub dX4_put_98 ?_
      refine QP.topI (y := nI (40 * p - 40)) (pk_sub (b := 40) (by omega)) ?_
      refine qp_iload dX4_put_99 rfl ?_
      refine qp_iadd dX4_put_101 ?_
      refine QP.topI (y := nI (40 * p - 40 + k)) (nI_add _ _) ?_
      refine qp_ialdN (40 * p - 40 + k) dX4_put_102 gh rfl (by omega) (by decide) ?_
      refine qk_iast (40 * p + k) dX4_put_103 gh nsh rfl (by omega) (by decide) (fun h1 g2 o3 => ?_)
      have g4 : h1 m0 = some (.inr (5, [.int (0), .int (sch), .ref sa, .int (sz), .ref nw, .ref la, .int (1), .ref sh, .ref rcm, .int (nI c), .ref bf, .int (ps), .int (pp), .int (wr)])) := (o3 _ (ne_of_cells gm gh (by simp))).trans gm
      have g2 : h1 sh = some (.inl (0, 2400, .inl (upd (shUI H p c k) (40 * p + k) (shUI H p c k (40 * p - 40 + k))))) := g2
      refine qp_iinc (v := nI (k + 1)) dX4_put_104 rfl (by decide) (nI_1 k) ?_
      refine QP.locsE (L1 := [some (.ref m0), some (.int (rec)), some (.int (a2)), some (.int (nI p)), some (.int (nI (k + 1)))]) rfl ?_
      refine qp_goto 70 dX4_put_107 (by decide) ?_
      rw [shUI_s (by omega) (by omega)] at g2
      exact ih (k + 1) h1 (by omega) (by omega) g4 g2 (fun b hb => (o3 b hb).trans (hfr b hb))
set_option maxHeartbeats 4000000 in
set_option maxRecDepth 100000 in
theorem lm_putC {G : qG} {h0 : qH} {sch ps pp wr sz : Int32} {m0 sa nw la sh rcm bf c j : Nat} {A H1 R1 : Nat → Int32} {rec : Int32} {a4 : Option Value} (nm : G.2.1 ≤ m0) (nsh : G.2.1 ≤ sh) (nrc : G.2.1 ≤ rcm) (hc : c < 60) (hj : j ≤ c) : ∀ (t k : Nat) (h : qH), 40 < k + t → k ≤ 40 → h m0 = some (mdCell 0 sch sa sz nw la 1 sh rcm (nI c) bf ps pp wr) → h la = some (rwCell A) → h sh = some (mshCell (cpR H1 j A k)) → h rcm = some (rcCell R1) → (∀ b : Nat, b ≠ m0 → b ≠ sh → b ≠ rcm → h b = h0 b) → QP G M_X4_put qTr (qMZ G M_X4_put (qI (fun v h1 => v = nI j ∧ h1 m0 = some (mdCell 0 sch sa sz nw la 1 sh rcm (nI (c + 1)) bf ps pp wr) ∧ h1 sh = some (mshCell (cpR H1 j A 40)) ∧ h1 rcm = some (rcCell (upd R1 j rec)) ∧ ∀ b : Nat, b ≠ m0 → b ≠ sh → b ≠ rcm → h1 b = h0 b))) 132 [some (.ref m0), some (.int rec), some (.int (nI j)), some (.int (nI k)), a4] [] h 0 0 := by
  intro t
  induction t with
  | zero =>
    intro k h h1 h2
    omega
  | succ t ih =>
    intro k h h1 h2 gm gl gh gr hfr
    refine qp_iload_n dX4_put_132 rfl ?_
    refine qp_bipush (v := 40) dX4_put_133 (by decide) ?_
    refine qp_icmp_ge 161 dX4_put_135 (by decide) (fun c_135 => ?_) (fun c_135 => ?_)
    · have hk : k = 40 := by have := (nI_leI (a := 40) (by decide) (by omega)).mp c_135; omega
      refine qp_aload_n dX4_put_161 rfl ?_
      refine qp_getf dX4_put_162 fX4_23 gm rfl ?_
      refine qp_iload_n dX4_put_165 rfl ?_
      refine qp_iload_n dX4_put_166 rfl ?_
      refine qk_iast (j) dX4_put_167 gr nrc rfl (by omega) (by decide) (fun h1 g2 o3 => ?_)
      have g4 : h1 m0 = some (.inr (5, [.int (0), .int (sch), .ref sa, .int (sz), .ref nw, .ref la, .int (1), .ref sh, .ref rcm, .int (nI c), .ref bf, .int (ps), .int (pp), .int (wr)])) := (o3 _ (ne_of_cells gm gr (by simp))).trans gm
      have g5 : h1 la = some (.inl (0, 40, .inl (A))) := (o3 _ (ne_of_cells gl gr (by simp))).trans gl
      have g6 : h1 sh = some (.inl (0, 2400, .inl (cpR H1 j A k))) := (o3 _ (ne_of_cells gh gr (by simp))).trans gh
      have g2 : h1 rcm = some (.inl (0, 60, .inl (upd (R1) (j) (rec)))) := g2
      refine qp_aload_n dX4_put_168 rfl ?_
      refine qp_dup dX4_put_169 rfl ?_
      refine qp_getf dX4_put_170 fX4_118 g4 rfl ?_
      refine qp_iconst (v := 1) dX4_put_173 (by decide) ?_
      refine qp_iadd dX4_put_174 ?_
      refine QP.topI (y := nI (c + 1)) (nI_1 c) ?_
      refine qk_put dX4_put_175 fX4_118 g4 nm rfl rfl rfl rfl rfl (fun h7 g8 o9 => ?_)
      have g10 : h7 la = some (.inl (0, 40, .inl (A))) := (o9 _ (ne_of_cells g5 g4 (by simp))).trans g5
      have g11 : h7 sh = some (.inl (0, 2400, .inl (cpR H1 j A k))) := (o9 _ (ne_of_cells g6 g4 (by simp))).trans g6
      have g12 : h7 rcm = some (.inl (0, 60, .inl (upd (R1) (j) (rec)))) := (o9 _ (ne_of_cells g2 g4 (by simp))).trans g2
      have g8 : h7 m0 = some (.inr (5, [.int (0), .int (sch), .ref sa, .int (sz), .ref nw, .ref la, .int (1), .ref sh, .ref rcm, .int (nI (c + 1)), .ref bf, .int (ps), .int (pp), .int (wr)])) := g8
      refine qp_iload_n dX4_put_178 rfl ?_
      exact qr_i dX4_put_179 rfl rfl rfl ⟨rfl, g8, by rw [← hk]; exact g11, g12, fun b hb1 hb2 hb3 => ((o9 b hb1).trans (o3 b hb3)).trans (hfr b hb1 hb2 hb3)⟩
    · have hk : k < 40 := Nat.not_le.mp fun q => c_135 ((nI_leI (a := 40) (by decide) (by omega)).mpr q)
      refine qp_aload_n dX4_put_138 rfl ?_
      refine qp_getf dX4_put_139 fX4_20 gm rfl ?_
      refine qp_bipush (v := 40) dX4_put_142 (by decide) ?_
      refine qp_iload_n dX4_put_144 rfl ?_
      refine qp_imul dX4_put_145 ?_
      refine QP.topI (y := nI (40 * j)) (pk_mul 40 _) ?_
      refine qp_iload_n dX4_put_146 rfl ?_
      refine qp_iadd dX4_put_147 ?_
      refine QP.topI (y := nI (40 * j + k)) (nI_add _ _) ?_
      refine qp_aload_n dX4_put_148 rfl ?_
      refine qp_getf dX4_put_149 fX4_17 gm rfl ?_
      refine qp_iload_n dX4_put_152 rfl ?_
      refine qp_ialdN (k) dX4_put_153 gl rfl (by omega) (by decide) ?_
      refine qk_iast (40 * j + k) dX4_put_154 gh nsh rfl (by omega) (by decide) (fun h13 g14 o15 => ?_)
      have g16 : h13 m0 = some (.inr (5, [.int (0), .int (sch), .ref sa, .int (sz), .ref nw, .ref la, .int (1), .ref sh, .ref rcm, .int (nI c), .ref bf, .int (ps), .int (pp), .int (wr)])) := (o15 _ (ne_of_cells gm gh (by simp))).trans gm
      have g17 : h13 la = some (.inl (0, 40, .inl (A))) := (o15 _ (ne_of_cells gl gh (by simp))).trans gl
      have g18 : h13 rcm = some (.inl (0, 60, .inl (R1))) := (o15 _ (ne_of_cells gr gh (by simp))).trans gr
      have g14 : h13 sh = some (.inl (0, 2400, .inl (upd (cpR H1 j A k) (40 * j + k) (A (k))))) := g14
      refine qp_iinc (v := nI (k + 1)) dX4_put_155 rfl (by decide) (nI_1 k) ?_
      refine QP.locsE (L1 := [some (.ref m0), some (.int (rec)), some (.int (nI j)), some (.int (nI (k + 1))), a4]) rfl ?_
      refine qp_goto 132 dX4_put_158 (by decide) ?_
      rw [cpR_s] at g14
      exact ih (k + 1) h13 (by omega) (by omega) g16 g17 g14 g18 (fun b hb1 hb2 hb3 => (o15 b hb2).trans (hfr b hb1 hb2 hb3))
set_option maxHeartbeats 4000000 in
set_option maxRecDepth 100000 in
theorem lm_putO {G : qG} {h0 : qH} {sch ps pp wr sz : Int32} {m0 sa nw la sh rcm bf c : Nat} {A H RR : Nat → Int32} {j : Nat} {rec : Int32} (nm : G.2.1 ≤ m0) (nsh : G.2.1 ≤ sh) (nrc : G.2.1 ≤ rcm) (hc : c < 60) (hj : j ≤ c) : ∀ (t p : Nat) (h : qH), p < j + t → j ≤ p → p ≤ c → h m0 = some (mdCell 0 sch sa sz nw la 1 sh rcm (nI c) bf ps pp wr) → h la = some (rwCell A) → h sh = some (mshCell (shUI H p c 0)) → h rcm = some (rcCell (shU RR p c)) → (∀ b : Nat, b ≠ m0 → b ≠ sh → b ≠ rcm → h b = h0 b) → QP G M_X4_put qTr (qMZ G M_X4_put (qI (fun v h1 => v = nI j ∧ h1 m0 = some (mdCell 0 sch sa sz nw la 1 sh rcm (nI (c + 1)) bf ps pp wr) ∧ h1 sh = some (mshCell (cpR (shUI H j c 0) j A 40)) ∧ h1 rcm = some (rcCell (insF RR j c rec)) ∧ ∀ b : Nat, b ≠ m0 → b ≠ sh → b ≠ rcm → h1 b = h0 b))) 62 [some (.ref m0), some (.int rec), some (.int (nI j)), some (.int (nI p)), none] [] h 0 0 := by
  intro t
  induction t with
  | zero =>
    intro p h h1 h2
    omega
  | succ t ih =>
    intro p h h1 h2 hpc gm gl gh gr hfr
    refine qp_iload_n dX4_put_62 rfl ?_
    refine qp_iload_n dX4_put_63 rfl ?_
    refine qp_icmp_le 130 dX4_put_64 (by decide) (fun c_64 => ?_) (fun c_64 => ?_)
    · have hpj : p = j := by have := (nI_leI (by omega) (by omega)).mp c_64; omega
      refine qp_iconst (v := 0) dX4_put_130 (by decide) ?_
      refine qp_istore_n dX4_put_131 (by decide) ?_
      refine QP.locsE (L1 := [some (.ref m0), some (.int (rec)), some (.int (nI j)), some (.int (0)), none]) rfl ?_
      refine QP.locsE (L1 := [some (.ref m0), some (.int rec), some (.int (nI j)), some (.int (nI 0)), none]) rfl ?_
      exact lm_putC nm nsh nrc hc hj 41 0 h (by omega) (by omega) gm gl (by rw [cpR_0, ← hpj]; exact gh) (by rw [← hpj]; exact gr) hfr
    · have hpj : j < p := Nat.not_le.mp fun q => c_64 ((nI_leI (by omega) (by omega)).mpr q)
      refine qp_iconst (v := 0) dX4_put_67 (by decide) ?_
      refine qp_istore dX4_put_68 (by decide) ?_
      refine QP.locsE (L1 := [some (.ref m0), some (.int (rec)), some (.int (nI j)), some (.int (nI p)), some (.int (0))]) rfl ?_
      refine QP.locsE (L1 := [some (.ref m0), some (.int rec), some (.int (nI j)), some (.int (nI p)), some (.int (nI 0))]) rfl ?_
      refine lm_putI (h0 := h) (H := H) nsh hc (by omega) hpc (fun h3 gm3 gh3 hfr3 => ?_) 41 0 h (by omega) (by omega) gm gh (fun _ _ => rfl)
      have g1 : h3 m0 = some (.inr (5, [.int (0), .int (sch), .ref sa, .int (sz), .ref nw, .ref la, .int (1), .ref sh, .ref rcm, .int (nI c), .ref bf, .int (ps), .int (pp), .int (wr)])) := (hfr3 _ (ne_of_cells gm gh (by simp))).trans gm
      have g2 : h3 la = some (.inl (0, 40, .inl (A))) := (hfr3 _ (ne_of_cells gl gh (by simp))).trans gl
      have g3 : h3 rcm = some (.inl (0, 60, .inl (shU RR p c))) := (hfr3 _ (ne_of_cells gr gh (by simp))).trans gr
      have gh3 : h3 sh = some (.inl (0, 2400, .inl (shUI H p c 40))) := gh3
      refine qp_aload_n dX4_put_110 rfl ?_
      refine qp_getf dX4_put_111 fX4_23 gm3 rfl ?_
      refine qp_iload_n dX4_put_114 rfl ?_
      refine qp_aload_n dX4_put_115 rfl ?_
      refine qp_getf dX4_put_116 fX4_23 gm3 rfl ?_
      refine qp_iload_n dX4_put_119 rfl ?_
      refine qp_iconst (v := 1) dX4_put_120 (by decide) ?_
      refine qp_isub dX4_put_121 ?_
      refine QP.topI (y := nI (p - 1)) (by rw [show p = (p - 1) + 1 by omega]; exact nI_pred _) ?_
      refine qp_ialdN (p - 1) dX4_put_122 g3 rfl (by omega) (by decide) ?_
      refine qk_iast (p) dX4_put_123 g3 nrc rfl (by omega) (by decide) (fun h4 g5 o6 => ?_)
      have g7 : h4 m0 = some (.inr (5, [.int (0), .int (sch), .ref sa, .int (sz), .ref nw, .ref la, .int (1), .ref sh, .ref rcm, .int (nI c), .ref bf, .int (ps), .int (pp), .int (wr)])) := (o6 _ (ne_of_cells gm3 g3 (by simp))).trans gm3
      have g8 : h4 la = some (.inl (0, 40, .inl (A))) := (o6 _ (ne_of_cells g2 g3 (by simp))).trans g2
      have g9 : h4 sh = some (.inl (0, 2400, .inl (shUI H p c 40))) := (o6 _ (ne_of_cells gh3 g3 (by simp))).trans gh3
      have g5 : h4 rcm = some (.inl (0, 60, .inl (upd (shU RR p c) (p) (shU RR p c (p - 1))))) := g5
      refine qp_iinc (v := nI (p - 1)) dX4_put_124 rfl (by decide) (by rw [show p = (p - 1) + 1 by omega]; exact pk_m1 _) ?_
      refine QP.locsE (L1 := [some (.ref m0), some (.int (rec)), some (.int (nI j)), some (.int (nI (p - 1))), some (.int (nI 40))]) rfl ?_
      refine qp_goto 62 dX4_put_127 (by decide) ?_
      obtain ⟨p1, rfl⟩ : ∃ p1, p = p1 + 1 := ⟨p - 1, by omega⟩
      rw [show p1 + 1 - 1 = p1 by omega, shU_i (by omega)] at g5
      rw [shUI_n (by omega)] at g9
      refine QP.forget 4 ?_
      exact ih p1 h4 (by omega) (by omega) (by omega) g7 g8 g9 g5 (fun b hb1 hb2 hb3 => ((o6 b hb3).trans (hfr3 b hb2)).trans (hfr b hb1 hb2 hb3))
set_option maxHeartbeats 4000000 in
set_option maxRecDepth 100000 in
theorem m_putN (G : qG) {h : qH} {thr sch cnt ps pp wr sz : Int32} {m0 sa nw la sh rcm bf : Nat} (rec : Int32) (nm : G.2.1 ≤ m0) (gm : h m0 = some (mdCell thr sch sa sz nw la 0 sh rcm cnt bf ps pp wr)) : qMet G M_X4_put [.ref m0, .int rec] h (qI (fun v h1 => v = -1 ∧ h1 m0 = some (mdCell 0 sch sa sz nw la 0 sh rcm cnt bf ps pp wr) ∧ ∀ b : Nat, b ≠ m0 → h1 b = h b)) := by
  refine qMet.of (by decide) (Nat.le_of_ble_eq_true rfl) rfl ?_
  refine QP.locsE (L1 := [some (.ref m0), some (.int (rec)), none, none, none]) rfl ?_
  refine qp_aload_n dX4_put_0 rfl ?_
  refine qp_iconst (v := 0) dX4_put_1 (by decide) ?_
  refine qk_put dX4_put_2 fX4_33 gm nm rfl rfl rfl rfl rfl (fun h1 g2 o3 => ?_)
  have g2 : h1 m0 = some (.inr (5, [.int (0), .int (sch), .ref sa, .int (sz), .ref nw, .ref la, .int (0), .ref sh, .ref rcm, .int (cnt), .ref bf, .int (ps), .int (pp), .int (wr)])) := g2
  refine qp_aload_n dX4_put_5 rfl ?_
  refine qp_getf dX4_put_6 fX4_91 g2 rfl ?_
  refine qp_if_ne 14 dX4_put_9 (by decide) (fun c_9 => absurd rfl c_9) (fun c_9 => ?_)
  refine qp_iconst (v := -1) dX4_put_12 (by decide) ?_
  exact qr_i dX4_put_13 rfl rfl rfl ⟨rfl, g2, fun b hb => (o3 b hb)⟩
set_option maxHeartbeats 4000000 in
set_option maxRecDepth 100000 in
theorem m_putSame (G : qG) {h : qH} {thr sch ps pp wr sz : Int32} {m0 sa nw la sh rcm bf c : Nat} {A H RR : Nat → Int32} {j : Nat} (rec : Int32) (nm : G.2.1 ≤ m0) (hc : c ≤ 60) (hj : mPlace (fun n => mLex A (mRow H n) 34 0) c 0 = j) (hjc : j < c) (hsame : mLex A (mRow H j) 34 0 = 0) (gm : h m0 = some (mdCell thr sch sa sz nw la 1 sh rcm (nI c) bf ps pp wr)) (gl : h la = some (rwCell A)) (gh : h sh = some (mshCell H)) (gr : h rcm = some (rcCell RR)) : qMet G M_X4_put [.ref m0, .int rec] h (qI (fun v h1 => v = -2 - nI j ∧ h1 m0 = some (mdCell 0 sch sa sz nw la 1 sh rcm (nI c) bf ps pp wr) ∧ ∀ b : Nat, b ≠ m0 → h1 b = h b)) := by
  refine qMet.of (by decide) (Nat.le_of_ble_eq_true rfl) rfl ?_
  refine QP.locsE (L1 := [some (.ref m0), some (.int (rec)), none, none, none]) rfl ?_
  refine qp_aload_n dX4_put_0 rfl ?_
  refine qp_iconst (v := 0) dX4_put_1 (by decide) ?_
  refine qk_put dX4_put_2 fX4_33 gm nm rfl rfl rfl rfl rfl (fun h1 g2 o3 => ?_)
  have g4 : h1 la = some (.inl (0, 40, .inl (A))) := (o3 _ (ne_of_cells gl gm (by simp))).trans gl
  have g5 : h1 sh = some (.inl (0, 2400, .inl (H))) := (o3 _ (ne_of_cells gh gm (by simp))).trans gh
  have g6 : h1 rcm = some (.inl (0, 60, .inl (RR))) := (o3 _ (ne_of_cells gr gm (by simp))).trans gr
  have g2 : h1 m0 = some (.inr (5, [.int (0), .int (sch), .ref sa, .int (sz), .ref nw, .ref la, .int (1), .ref sh, .ref rcm, .int (nI c), .ref bf, .int (ps), .int (pp), .int (wr)])) := g2
  refine qp_aload_n dX4_put_5 rfl ?_
  refine qp_getf dX4_put_6 fX4_91 g2 rfl ?_
  refine qp_if_ne 14 dX4_put_9 (by decide) (fun c_9 => ?_) (fun c_9 => absurd c_9 (by decide))
  refine qp_aload_n dX4_put_14 rfl ?_
  refine qv_Ip dX4_put_15 mX4_125 (m_placeOf G hc g2 g4 g5) g2 rfl rfl rfl rfl rfl rfl rfl ?_
  refine QP.topI (y := nI j) (by rw [hj]) ?_
  refine qp_istore_n dX4_put_18 (by decide) ?_
  refine QP.locsE (L1 := [some (.ref m0), some (.int (rec)), some (.int (nI j)), none, none]) rfl ?_
  refine qp_iload_n dX4_put_19 rfl ?_
  refine qp_aload_n dX4_put_20 rfl ?_
  refine qp_getf dX4_put_21 fX4_118 g2 rfl ?_
  refine qp_icmp_ge 46 dX4_put_24 (by decide) (fun c_24 => absurd c_24 (fun q => absurd ((nI_leI (by omega) (by omega)).mp q) (by omega))) (fun c_24 => ?_)
  refine qp_aload_n dX4_put_27 rfl ?_
  refine qp_aload_n dX4_put_28 rfl ?_
  refine qp_getf dX4_put_29 fX4_17 g2 rfl ?_
  refine qp_iload_n dX4_put_32 rfl ?_
  refine qp_bipush (v := 34) dX4_put_33 (by decide) ?_
  refine qv_Ip dX4_put_35 mX4_121 (m_order G (j) (by omega) g2 g4 g5) g2 rfl rfl rfl rfl rfl rfl rfl ?_
  refine qp_if_ne 46 dX4_put_38 (by decide) (fun c_38 => absurd hsame c_38) (fun c_38 => ?_)
  refine qp_bipush (v := -2) dX4_put_41 (by decide) ?_
  refine qp_iload_n dX4_put_43 rfl ?_
  refine qp_isub dX4_put_44 ?_
  exact qr_i dX4_put_45 rfl rfl rfl ⟨rfl, g2, fun b hb => (o3 b hb)⟩
set_option maxHeartbeats 4000000 in
set_option maxRecDepth 100000 in
theorem m_putFull (G : qG) {h : qH} {thr sch ps pp wr sz : Int32} {m0 sa nw la sh rcm bf c : Nat} {A H RR : Nat → Int32} {j : Nat} (rec : Int32) (nm : G.2.1 ≤ m0) (hc : c ≤ 60) (hjl : j ≤ c) (hj : mPlace (fun n => mLex A (mRow H n) 34 0) c 0 = j) (hns : j < c → ¬ mLex A (mRow H j) 34 0 = 0) (hcf : nI c = 60) (gm : h m0 = some (mdCell thr sch sa sz nw la 1 sh rcm (nI c) bf ps pp wr)) (gl : h la = some (rwCell A)) (gh : h sh = some (mshCell H)) (gr : h rcm = some (rcCell RR)) : qMet G M_X4_put [.ref m0, .int rec] h (qI (fun v h1 => v = -1 ∧ h1 m0 = some (mdCell 0 sch sa sz nw la 1 sh rcm (nI c) bf ps pp wr) ∧ ∀ b : Nat, b ≠ m0 → h1 b = h b)) := by
  refine qMet.of (by decide) (Nat.le_of_ble_eq_true rfl) rfl ?_
  refine QP.locsE (L1 := [some (.ref m0), some (.int (rec)), none, none, none]) rfl ?_
  refine qp_aload_n dX4_put_0 rfl ?_
  refine qp_iconst (v := 0) dX4_put_1 (by decide) ?_
  refine qk_put dX4_put_2 fX4_33 gm nm rfl rfl rfl rfl rfl (fun h1 g2 o3 => ?_)
  have g4 : h1 la = some (.inl (0, 40, .inl (A))) := (o3 _ (ne_of_cells gl gm (by simp))).trans gl
  have g5 : h1 sh = some (.inl (0, 2400, .inl (H))) := (o3 _ (ne_of_cells gh gm (by simp))).trans gh
  have g6 : h1 rcm = some (.inl (0, 60, .inl (RR))) := (o3 _ (ne_of_cells gr gm (by simp))).trans gr
  have g2 : h1 m0 = some (.inr (5, [.int (0), .int (sch), .ref sa, .int (sz), .ref nw, .ref la, .int (1), .ref sh, .ref rcm, .int (nI c), .ref bf, .int (ps), .int (pp), .int (wr)])) := g2
  refine qp_aload_n dX4_put_5 rfl ?_
  refine qp_getf dX4_put_6 fX4_91 g2 rfl ?_
  refine qp_if_ne 14 dX4_put_9 (by decide) (fun c_9 => ?_) (fun c_9 => absurd c_9 (by decide))
  refine qp_aload_n dX4_put_14 rfl ?_
  refine qv_Ip dX4_put_15 mX4_125 (m_placeOf G hc g2 g4 g5) g2 rfl rfl rfl rfl rfl rfl rfl ?_
  refine QP.topI (y := nI j) (by rw [hj]) ?_
  refine qp_istore_n dX4_put_18 (by decide) ?_
  refine QP.locsE (L1 := [some (.ref m0), some (.int (rec)), some (.int (nI j)), none, none]) rfl ?_
  refine qp_iload_n dX4_put_19 rfl ?_
  refine qp_aload_n dX4_put_20 rfl ?_
  refine qp_getf dX4_put_21 fX4_118 g2 rfl ?_
  refine qp_icmp_ge 46 dX4_put_24 (by decide) (fun c_24 => ?_) (fun c_24 => ?_)
  · skip
    refine qp_aload_n dX4_put_46 rfl ?_
    refine qp_getf dX4_put_47 fX4_118 g2 rfl ?_
    refine qp_bipush (v := 60) dX4_put_50 (by decide) ?_
    refine qp_icmp_ne 57 dX4_put_52 (by decide) (fun c_52 => absurd hcf c_52) (fun c_52 => ?_)
    refine qp_iconst (v := -1) dX4_put_55 (by decide) ?_
    exact qr_i dX4_put_56 rfl rfl rfl ⟨rfl, g2, fun b hb => (o3 b hb)⟩
  · have hjc : j < c := Nat.not_le.mp fun q => c_24 ((nI_leI (by omega) (by omega)).mpr q)
    refine qp_aload_n dX4_put_27 rfl ?_
    refine qp_aload_n dX4_put_28 rfl ?_
    refine qp_getf dX4_put_29 fX4_17 g2 rfl ?_
    refine qp_iload_n dX4_put_32 rfl ?_
    refine qp_bipush (v := 34) dX4_put_33 (by decide) ?_
    refine qv_Ip dX4_put_35 mX4_121 (m_order G (j) (by omega) g2 g4 g5) g2 rfl rfl rfl rfl rfl rfl rfl ?_
    refine qp_if_ne 46 dX4_put_38 (by decide) (fun c_38 => ?_) (fun c_38 => absurd c_38 (hns (by omega)))
    refine qp_aload_n dX4_put_46 rfl ?_
    refine qp_getf dX4_put_47 fX4_118 g2 rfl ?_
    refine qp_bipush (v := 60) dX4_put_50 (by decide) ?_
    refine qp_icmp_ne 57 dX4_put_52 (by decide) (fun c_52 => absurd hcf c_52) (fun c_52 => ?_)
    refine qp_iconst (v := -1) dX4_put_55 (by decide) ?_
    exact qr_i dX4_put_56 rfl rfl rfl ⟨rfl, g2, fun b hb => (o3 b hb)⟩
set_option maxHeartbeats 4000000 in
set_option maxRecDepth 100000 in
theorem m_put (G : qG) {h : qH} {thr sch ps pp wr sz : Int32} {m0 sa nw la sh rcm bf c : Nat} {A H RR : Nat → Int32} {j : Nat} (rec : Int32) (nm : G.2.1 ≤ m0) (nsh : G.2.1 ≤ sh) (nrc : G.2.1 ≤ rcm) (hc1 : c < 60) (hjl : j ≤ c) (hj : mPlace (fun n => mLex A (mRow H n) 34 0) c 0 = j) (hns : j < c → ¬ mLex A (mRow H j) 34 0 = 0) (gm : h m0 = some (mdCell thr sch sa sz nw la 1 sh rcm (nI c) bf ps pp wr)) (gl : h la = some (rwCell A)) (gh : h sh = some (mshCell H)) (gr : h rcm = some (rcCell RR)) : qMet G M_X4_put [.ref m0, .int rec] h (qI (fun v h1 => v = nI j ∧ h1 m0 = some (mdCell 0 sch sa sz nw la 1 sh rcm (nI (c + 1)) bf ps pp wr) ∧ h1 sh = some (mshCell (cpR (shUI H j c 0) j A 40)) ∧ h1 rcm = some (rcCell (insF RR j c rec)) ∧ ∀ b : Nat, b ≠ m0 → b ≠ sh → b ≠ rcm → h1 b = h b)) := by
  have hc : c ≤ 60 := by omega
  refine qMet.of (by decide) (Nat.le_of_ble_eq_true rfl) rfl ?_
  refine QP.locsE (L1 := [some (.ref m0), some (.int (rec)), none, none, none]) rfl ?_
  refine qp_aload_n dX4_put_0 rfl ?_
  refine qp_iconst (v := 0) dX4_put_1 (by decide) ?_
  refine qk_put dX4_put_2 fX4_33 gm nm rfl rfl rfl rfl rfl (fun h1 g2 o3 => ?_)
  have g4 : h1 la = some (.inl (0, 40, .inl (A))) := (o3 _ (ne_of_cells gl gm (by simp))).trans gl
  have g5 : h1 sh = some (.inl (0, 2400, .inl (H))) := (o3 _ (ne_of_cells gh gm (by simp))).trans gh
  have g6 : h1 rcm = some (.inl (0, 60, .inl (RR))) := (o3 _ (ne_of_cells gr gm (by simp))).trans gr
  have g2 : h1 m0 = some (.inr (5, [.int (0), .int (sch), .ref sa, .int (sz), .ref nw, .ref la, .int (1), .ref sh, .ref rcm, .int (nI c), .ref bf, .int (ps), .int (pp), .int (wr)])) := g2
  refine qp_aload_n dX4_put_5 rfl ?_
  refine qp_getf dX4_put_6 fX4_91 g2 rfl ?_
  refine qp_if_ne 14 dX4_put_9 (by decide) (fun c_9 => ?_) (fun c_9 => absurd c_9 (by decide))
  refine qp_aload_n dX4_put_14 rfl ?_
  refine qv_Ip dX4_put_15 mX4_125 (m_placeOf G hc g2 g4 g5) g2 rfl rfl rfl rfl rfl rfl rfl ?_
  refine QP.topI (y := nI j) (by rw [hj]) ?_
  refine qp_istore_n dX4_put_18 (by decide) ?_
  refine QP.locsE (L1 := [some (.ref m0), some (.int (rec)), some (.int (nI j)), none, none]) rfl ?_
  refine qp_iload_n dX4_put_19 rfl ?_
  refine qp_aload_n dX4_put_20 rfl ?_
  refine qp_getf dX4_put_21 fX4_118 g2 rfl ?_
  refine qp_icmp_ge 46 dX4_put_24 (by decide) (fun c_24 => ?_) (fun c_24 => ?_)
  · skip
    refine qp_aload_n dX4_put_46 rfl ?_
    refine qp_getf dX4_put_47 fX4_118 g2 rfl ?_
    refine qp_bipush (v := 60) dX4_put_50 (by decide) ?_
    refine qp_icmp_ne 57 dX4_put_52 (by decide) (fun c_52 => ?_) (fun c_52 => absurd c_52 (fun q => absurd ((nI_eq (b := 60) (by omega) (by decide)).mp q) (by omega)))
    refine qp_aload_n dX4_put_57 rfl ?_
    refine qp_getf dX4_put_58 fX4_118 g2 rfl ?_
    refine qp_istore_n dX4_put_61 (by decide) ?_
    refine QP.locsE (L1 := [some (.ref m0), some (.int (rec)), some (.int (nI j)), some (.int (nI c)), none]) rfl ?_
    exact lm_putO nm nsh nrc hc1 hjl (c + 1) c h1 (by omega) (by omega) (by omega) g2 g4 (by rw [shUI_c]; exact g5) (by rw [shU_0]; exact g6) (fun b hb1 hb2 hb3 => (o3 b hb1))
  · have hjc : j < c := Nat.not_le.mp fun q => c_24 ((nI_leI (by omega) (by omega)).mpr q)
    refine qp_aload_n dX4_put_27 rfl ?_
    refine qp_aload_n dX4_put_28 rfl ?_
    refine qp_getf dX4_put_29 fX4_17 g2 rfl ?_
    refine qp_iload_n dX4_put_32 rfl ?_
    refine qp_bipush (v := 34) dX4_put_33 (by decide) ?_
    refine qv_Ip dX4_put_35 mX4_121 (m_order G (j) (by omega) g2 g4 g5) g2 rfl rfl rfl rfl rfl rfl rfl ?_
    refine qp_if_ne 46 dX4_put_38 (by decide) (fun c_38 => ?_) (fun c_38 => absurd c_38 (hns (by omega)))
    refine qp_aload_n dX4_put_46 rfl ?_
    refine qp_getf dX4_put_47 fX4_118 g2 rfl ?_
    refine qp_bipush (v := 60) dX4_put_50 (by decide) ?_
    refine qp_icmp_ne 57 dX4_put_52 (by decide) (fun c_52 => ?_) (fun c_52 => absurd c_52 (fun q => absurd ((nI_eq (b := 60) (by omega) (by decide)).mp q) (by omega)))
    refine qp_aload_n dX4_put_57 rfl ?_
    refine qp_getf dX4_put_58 fX4_118 g2 rfl ?_
    refine qp_istore_n dX4_put_61 (by decide) ?_
    refine QP.locsE (L1 := [some (.ref m0), some (.int (rec)), some (.int (nI j)), some (.int (nI c)), none]) rfl ?_
    exact lm_putO nm nsh nrc hc1 hjl (c + 1) c h1 (by omega) (by omega) (by omega) g2 g4 (by rw [shUI_c]; exact g5) (by rw [shU_0]; exact g6) (fun b hb1 hb2 hb3 => (o3 b hb1))
