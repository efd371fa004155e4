/-- the answer of the reference's pass: X against what was told before -/
def mAns (X B : Nat → Int32) : Nat → Nat → Int32
  | 0, _ => 1
  | t + 1, k => if X k = B k then mAns X B t (k + 1) else if B k < X k then 1 else 0
set_option maxHeartbeats 4000000 in
set_option maxRecDepth 100000 in
theorem lm_passC {G : qG} {h0 : qH} {sch th pp wr sz : Int32} {m0 sa nw la sh rcm bf c : Nat} {H B : Nat → Int32} {ps rec ans : Int32} {p : Nat} (nm : G.2.1 ≤ m0) (nbf : G.2.1 ≤ bf) (hp : p < 60) : ∀ (t k : Nat) (h : qH), 40 < k + t → k ≤ 40 → h m0 = some (mdCell 0 sch sa sz nw la th sh rcm (nI c) bf ps pp wr) → h sh = some (mshCell H) → h bf = some (rwCell (cpW (mRow H p) B k)) → (∀ b : Nat, b ≠ m0 → b ≠ bf → h b = h0 b) → QP G M_X4_pass qTr (qMZ G M_X4_pass (qI (fun v h1 => v = ans ∧ h1 m0 = some (mdCell 0 sch sa sz nw la th sh rcm (nI c) bf 1 pp wr) ∧ h1 bf = some (rwCell (cpW (mRow H p) B 40)) ∧ ∀ b : Nat, b ≠ m0 → b ≠ bf → h1 b = h0 b))) 107 [some (.ref m0), some (.int rec), some (.int (nI p)), some (.int ans), some (.int (nI k))] [] h 0 0 := by
  intro t
  induction t with
  | zero =>
    intro k h h1 h2
    omega
  | succ t ih =>
    intro k h h1 h2 gm gh gb hfr
    refine qp_iload dX4_pass_107 rfl ?_
    refine qp_bipush (v := 40) dX4_pass_109 (by decide) ?_
    refine qp_icmp_ge 139 dX4_pass_111 (by decide) (fun c_111 => ?_) (fun c_111 => ?_)
    · have hk : k = 40 := by have := (nI_leI (a := 40) (by decide) (by omega)).mp c_111; omega
      refine qp_aload_n dX4_pass_139 rfl ?_
      refine qp_iconst (v := 1) dX4_pass_140 (by decide) ?_
      refine qk_put dX4_pass_141 fX4_131 gm nm rfl rfl rfl rfl rfl (fun h1 g2 o3 => ?_)
      have g4 : h1 sh = some (.inl (0, 2400, .inl (H))) := (o3 _ (ne_of_cells gh gm (by simp))).trans gh
      have g5 : h1 bf = some (.inl (0, 40, .inl (cpW (mRow H p) B k))) := (o3 _ (ne_of_cells gb gm (by simp))).trans gb
      have g2 : h1 m0 = some (.inr (5, [.int (0), .int (sch), .ref sa, .int (sz), .ref nw, .ref la, .int (th), .ref sh, .ref rcm, .int (nI c), .ref bf, .int (1), .int (pp), .int (wr)])) := g2
      refine qp_iload_n dX4_pass_144 rfl ?_
      exact qr_i dX4_pass_145 rfl rfl rfl ⟨rfl, g2, by rw [← hk]; exact g5, fun b hb1 hb2 => (o3 b hb1).trans (hfr b hb1 hb2)⟩
    · have hk : k < 40 := Nat.not_le.mp fun q => c_111 ((nI_leI (a := 40) (by decide) (by omega)).mpr q)
      refine qp_aload_n dX4_pass_114 rfl ?_
      refine qp_getf dX4_pass_115 fX4_26 gm rfl ?_
      refine qp_iload dX4_pass_118 rfl ?_
      refine qp_aload_n dX4_pass_120 rfl ?_
      refine qp_getf dX4_pass_121 fX4_20 gm rfl ?_
      refine qp_bipush (v := 40) dX4_pass_124 (by decide) ?_
      refine qp_iload_n dX4_pass_126 rfl ?_
      refine qp_imul dX4_pass_127 ?_
      refine QP.topI (y := nI (40 * p)) (pk_mul 40 _) ?_
      refine qp_iload dX4_pass_128 rfl ?_
      refine qp_iadd dX4_pass_130 ?_
      refine QP.topI (y := nI (40 * p + k)) (nI_add _ _) ?_
      refine qp_ialdN (40 * p + k) dX4_pass_131 gh rfl (by omega) (by decide) ?_
      refine QP.topI (y := mRow H p k) rfl ?_
      refine qk_iast (k) dX4_pass_132 gb nbf rfl (by omega) (by decide) (fun h6 g7 o8 => ?_)
      have g9 : h6 m0 = some (.inr (5, [.int (0), .int (sch), .ref sa, .int (sz), .ref nw, .ref la, .int (th), .ref sh, .ref rcm, .int (nI c), .ref bf, .int (ps), .int (pp), .int (wr)])) := (o8 _ (ne_of_cells gm gb (by simp))).trans gm
      have g10 : h6 sh = some (.inl (0, 2400, .inl (H))) := (o8 _ (ne_of_cells gh gb (by simp))).trans gh
      have g7 : h6 bf = some (.inl (0, 40, .inl (upd (cpW (mRow H p) B k) (k) (mRow H p k)))) := g7
      refine qp_iinc (v := nI (k + 1)) dX4_pass_133 rfl (by decide) (nI_1 k) ?_
      refine QP.locsE (L1 := [some (.ref m0), some (.int (rec)), some (.int (nI p)), some (.int (ans)), some (.int (nI (k + 1)))]) rfl ?_
      refine qp_goto 107 dX4_pass_136 (by decide) ?_
      rw [cpW_s] at g7
      exact ih (k + 1) h6 (by omega) (by omega) g9 g10 g7 (fun b hb1 hb2 => (o8 b hb2).trans (hfr b hb1 hb2))
set_option maxHeartbeats 4000000 in
set_option maxRecDepth 100000 in
theorem lm_passA {G : qG} {h h0 : qH} {sch th pp wr sz : Int32} {m0 sa nw la sh rcm bf c : Nat} {H B : Nat → Int32} {rec ans : Int32} {p : Nat} (nm : G.2.1 ≤ m0) (nbf : G.2.1 ≤ bf) (hp : p < 60) (gm : h m0 = some (mdCell 0 sch sa sz nw la th sh rcm (nI c) bf 1 pp wr)) (gh : h sh = some (mshCell H)) (gb : h bf = some (rwCell B)) (hfr : ∀ b : Nat, b ≠ m0 → b ≠ bf → h b = h0 b) : ∀ (t k : Nat), 34 < k + t → k ≤ 34 → ans = mAns (mRow H p) B (34 - k) k → QP G M_X4_pass qTr (qMZ G M_X4_pass (qI (fun v h1 => v = ans ∧ h1 m0 = some (mdCell 0 sch sa sz nw la th sh rcm (nI c) bf 1 pp wr) ∧ h1 bf = some (rwCell (cpW (mRow H p) B 40)) ∧ ∀ b : Nat, b ≠ m0 → b ≠ bf → h1 b = h0 b))) 30 [some (.ref m0), some (.int rec), some (.int (nI p)), some (.int 1), some (.int (nI k))] [] h 0 0 := by
  intro t
  induction t with
  | zero =>
    intro k h1 h2
    omega
  | succ t ih =>
    intro k h1 h2 hr
    refine qp_iload dX4_pass_30 rfl ?_
    refine qp_bipush (v := 34) dX4_pass_32 (by decide) ?_
    refine qp_icmp_ge 104 dX4_pass_34 (by decide) (fun c_34 => ?_) (fun c_34 => ?_)
    · have hk : 34 ≤ k := (nI_leI (a := 34) (by decide) (by omega)).mp c_34
      refine qp_iconst (v := 0) dX4_pass_104 (by decide) ?_
      refine qp_istore dX4_pass_105 (by decide) ?_
      refine QP.locsE (L1 := [some (.ref m0), some (.int (rec)), some (.int (nI p)), some (.int (1)), some (.int (0))]) rfl ?_
      refine QP.locsE (L1 := [some (.ref m0), some (.int rec), some (.int (nI p)), some (.int (1)), some (.int (nI 0))]) rfl ?_
      rw [hr, show 34 - k = 0 by omega, mAns]
      exact lm_passC (ps := 1) (ans := 1) nm nbf hp 41 0 h (by omega) (by omega) gm gh (by rw [cpW_0]; exact gb) hfr
    · have hk : k < 34 := Nat.not_le.mp fun q => c_34 ((nI_leI (a := 34) (by decide) (by omega)).mpr q)
      refine qp_aload_n dX4_pass_37 rfl ?_
      refine qp_getf dX4_pass_38 fX4_131 gm rfl ?_
      refine qp_if_eq 104 dX4_pass_41 (by decide) (fun c_41 => absurd c_41 (by decide)) (fun c_41 => ?_)
      refine qp_aload_n dX4_pass_44 rfl ?_
      refine qp_getf dX4_pass_45 fX4_20 gm rfl ?_
      refine qp_bipush (v := 40) dX4_pass_48 (by decide) ?_
      refine qp_iload_n dX4_pass_50 rfl ?_
      refine qp_imul dX4_pass_51 ?_
      refine QP.topI (y := nI (40 * p)) (pk_mul 40 _) ?_
      refine qp_iload dX4_pass_52 rfl ?_
      refine qp_iadd dX4_pass_54 ?_
      refine QP.topI (y := nI (40 * p + k)) (nI_add _ _) ?_
      refine qp_ialdN (40 * p + k) dX4_pass_55 gh rfl (by omega) (by decide) ?_
      refine QP.topI (y := mRow H p k) rfl ?_
      refine qp_aload_n dX4_pass_56 rfl ?_
      refine qp_getf dX4_pass_57 fX4_26 gm rfl ?_
      refine qp_iload dX4_pass_60 rfl ?_
      refine qp_ialdN (k) dX4_pass_62 gb rfl (by omega) (by decide) ?_
      refine qp_icmp_eq 98 dX4_pass_63 (by decide) (fun c_63 => ?_) (fun c_63 => ?_)
      · refine qp_iinc (v := nI (k + 1)) dX4_pass_98 rfl (by decide) (nI_1 k) ?_
        refine QP.locsE (L1 := [some (.ref m0), some (.int (rec)), some (.int (nI p)), some (.int (1)), some (.int (nI (k + 1)))]) rfl ?_
        refine qp_goto 30 dX4_pass_101 (by decide) ?_
        refine ih (k + 1) (by omega) (by omega) ?_
        rw [hr, show 34 - k = (34 - (k + 1)) + 1 by omega, mAns, if_pos c_63]
      · refine qp_aload_n dX4_pass_66 rfl ?_
        refine qp_getf dX4_pass_67 fX4_20 gm rfl ?_
        refine qp_bipush (v := 40) dX4_pass_70 (by decide) ?_
        refine qp_iload_n dX4_pass_72 rfl ?_
        refine qp_imul dX4_pass_73 ?_
        refine QP.topI (y := nI (40 * p)) (pk_mul 40 _) ?_
        refine qp_iload dX4_pass_74 rfl ?_
        refine qp_iadd dX4_pass_76 ?_
        refine QP.topI (y := nI (40 * p + k)) (nI_add _ _) ?_
        refine qp_ialdN (40 * p + k) dX4_pass_77 gh rfl (by omega) (by decide) ?_
        refine QP.topI (y := mRow H p k) rfl ?_
        refine qp_aload_n dX4_pass_78 rfl ?_
        refine qp_getf dX4_pass_79 fX4_26 gm rfl ?_
        refine qp_iload dX4_pass_82 rfl ?_
        refine qp_ialdN (k) dX4_pass_84 gb rfl (by omega) (by decide) ?_
        refine qp_icmp_le 92 dX4_pass_85 (by decide) (fun c_85 => ?_) (fun c_85 => ?_)
        · refine qp_iconst (v := 0) dX4_pass_92 (by decide) ?_
          refine qp_istore_n dX4_pass_93 (by decide) ?_
          refine QP.locsE (L1 := [some (.ref m0), some (.int (rec)), some (.int (nI p)), some (.int (0)), some (.int (nI k))]) rfl ?_
          refine qp_bipush (v := 34) dX4_pass_94 (by decide) ?_
          refine qp_istore dX4_pass_96 (by decide) ?_
          refine QP.locsE (L1 := [some (.ref m0), some (.int (rec)), some (.int (nI p)), some (.int (0)), some (.int (34))]) rfl ?_
          refine qp_iinc (v := 35) dX4_pass_98 rfl (by decide) rfl ?_
          refine QP.locsE (L1 := [some (.ref m0), some (.int (rec)), some (.int (nI p)), some (.int (0)), some (.int (35))]) rfl ?_
          refine qp_goto 30 dX4_pass_101 (by decide) ?_
          refine qp_iload dX4_pass_30 rfl ?_
          refine qp_bipush (v := 34) dX4_pass_32 (by decide) ?_
          refine qp_icmp_ge 104 dX4_pass_34 (by decide) (fun c_34_1 => ?_) (fun c_34_1 => absurd (by decide) c_34_1)
          refine qp_iconst (v := 0) dX4_pass_104 (by decide) ?_
          refine qp_istore dX4_pass_105 (by decide) ?_
          refine QP.locsE (L1 := [some (.ref m0), some (.int (rec)), some (.int (nI p)), some (.int (0)), some (.int (0))]) rfl ?_
          refine QP.locsE (L1 := [some (.ref m0), some (.int rec), some (.int (nI p)), some (.int (0)), some (.int (nI 0))]) rfl ?_
          rw [hr, show 34 - k = (34 - (k + 1)) + 1 by omega, mAns, if_neg c_63, if_neg (i32_nlt.mpr c_85)]
          exact lm_passC (ps := 1) (ans := 0) nm nbf hp 41 0 h (by omega) (by omega) gm gh (by rw [cpW_0]; exact gb) hfr
        · refine qp_iconst (v := 1) dX4_pass_88 (by decide) ?_
          refine qp_goto 93 dX4_pass_89 (by decide) ?_
          refine qp_istore_n dX4_pass_93 (by decide) ?_
          refine QP.locsE (L1 := [some (.ref m0), some (.int (rec)), some (.int (nI p)), some (.int (1)), some (.int (nI k))]) rfl ?_
          refine qp_bipush (v := 34) dX4_pass_94 (by decide) ?_
          refine qp_istore dX4_pass_96 (by decide) ?_
          refine QP.locsE (L1 := [some (.ref m0), some (.int (rec)), some (.int (nI p)), some (.int (1)), some (.int (34))]) rfl ?_
          refine qp_iinc (v := 35) dX4_pass_98 rfl (by decide) rfl ?_
          refine QP.locsE (L1 := [some (.ref m0), some (.int (rec)), some (.int (nI p)), some (.int (1)), some (.int (35))]) rfl ?_
          refine qp_goto 30 dX4_pass_101 (by decide) ?_
          refine qp_iload dX4_pass_30 rfl ?_
          refine qp_bipush (v := 34) dX4_pass_32 (by decide) ?_
          refine qp_icmp_ge 104 dX4_pass_34 (by decide) (fun c_34_2 => ?_) (fun c_34_2 => absurd (by decide) c_34_2)
          refine qp_iconst (v := 0) dX4_pass_104 (by decide) ?_
          refine qp_istore dX4_pass_105 (by decide) ?_
          refine QP.locsE (L1 := [some (.ref m0), some (.int (rec)), some (.int (nI p)), some (.int (1)), some (.int (0))]) rfl ?_
          refine QP.locsE (L1 := [some (.ref m0), some (.int rec), some (.int (nI p)), some (.int (1)), some (.int (nI 0))]) rfl ?_
          rw [hr, show 34 - k = (34 - (k + 1)) + 1 by omega, mAns, if_neg c_63, if_pos (i32_nle.mp c_85)]
          exact lm_passC (ps := 1) (ans := 1) nm nbf hp 41 0 h (by omega) (by omega) gm gh (by rw [cpW_0]; exact gb) hfr
set_option maxHeartbeats 4000000 in
set_option maxRecDepth 100000 in
theorem lm_passP0 {G : qG} {h h0 : qH} {sch th pp wr sz : Int32} {m0 sa nw la sh rcm bf c : Nat} {H B RR : Nat → Int32} {rec : Int32} {p : Nat} (nm : G.2.1 ≤ m0) (nbf : G.2.1 ≤ bf) (hc : c ≤ 60) (hp : p < c) (hrec : RR p = rec) (hfst : ∀ i, i < p → ¬ RR i = rec) (gm : h m0 = some (mdCell 0 sch sa sz nw la th sh rcm (nI c) bf 0 pp wr)) (gh : h sh = some (mshCell H)) (gb : h bf = some (rwCell B)) (gr : h rcm = some (rcCell RR)) (hfr : ∀ b : Nat, b ≠ m0 → b ≠ bf → h b = h0 b) : ∀ (t n : Nat), p < n + t → n ≤ p → QP G M_X4_pass qTr (qMZ G M_X4_pass (qI (fun v h1 => v = 1 ∧ h1 m0 = some (mdCell 0 sch sa sz nw la th sh rcm (nI c) bf 1 pp wr) ∧ h1 bf = some (rwCell (cpW (mRow H p) B 40)) ∧ ∀ b : Nat, b ≠ m0 → b ≠ bf → h1 b = h0 b))) 7 [some (.ref m0), some (.int rec), some (.int (nI n)), none, none] [] h 0 0 := by
  intro t
  induction t with
  | zero =>
    intro n h1 h2
    omega
  | succ t ih =>
    intro n h1 h2
    refine qp_iload_n dX4_pass_7 rfl ?_
    refine qp_aload_n dX4_pass_8 rfl ?_
    refine qp_getf dX4_pass_9 fX4_118 gm rfl ?_
    refine qp_icmp_ge 152 dX4_pass_12 (by decide) (fun c_12 => absurd c_12 (fun q => absurd ((nI_leI (by omega) (by omega)).mp q) (by omega))) (fun c_12 => ?_)
    refine qp_aload_n dX4_pass_15 rfl ?_
    refine qp_getf dX4_pass_16 fX4_23 gm rfl ?_
    refine qp_iload_n dX4_pass_19 rfl ?_
    refine qp_ialdN (n) dX4_pass_20 gr rfl (by omega) (by decide) ?_
    refine qp_iload_n dX4_pass_21 rfl ?_
    refine qp_icmp_ne 146 dX4_pass_22 (by decide) (fun c_22 => ?_) (fun c_22 => ?_)
    · have hnp : n < p := by rcases Nat.lt_or_eq_of_le h2 with q | q; exact q; rw [q] at c_22; exact absurd hrec c_22
      refine qp_iinc (v := nI (n + 1)) dX4_pass_146 rfl (by decide) (nI_1 n) ?_
      refine QP.locsE (L1 := [some (.ref m0), some (.int (rec)), some (.int (nI (n + 1))), none, none]) rfl ?_
      refine qp_goto 7 dX4_pass_149 (by decide) ?_
      exact ih (n + 1) (by omega) (by omega)
    · have hnp : n = p := by rcases Nat.lt_or_eq_of_le h2 with q | q; exact absurd c_22 (hfst n q); exact q
      subst hnp
      refine qp_iconst (v := 1) dX4_pass_25 (by decide) ?_
      refine qp_istore_n dX4_pass_26 (by decide) ?_
      refine QP.locsE (L1 := [some (.ref m0), some (.int (rec)), some (.int (nI n)), some (.int (1)), none]) rfl ?_
      refine qp_iconst (v := 0) dX4_pass_27 (by decide) ?_
      refine qp_istore dX4_pass_28 (by decide) ?_
      refine QP.locsE (L1 := [some (.ref m0), some (.int (rec)), some (.int (nI n)), some (.int (1)), some (.int (0))]) rfl ?_
      refine qp_iload dX4_pass_30 rfl ?_
      refine qp_bipush (v := 34) dX4_pass_32 (by decide) ?_
      refine qp_icmp_ge 104 dX4_pass_34 (by decide) (fun c_34 => absurd c_34 (by decide)) (fun c_34 => ?_)
      refine qp_aload_n dX4_pass_37 rfl ?_
      refine qp_getf dX4_pass_38 fX4_131 gm rfl ?_
      refine qp_if_eq 104 dX4_pass_41 (by decide) (fun c_41 => ?_) (fun c_41 => absurd rfl c_41)
      refine qp_iconst (v := 0) dX4_pass_104 (by decide) ?_
      refine qp_istore dX4_pass_105 (by decide) ?_
      refine QP.locsE (L1 := [some (.ref m0), some (.int (rec)), some (.int (nI n)), some (.int (1)), some (.int (0))]) rfl ?_
      refine QP.locsE (L1 := [some (.ref m0), some (.int rec), some (.int (nI n)), some (.int (1)), some (.int (nI 0))]) rfl ?_
      skip
      exact lm_passC (ps := 0) (ans := 1) nm nbf (by omega) 41 0 h (by omega) (by omega) gm gh (by rw [cpW_0]; exact gb) hfr
set_option maxHeartbeats 4000000 in
set_option maxRecDepth 100000 in
theorem m_pass0 (G : qG) {h : qH} {thr : Int32} {sch th pp wr sz : Int32} {m0 sa nw la sh rcm bf c : Nat} {H B RR : Nat → Int32} {rec : Int32} {p : Nat} (nm : G.2.1 ≤ m0) (nbf : G.2.1 ≤ bf) (hc : c ≤ 60) (hp : p < c) (hrec : RR p = rec) (hfst : ∀ i, i < p → ¬ RR i = rec) (gm : h m0 = some (mdCell thr sch sa sz nw la th sh rcm (nI c) bf 0 pp wr)) (gh : h sh = some (mshCell H)) (gb : h bf = some (rwCell B)) (gr : h rcm = some (rcCell RR)) : qMet G M_X4_pass [.ref m0, .int rec] h (qI (fun v h1 => v = 1 ∧ h1 m0 = some (mdCell 0 sch sa sz nw la th sh rcm (nI c) bf 1 pp wr) ∧ h1 bf = some (rwCell (cpW (mRow H p) B 40)) ∧ ∀ b : Nat, b ≠ m0 → b ≠ bf → h1 b = h b)) := by
  refine qMet.of (by decide) (Nat.le_of_ble_eq_true rfl) rfl ?_
  refine QP.locsE (L1 := [some (.ref m0), some (.int (rec)), none, none, none]) rfl ?_
  refine qp_aload_n dX4_pass_0 rfl ?_
  refine qp_iconst (v := 0) dX4_pass_1 (by decide) ?_
  refine qk_put dX4_pass_2 fX4_33 gm nm rfl rfl rfl rfl rfl (fun h1 g2 o3 => ?_)
  have g4 : h1 sh = some (.inl (0, 2400, .inl (H))) := (o3 _ (ne_of_cells gh gm (by simp))).trans gh
  have g5 : h1 bf = some (.inl (0, 40, .inl (B))) := (o3 _ (ne_of_cells gb gm (by simp))).trans gb
  have g6 : h1 rcm = some (.inl (0, 60, .inl (RR))) := (o3 _ (ne_of_cells gr gm (by simp))).trans gr
  have g2 : h1 m0 = some (.inr (5, [.int (0), .int (sch), .ref sa, .int (sz), .ref nw, .ref la, .int (th), .ref sh, .ref rcm, .int (nI c), .ref bf, .int (0), .int (pp), .int (wr)])) := g2
  refine qp_iconst (v := 0) dX4_pass_5 (by decide) ?_
  refine qp_istore_n dX4_pass_6 (by decide) ?_
  refine QP.locsE (L1 := [some (.ref m0), some (.int (rec)), some (.int (0)), none, none]) rfl ?_
  exact lm_passP0 nm nbf hc hp hrec hfst g2 g4 g5 g6 (fun b hb1 hb2 => (o3 b hb1)) (p + 1) 0 (by omega) (by omega)
set_option maxHeartbeats 4000000 in
set_option maxRecDepth 100000 in
theorem lm_passP1 {G : qG} {h h0 : qH} {sch th pp wr sz : Int32} {m0 sa nw la sh rcm bf c : Nat} {H B RR : Nat → Int32} {rec : Int32} {p : Nat} (nm : G.2.1 ≤ m0) (nbf : G.2.1 ≤ bf) (hc : c ≤ 60) (hp : p < c) (hrec : RR p = rec) (hfst : ∀ i, i < p → ¬ RR i = rec) (gm : h m0 = some (mdCell 0 sch sa sz nw la th sh rcm (nI c) bf 1 pp wr)) (gh : h sh = some (mshCell H)) (gb : h bf = some (rwCell B)) (gr : h rcm = some (rcCell RR)) (hfr : ∀ b : Nat, b ≠ m0 → b ≠ bf → h b = h0 b) : ∀ (t n : Nat), p < n + t → n ≤ p → QP G M_X4_pass qTr (qMZ G M_X4_pass (qI (fun v h1 => v = mAns (mRow H p) B 34 0 ∧ h1 m0 = some (mdCell 0 sch sa sz nw la th sh rcm (nI c) bf 1 pp wr) ∧ h1 bf = some (rwCell (cpW (mRow H p) B 40)) ∧ ∀ b : Nat, b ≠ m0 → b ≠ bf → h1 b = h0 b))) 7 [some (.ref m0), some (.int rec), some (.int (nI n)), none, none] [] h 0 0 := by
  intro t
  induction t with
  | zero =>
    intro n h1 h2
    omega
  | succ t ih =>
    intro n h1 h2
    refine qp_iload_n dX4_pass_7 rfl ?_
    refine qp_aload_n dX4_pass_8 rfl ?_
    refine qp_getf dX4_pass_9 fX4_118 gm rfl ?_
    refine qp_icmp_ge 152 dX4_pass_12 (by decide) (fun c_12 => absurd c_12 (fun q => absurd ((nI_leI (by omega) (by omega)).mp q) (by omega))) (fun c_12 => ?_)
    refine qp_aload_n dX4_pass_15 rfl ?_
    refine qp_getf dX4_pass_16 fX4_23 gm rfl ?_
    refine qp_iload_n dX4_pass_19 rfl ?_
    refine qp_ialdN (n) dX4_pass_20 gr rfl (by omega) (by decide) ?_
    refine qp_iload_n dX4_pass_21 rfl ?_
    refine qp_icmp_ne 146 dX4_pass_22 (by decide) (fun c_22 => ?_) (fun c_22 => ?_)
    · have hnp : n < p := by rcases Nat.lt_or_eq_of_le h2 with q | q; exact q; rw [q] at c_22; exact absurd hrec c_22
      refine qp_iinc (v := nI (n + 1)) dX4_pass_146 rfl (by decide) (nI_1 n) ?_
      refine QP.locsE (L1 := [some (.ref m0), some (.int (rec)), some (.int (nI (n + 1))), none, none]) rfl ?_
      refine qp_goto 7 dX4_pass_149 (by decide) ?_
      exact ih (n + 1) (by omega) (by omega)
    · have hnp : n = p := by rcases Nat.lt_or_eq_of_le h2 with q | q; exact absurd c_22 (hfst n q); exact q
      subst hnp
      refine qp_iconst (v := 1) dX4_pass_25 (by decide) ?_
      refine qp_istore_n dX4_pass_26 (by decide) ?_
      refine QP.locsE (L1 := [some (.ref m0), some (.int (rec)), some (.int (nI n)), some (.int (1)), none]) rfl ?_
      refine qp_iconst (v := 0) dX4_pass_27 (by decide) ?_
      refine qp_istore dX4_pass_28 (by decide) ?_
      refine QP.locsE (L1 := [some (.ref m0), some (.int (rec)), some (.int (nI n)), some (.int (1)), some (.int (0))]) rfl ?_
      refine QP.locsE (L1 := [some (.ref m0), some (.int rec), some (.int (nI n)), some (.int 1), some (.int (nI 0))]) rfl ?_
      exact lm_passA nm nbf (by omega) gm gh gb hfr 35 0 (by omega) (by omega) rfl
set_option maxHeartbeats 4000000 in
set_option maxRecDepth 100000 in
theorem m_pass1 (G : qG) {h : qH} {thr : Int32} {sch th pp wr sz : Int32} {m0 sa nw la sh rcm bf c : Nat} {H B RR : Nat → Int32} {rec : Int32} {p : Nat} (nm : G.2.1 ≤ m0) (nbf : G.2.1 ≤ bf) (hc : c ≤ 60) (hp : p < c) (hrec : RR p = rec) (hfst : ∀ i, i < p → ¬ RR i = rec) (gm : h m0 = some (mdCell thr sch sa sz nw la th sh rcm (nI c) bf 1 pp wr)) (gh : h sh = some (mshCell H)) (gb : h bf = some (rwCell B)) (gr : h rcm = some (rcCell RR)) : qMet G M_X4_pass [.ref m0, .int rec] h (qI (fun v h1 => v = mAns (mRow H p) B 34 0 ∧ h1 m0 = some (mdCell 0 sch sa sz nw la th sh rcm (nI c) bf 1 pp wr) ∧ h1 bf = some (rwCell (cpW (mRow H p) B 40)) ∧ ∀ b : Nat, b ≠ m0 → b ≠ bf → h1 b = h b)) := by
  refine qMet.of (by decide) (Nat.le_of_ble_eq_true rfl) rfl ?_
  refine QP.locsE (L1 := [some (.ref m0), some (.int (rec)), none, none, none]) rfl ?_
  refine qp_aload_n dX4_pass_0 rfl ?_
  refine qp_iconst (v := 0) dX4_pass_1 (by decide) ?_
  refine qk_put dX4_pass_2 fX4_33 gm nm rfl rfl rfl rfl rfl (fun h1 g2 o3 => ?_)
  have g4 : h1 sh = some (.inl (0, 2400, .inl (H))) := (o3 _ (ne_of_cells gh gm (by simp))).trans gh
  have g5 : h1 bf = some (.inl (0, 40, .inl (B))) := (o3 _ (ne_of_cells gb gm (by simp))).trans gb
  have g6 : h1 rcm = some (.inl (0, 60, .inl (RR))) := (o3 _ (ne_of_cells gr gm (by simp))).trans gr
  have g2 : h1 m0 = some (.inr (5, [.int (0), .int (sch), .ref sa, .int (sz), .ref nw, .ref la, .int (th), .ref sh, .ref rcm, .int (nI c), .ref bf, .int (1), .int (pp), .int (wr)])) := g2
  refine qp_iconst (v := 0) dX4_pass_5 (by decide) ?_
  refine qp_istore_n dX4_pass_6 (by decide) ?_
  refine QP.locsE (L1 := [some (.ref m0), some (.int (rec)), some (.int (0)), none, none]) rfl ?_
  exact lm_passP1 nm nbf hc hp hrec hfst g2 g4 g5 g6 (fun b hb1 hb2 => (o3 b hb1)) (p + 1) 0 (by omega) (by omega)
set_option maxHeartbeats 4000000 in
set_option maxRecDepth 100000 in
theorem lm_passN {G : qG} {h h0 : qH} {sch th ps pp wr sz : Int32} {m0 sa nw la sh rcm bf c : Nat} {RR : Nat → Int32} {rec : Int32} (hc : c ≤ 60) (hno : ∀ i, i < c → ¬ RR i = rec) (gm : h m0 = some (mdCell 0 sch sa sz nw la th sh rcm (nI c) bf ps pp wr)) (gr : h rcm = some (rcCell RR)) (hfr : ∀ b : Nat, b ≠ m0 → h b = h0 b) : ∀ (t n : Nat), c < n + t → n ≤ c → QP G M_X4_pass qTr (qMZ G M_X4_pass (qI (fun v h1 => v = -1 ∧ h1 m0 = some (mdCell 0 sch sa sz nw la th sh rcm (nI c) bf ps pp wr) ∧ ∀ b : Nat, b ≠ m0 → h1 b = h0 b))) 7 [some (.ref m0), some (.int rec), some (.int (nI n)), none, none] [] h 0 0 := by
  intro t
  induction t with
  | zero =>
    intro n h1 h2
    omega
  | succ t ih =>
    intro n h1 h2
    refine qp_iload_n dX4_pass_7 rfl ?_
    refine qp_aload_n dX4_pass_8 rfl ?_
    refine qp_getf dX4_pass_9 fX4_118 gm rfl ?_
    refine qp_icmp_ge 152 dX4_pass_12 (by decide) (fun c_12 => ?_) (fun c_12 => ?_)
    · skip
      refine qp_iconst (v := -1) dX4_pass_152 (by decide) ?_
      exact qr_i dX4_pass_153 rfl rfl rfl ⟨rfl, gm, hfr⟩
    · have hk : n < c := Nat.not_le.mp fun q => c_12 ((nI_leI (by omega) (by omega)).mpr q)
      refine qp_aload_n dX4_pass_15 rfl ?_
      refine qp_getf dX4_pass_16 fX4_23 gm rfl ?_
      refine qp_iload_n dX4_pass_19 rfl ?_
      refine qp_ialdN (n) dX4_pass_20 gr rfl (by omega) (by decide) ?_
      refine qp_iload_n dX4_pass_21 rfl ?_
      refine qp_icmp_ne 146 dX4_pass_22 (by decide) (fun c_22 => ?_) (fun c_22 => absurd c_22 (hno n hk))
      refine qp_iinc (v := nI (n + 1)) dX4_pass_146 rfl (by decide) (nI_1 n) ?_
      refine QP.locsE (L1 := [some (.ref m0), some (.int (rec)), some (.int (nI (n + 1))), none, none]) rfl ?_
      refine qp_goto 7 dX4_pass_149 (by decide) ?_
      exact ih (n + 1) (by omega) (by omega)
set_option maxHeartbeats 4000000 in
set_option maxRecDepth 100000 in
theorem m_passN (G : qG) {h : qH} {thr : Int32} {sch th ps pp wr sz : Int32} {m0 sa nw la sh rcm bf c : Nat} {RR : Nat → Int32} {rec : Int32} (nm : G.2.1 ≤ m0) (hc : c ≤ 60) (hno : ∀ i, i < c → ¬ RR i = rec) (gm : h m0 = some (mdCell thr sch sa sz nw la th sh rcm (nI c) bf ps pp wr)) (gr : h rcm = some (rcCell RR)) : qMet G M_X4_pass [.ref m0, .int rec] h (qI (fun v h1 => v = -1 ∧ h1 m0 = some (mdCell 0 sch sa sz nw la th sh rcm (nI c) bf ps pp wr) ∧ ∀ b : Nat, b ≠ m0 → h1 b = h b)) := by
  refine qMet.of (by decide) (Nat.le_of_ble_eq_true rfl) rfl ?_
  refine QP.locsE (L1 := [some (.ref m0), some (.int (rec)), none, none, none]) rfl ?_
  refine qp_aload_n dX4_pass_0 rfl ?_
  refine qp_iconst (v := 0) dX4_pass_1 (by decide) ?_
  refine qk_put dX4_pass_2 fX4_33 gm nm rfl rfl rfl rfl rfl (fun h1 g2 o3 => ?_)
  have g4 : h1 rcm = some (.inl (0, 60, .inl (RR))) := (o3 _ (ne_of_cells gr gm (by simp))).trans gr
  have g2 : h1 m0 = some (.inr (5, [.int (0), .int (sch), .ref sa, .int (sz), .ref nw, .ref la, .int (th), .ref sh, .ref rcm, .int (nI c), .ref bf, .int (ps), .int (pp), .int (wr)])) := g2
  refine qp_iconst (v := 0) dX4_pass_5 (by decide) ?_
  refine qp_istore_n dX4_pass_6 (by decide) ?_
  refine QP.locsE (L1 := [some (.ref m0), some (.int (rec)), some (.int (0)), none, none]) rfl ?_
  exact lm_passN hc hno g2 g4 (fun b hb => (o3 b hb)) (c + 1) 0 (by omega) (by omega)
