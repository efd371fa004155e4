set_option maxHeartbeats 4000000 in
set_option maxRecDepth 100000 in
theorem lm_takeI {G : qG} {Z : qZ} {h0 : qH} {sch th ps pp wr sz : Int32} {m0 sa nw la sh rcm bf c1 : Nat} {H : Nat → Int32} {j p : Nat} {a1 a2 : Int32} (nsh : G.2.1 ≤ sh) (hc : c1 < 60) (hjp : j ≤ p) (hp : p < c1)
    (cont : ∀ h : qH, h m0 = some (mdCell 0 sch sa sz nw la th sh rcm (nI c1) bf ps pp wr) → h sh = some (mshCell (shDI H j p 40)) → (∀ b : Nat, b ≠ sh → h b = h0 b) → QP G M_X4_take qTr Z 89 [some (.ref m0), some (.int a1), some (.int a2), some (.int (nI p)), some (.int (nI 40))] [] h 0 0) : ∀ (t k : Nat) (h : qH), 40 < k + t → k ≤ 40 → h m0 = some (mdCell 0 sch sa sz nw la th sh rcm (nI c1) bf ps pp wr) → h sh = some (mshCell (shDI H j p k)) → (∀ b : Nat, b ≠ sh → h b = h0 b) → QP G M_X4_take qTr Z 49 [some (.ref m0), some (.int a1), some (.int a2), some (.int (nI p)), some (.int (nI k))] [] h 0 0 := by
  intro t
  induction t with
  | zero =>
    intro k h h1 h2
    omega
  | succ t ih =>
    intro k h h1 h2 gm gh hfr
    refine qp_iload dX4_take_49 rfl ?_
    refine qp_bipush (v := 40) dX4_take_51 (by decide) ?_
    refine qp_icmp_ge 89 dX4_take_53 (by decide) (fun c_53 => ?_) (fun c_53 => ?_)
    · have hk : k = 40 := by have := (nI_leI (a := 40) (by decide) (by omega)).mp c_53; omega
      subst hk
      exact cont h gm gh hfr
    · have hk : k < 40 := Nat.not_le.mp fun q => c_53 ((nI_leI (a := 40) (by decide) (by omega)).mpr q)
      refine qp_aload_n dX4_take_56 rfl ?_
      refine qp_getf dX4_take_57 fX4_20 gm rfl ?_
      refine qp_bipush (v := 40) dX4_take_60 (by decide) ?_
      refine qp_iload_n dX4_take_62 rfl ?_
      refine qp_imul dX4_take_63 ?_
      refine QP.topI (y := nI (40 * p)) (pk_mul 40 _) ?_
      refine qp_iload dX4_take_64 rfl ?_
      refine qp_iadd dX4_take_66 ?_
      refine QP.topI (y := nI (40 * p + k)) (nI_add _ _) ?_
      refine qp_aload_n dX4_take_67 rfl ?_
      refine qp_getf dX4_take_68 fX4_20 gm rfl ?_
      refine qp_bipush (v := 40) dX4_take_71 (by decide) ?_
      refine qp_iload_n dX4_take_73 rfl ?_
      refine qp_imul dX4_take_74 ?_
      refine QP.topI (y := nI (40 * p)) (pk_mul 40 _) ?_
      refine qp_bipush (v := 40) dX4_take_75 (by decide) ?_
      refine qp_iadd dX4_take_77 ?_
      refine QP.topI (y := nI (40 * p + 40)) (nI_add _ 40) ?_
      refine qp_iload dX4_take_78 rfl ?_
      refine qp_iadd dX4_take_80 ?_
      refine QP.topI (y := nI (40 * p + 40 + k)) (nI_add _ _) ?_
      refine qp_ialdN (40 * p + 40 + k) dX4_take_81 gh rfl (by omega) (by decide) ?_
      refine qk_iast (40 * p + k) dX4_take_82 gh nsh rfl (by omega) (by decide) (fun h1 g2 o3 => ?_)
      have g4 : h1 m0 = some (.inr (5, [.int (0), .int (sch), .ref sa, .int (sz), .ref nw, .ref la, .int (th), .ref sh, .ref rcm, .int (nI c1), .ref bf, .int (ps), .int (pp), .int (wr)])) := (o3 _ (ne_of_cells gm gh (by simp))).trans gm
      have g2 : h1 sh = some (.inl (0, 2400, .inl (upd (shDI H j p k) (40 * p + k) (shDI H j p k (40 * p + 40 + k))))) := g2
      refine qp_iinc (v := nI (k + 1)) dX4_take_83 rfl (by decide) (nI_1 k) ?_
      refine QP.locsE (L1 := [some (.ref m0), some (.int (a1)), some (.int (a2)), some (.int (nI p)), some (.int (nI (k + 1)))]) rfl ?_
      refine qp_goto 49 dX4_take_86 (by decide) ?_
      rw [shDI_s (by omega) (by omega)] at g2
      exact ih (k + 1) h1 (by omega) (by omega) g4 g2 (fun b hb => (o3 b hb).trans (hfr b hb))
set_option maxHeartbeats 4000000 in
set_option maxRecDepth 100000 in
theorem lm_takeO {G : qG} {h0 : qH} {sch th ps pp wr sz : Int32} {m0 sa nw la sh rcm bf c1 : Nat} {H RR : Nat → Int32} {j : Nat} {a1 was : Int32} (nm : G.2.1 ≤ m0) (nsh : G.2.1 ≤ sh) (nrc : G.2.1 ≤ rcm) (hc : c1 < 60) : ∀ (t p : Nat) (h : qH), c1 < p + t → j ≤ p → p ≤ c1 → h m0 = some (mdCell 0 sch sa sz nw la th sh rcm (nI c1) bf ps pp wr) → h sh = some (mshCell (shDI H j p 0)) → h rcm = some (rcCell (shD RR j p)) → (∀ b : Nat, b ≠ m0 → b ≠ sh → b ≠ rcm → h b = h0 b) → QP G M_X4_take qTr (qMZ G M_X4_take (qI (fun v h1 => v = was ∧ h1 m0 = some (mdCell 0 sch sa sz nw la th sh rcm (nI c1) bf ps pp wr) ∧ h1 sh = some (mshCell (shDI H j c1 0)) ∧ h1 rcm = some (rcCell (shD RR j c1)) ∧ ∀ b : Nat, b ≠ m0 → b ≠ sh → b ≠ rcm → h1 b = h0 b))) 38 [some (.ref m0), some (.int a1), some (.int was), some (.int (nI p)), none] [] h 0 0 := by
  intro t
  induction t with
  | zero =>
    intro p h h1 h2
    omega
  | succ t ih =>
    intro p h h1 h2 hpc gm gh gr hfr
    refine qp_iload_n dX4_take_38 rfl ?_
    refine qp_aload_n dX4_take_39 rfl ?_
    refine qp_getf dX4_take_40 fX4_118 gm rfl ?_
    refine qp_icmp_ge 109 dX4_take_43 (by decide) (fun c_43 => ?_) (fun c_43 => ?_)
    · have hk : c1 ≤ p := (nI_leI (by omega) (by omega)).mp c_43
      refine qp_iload_n dX4_take_109 rfl ?_
      exact qr_i dX4_take_110 rfl rfl rfl ⟨rfl, gm, by rw [show c1 = p by omega]; exact gh, by rw [show c1 = p by omega]; exact gr, hfr⟩
    · have hk : p < c1 := Nat.not_le.mp fun q => c_43 ((nI_leI (by omega) (by omega)).mpr q)
      refine qp_iconst (v := 0) dX4_take_46 (by decide) ?_
      refine qp_istore dX4_take_47 (by decide) ?_
      refine QP.locsE (L1 := [some (.ref m0), some (.int (a1)), some (.int (was)), some (.int (nI p)), some (.int (0))]) rfl ?_
      refine QP.locsE (L1 := [some (.ref m0), some (.int a1), some (.int was), some (.int (nI p)), some (.int (nI 0))]) rfl ?_
      refine lm_takeI (h0 := h) (H := H) nsh hc (by omega) hk (fun h3 gm3 gh3 hfr3 => ?_) 41 0 h (by omega) (by omega) gm gh (fun _ _ => rfl)
      have g1 : h3 m0 = some (.inr (5, [.int (0), .int (sch), .ref sa, .int (sz), .ref nw, .ref la, .int (th), .ref sh, .ref rcm, .int (nI c1), .ref bf, .int (ps), .int (pp), .int (wr)])) := (hfr3 _ (ne_of_cells gm gh (by simp))).trans gm
      have g2 : h3 rcm = some (.inl (0, 60, .inl (shD RR j p))) := (hfr3 _ (ne_of_cells gr gh (by simp))).trans gr
      have gh3 : h3 sh = some (.inl (0, 2400, .inl (shDI H j p 40))) := gh3
      refine qp_aload_n dX4_take_89 rfl ?_
      refine qp_getf dX4_take_90 fX4_23 gm3 rfl ?_
      refine qp_iload_n dX4_take_93 rfl ?_
      refine qp_aload_n dX4_take_94 rfl ?_
      refine qp_getf dX4_take_95 fX4_23 gm3 rfl ?_
      refine qp_iload_n dX4_take_98 rfl ?_
      refine qp_iconst (v := 1) dX4_take_99 (by decide) ?_
      refine qp_iadd dX4_take_100 ?_
      refine QP.topI (y := nI (p + 1)) (nI_1 p) ?_
      refine qp_ialdN (p + 1) dX4_take_101 g2 rfl (by omega) (by decide) ?_
      refine qk_iast (p) dX4_take_102 g2 nrc rfl (by omega) (by decide) (fun h3 g4 o5 => ?_)
      have g6 : h3 m0 = some (.inr (5, [.int (0), .int (sch), .ref sa, .int (sz), .ref nw, .ref la, .int (th), .ref sh, .ref rcm, .int (nI c1), .ref bf, .int (ps), .int (pp), .int (wr)])) := (o5 _ (ne_of_cells gm3 g2 (by simp))).trans gm3
      have g7 : h3 sh = some (.inl (0, 2400, .inl (shDI H j p 40))) := (o5 _ (ne_of_cells gh3 g2 (by simp))).trans gh3
      have g4 : h3 rcm = some (.inl (0, 60, .inl (upd (shD RR j p) (p) (shD RR j p (p + 1))))) := g4
      refine qp_iinc (v := nI (p + 1)) dX4_take_103 rfl (by decide) (nI_1 p) ?_
      refine QP.locsE (L1 := [some (.ref m0), some (.int (a1)), some (.int (was)), some (.int (nI (p + 1))), some (.int (nI 40))]) rfl ?_
      refine qp_goto 38 dX4_take_106 (by decide) ?_
      rw [shD_i (by omega)] at g4
      rw [shDI_n] at g7
      refine QP.forget 4 ?_
      exact ih (p + 1) h3 (by omega) (by omega) (by omega) g6 g7 g4 (fun b hb1 hb2 hb3 => ((o5 b hb3).trans (hfr3 b hb2)).trans (hfr b hb1 hb2 hb3))
set_option maxHeartbeats 4000000 in
set_option maxRecDepth 100000 in
theorem m_take (G : qG) {h : qH} {thr sch th ps pp wr sz : Int32} {m0 sa nw la sh rcm bf c1 : Nat} {H RR : Nat → Int32} {j : Nat} (nm : G.2.1 ≤ m0) (nsh : G.2.1 ≤ sh) (nrc : G.2.1 ≤ rcm) (hc : c1 < 60) (hj : j ≤ c1) (gm : h m0 = some (mdCell thr sch sa sz nw la th sh rcm (nI (c1 + 1)) bf ps pp wr)) (gh : h sh = some (mshCell H)) (gr : h rcm = some (rcCell RR)) : qMet G M_X4_take [.ref m0, .int (nI j)] h (qI (fun v h1 => v = RR j ∧ h1 m0 = some (mdCell 0 sch sa sz nw la th sh rcm (nI c1) bf ps pp wr) ∧ h1 sh = some (mshCell (shDI H j c1 0)) ∧ h1 rcm = some (rcCell (shD RR j c1)) ∧ ∀ b : Nat, b ≠ m0 → b ≠ sh → b ≠ rcm → h1 b = h b)) := by
  refine qMet.of (by decide) (Nat.le_of_ble_eq_true rfl) rfl ?_
  refine QP.locsE (L1 := [some (.ref m0), some (.int (nI j)), none, none, none]) rfl ?_
  refine qp_aload_n dX4_take_0 rfl ?_
  refine qp_iconst (v := 0) dX4_take_1 (by decide) ?_
  refine qk_put dX4_take_2 fX4_33 gm nm rfl rfl rfl rfl rfl (fun h1 g2 o3 => ?_)
  have g4 : h1 sh = some (.inl (0, 2400, .inl (H))) := (o3 _ (ne_of_cells gh gm (by simp))).trans gh
  have g5 : h1 rcm = some (.inl (0, 60, .inl (RR))) := (o3 _ (ne_of_cells gr gm (by simp))).trans gr
  have g2 : h1 m0 = some (.inr (5, [.int (0), .int (sch), .ref sa, .int (sz), .ref nw, .ref la, .int (th), .ref sh, .ref rcm, .int (nI (c1 + 1)), .ref bf, .int (ps), .int (pp), .int (wr)])) := g2
  refine qp_iload_n dX4_take_5 rfl ?_
  refine qp_if_lt 17 dX4_take_6 (by decide) (fun c_6 => absurd c_6 (nI_pos (by omega))) (fun c_6 => ?_)
  refine qp_iload_n dX4_take_9 rfl ?_
  refine qp_aload_n dX4_take_10 rfl ?_
  refine qp_getf dX4_take_11 fX4_118 g2 rfl ?_
  refine qp_icmp_lt 19 dX4_take_14 (by decide) (fun c_14 => ?_) (fun c_14 => absurd (nI_lt (by omega) (by omega)) c_14)
  refine qp_aload_n dX4_take_19 rfl ?_
  refine qp_getf dX4_take_20 fX4_23 g2 rfl ?_
  refine qp_iload_n dX4_take_23 rfl ?_
  refine qp_ialdN (j) dX4_take_24 g5 rfl (by omega) (by decide) ?_
  refine qp_istore_n dX4_take_25 (by decide) ?_
  refine QP.locsE (L1 := [some (.ref m0), some (.int (nI j)), some (.int (RR (j))), none, none]) rfl ?_
  refine qp_aload_n dX4_take_26 rfl ?_
  refine qp_dup dX4_take_27 rfl ?_
  refine qp_getf dX4_take_28 fX4_118 g2 rfl ?_
  refine qp_iconst (v := 1) dX4_take_31 (by decide) ?_
  refine qp_isub dX4_take_32 ?_
  refine QP.topI (y := nI c1) (nI_pred c1) ?_
  refine qk_put dX4_take_33 fX4_118 g2 nm rfl rfl rfl rfl rfl (fun h6 g7 o8 => ?_)
  have g9 : h6 sh = some (.inl (0, 2400, .inl (H))) := (o8 _ (ne_of_cells g4 g2 (by simp))).trans g4
  have g10 : h6 rcm = some (.inl (0, 60, .inl (RR))) := (o8 _ (ne_of_cells g5 g2 (by simp))).trans g5
  have g7 : h6 m0 = some (.inr (5, [.int (0), .int (sch), .ref sa, .int (sz), .ref nw, .ref la, .int (th), .ref sh, .ref rcm, .int (nI c1), .ref bf, .int (ps), .int (pp), .int (wr)])) := g7
  refine qp_iload_n dX4_take_36 rfl ?_
  refine qp_istore_n dX4_take_37 (by decide) ?_
  refine QP.locsE (L1 := [some (.ref m0), some (.int (nI j)), some (.int (RR (j))), some (.int (nI j)), none]) rfl ?_
  exact lm_takeO nm nsh nrc hc (c1 + 1) j h6 (by omega) (by omega) (by omega) g7 (by rw [shDI_0]; exact g9) (by rw [shD_0]; exact g10) (fun b hb1 hb2 hb3 => ((o8 b hb1).trans (o3 b hb1)))
set_option maxHeartbeats 4000000 in
set_option maxRecDepth 100000 in
theorem m_takeX (G : qG) {h : qH} {thr sch th ps pp wr sz : Int32} {m0 sa nw la sh rcm bf c : Nat} (p : Int32) (nm : G.2.1 ≤ m0) (hno : sHas c p = false) (hc : c ≤ 60) (gm : h m0 = some (mdCell thr sch sa sz nw la th sh rcm (nI c) bf ps pp wr)) : qMet G M_X4_take [.ref m0, .int p] h (qI (fun v h1 => v = -1 ∧ h1 m0 = some (mdCell 0 sch sa sz nw la th sh rcm (nI c) bf ps pp wr) ∧ ∀ b : Nat, b ≠ m0 → h1 b = h b)) := by
  refine qMet.of (by decide) (Nat.le_of_ble_eq_true rfl) rfl ?_
  refine QP.locsE (L1 := [some (.ref m0), some (.int (p)), none, none, none]) rfl ?_
  refine qp_aload_n dX4_take_0 rfl ?_
  refine qp_iconst (v := 0) dX4_take_1 (by decide) ?_
  refine qk_put dX4_take_2 fX4_33 gm nm rfl rfl rfl rfl rfl (fun h1 g2 o3 => ?_)
  have g2 : h1 m0 = some (.inr (5, [.int (0), .int (sch), .ref sa, .int (sz), .ref nw, .ref la, .int (th), .ref sh, .ref rcm, .int (nI c), .ref bf, .int (ps), .int (pp), .int (wr)])) := g2
  refine qp_iload_n dX4_take_5 rfl ?_
  refine qp_if_lt 17 dX4_take_6 (by decide) (fun c_6 => ?_) (fun c_6 => ?_)
  · refine qp_iconst (v := -1) dX4_take_17 (by decide) ?_
    exact qr_i dX4_take_18 rfl rfl rfl ⟨rfl, g2, fun b hb => (o3 b hb)⟩
  · refine qp_iload_n dX4_take_9 rfl ?_
    refine qp_aload_n dX4_take_10 rfl ?_
    refine qp_getf dX4_take_11 fX4_118 g2 rfl ?_
    refine qp_icmp_lt 19 dX4_take_14 (by decide) (fun c_14 => absurd c_14 (by rw [i32_nlt, i32_nIle (by omega)]; rw [i32_lt0] at c_6; simp only [sHas, decide_eq_false_iff_not] at hno; omega)) (fun c_14 => ?_)
    refine qp_iconst (v := -1) dX4_take_17 (by decide) ?_
    exact qr_i dX4_take_18 rfl rfl rfl ⟨rfl, g2, fun b hb => (o3 b hb)⟩
