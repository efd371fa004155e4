/-! ===== the law: its loop and its beginning ===== -/
theorem and15 (v : Int32) : ∃ d, d < 16 ∧ v &&& 15 = nI d := by
  have hlt : (v &&& 15).toBitVec.toNat < 16 := by
    rw [Int32.toBitVec_and, BitVec.toNat_and]
    exact Nat.lt_of_le_of_lt Nat.and_le_right (by decide)
  refine ⟨(v &&& 15).toBitVec.toNat, hlt, ?_⟩
  apply Int32.toBitVec_inj.mp
  apply BitVec.eq_of_toNat_eq
  rw [pk_tn (by omega)]
theorem lt3 {n i : Nat} (hn : n ≤ 1537) (hi : i ≤ 1540) (h : ¬ nI n - 3 < nI i) : i + 2 < n := by
  by_cases q : 3 ≤ n
  · rw [show (3 : Int32) = nI 3 from rfl, pk_sub q] at h
    have := mt (nI_ltI (a := n - 3) (b := i) (by omega) (by omega)).mpr h
    omega
  · exfalso
    apply h
    have h0 : (nI n - 3).toInt < 0 := by
      rcases (show n = 0 ∨ n = 1 ∨ n = 2 by omega) with rfl | rfl | rfl <;> decide
    rw [Int32.lt_iff_toInt_lt, nI_toInt (by omega)]
    omega
theorem nI3 (n : Nat) : nI n + Int32.ofInt 3 = nI (n + 3) := by rw [show Int32.ofInt 3 = nI 3 from rfl, nI_add]
section LWL
variable {G : qG} {Z : qZ} {b Ln : Nat} {xs : Nat → Int32}
set_option maxHeartbeats 4000000 in
set_option maxRecDepth 100000 in
theorem law_loop {o0 m0 ou : Nat} (ht : G.1.stackTraces = false) (hL : Ln ≤ 1537) (hend : ∀ (L : List (Option Value)) (h : qH) (cn sn : Nat), cn ≤ 601024 → sn ≤ 7293000 → QP G M_law (lE G b Ln xs) Z 423 L [.int 1] h cn sn) : ∀ (t i : Nat) (h : qH) (cn sn : Nat), Ln ≤ i + t → i ≤ 1540 → LawI G h o0 m0 ou → cn ≤ 100 + 2 * i → sn ≤ 5000 + 19 * i → QP G M_law (lE G b Ln xs) Z 33 (L8 b o0 m0 ou i) [] h cn sn := by
  intro t
  induction t with
  | zero =>
    intro i h cn sn h1 h2 hI h3 h4
    refine qp_iload dL_law_33 rfl ?_
    refine qp_aload_n dL_law_35 rfl ?_
    refine qp_slen (b := b) (fun _ _ q => q.2) dL_law_36 ?_
    refine qp_iconst (v := 3) dL_law_37 (by decide) ?_
    refine qp_isub dL_law_38 ?_
    refine qp_icmp_gt 422 dL_law_39 (by decide) (fun _ => ?_) (fun q => absurd (lt3 hL h2 q) (by omega))
    refine qp_iconst (v := 1) dL_law_422 (by decide) ?_
    exact hend _ _ _ _ (by omega) (by omega)
  | succ t ih =>
    intro i h cn sn h1 h2 hI h3 h4
    refine qp_iload dL_law_33 rfl ?_
    refine qp_aload_n dL_law_35 rfl ?_
    refine qp_slen (b := b) (fun _ _ q => q.2) dL_law_36 ?_
    refine qp_iconst (v := 3) dL_law_37 (by decide) ?_
    refine qp_isub dL_law_38 ?_
    refine qp_icmp_gt 422 dL_law_39 (by decide) (fun _ => ?_) (fun q => ?_)
    · refine qp_iconst (v := 1) dL_law_422 (by decide) ?_
      exact hend _ _ _ _ (by omega) (by omega)
    have hi := lt3 hL h2 q
    refine qp_aload_n dL_law_42 rfl ?_
    refine qp_iload dL_law_43 rfl ?_
    refine qp_sldN (b := b) i (fun _ _ q => q.2) dL_law_45 rfl (by omega) hL ?_
    refine qp_bipush (v := 15) dL_law_46 (by decide) ?_
    refine qp_iand dL_law_48 ?_
    obtain ⟨d, hd, e⟩ := and15 (xs i)
    refine QP.topI e ?_
    have k : KT G (lE G b Ln xs) Z b o0 m0 ou i cn sn := fun h' cn' sn' hI' h1 h2 => by
      refine qp_iinc (v := nI (i + 3)) dL_law_416 rfl (by decide) (nI3 i) ?_
      refine QP.locsE (L1 := L8 b o0 m0 ou (i + 3)) rfl ?_
      refine qp_goto 33 dL_law_419 (by decide) ?_
      exact ih (i + 3) h' cn' sn' (by omega) (by omega) hI' (by omega) (by omega)
    rcases (show d = 0 ∨ d = 1 ∨ d = 2 ∨ d = 3 ∨ d = 4 ∨ d = 5 ∨ d = 6 ∨ d = 7 ∨ d = 8 ∨ d = 9 ∨ d = 10 ∨ d = 11 ∨ d = 12 ∨ d = 13 ∨ d = 14 ∨ d = 15 by omega) with rfl | rfl | rfl | rfl | rfl | rfl | rfl | rfl | rfl | rfl | rfl | rfl | rfl | rfl | rfl | rfl
    · exact qp_tableIn 112 dL_law_49 (by decide) (by decide) rfl (by decide) (law_sign hI hL hi (by omega) (by omega) k)
    · exact qp_tableIn 135 dL_law_49 (by decide) (by decide) rfl (by decide) (law_read hI hL hi (by omega) (by omega) k)
    · exact qp_tableIn 148 dL_law_49 (by decide) (by decide) rfl (by decide) (law_part ht hI hL hi (by omega) (by omega) k)
    · exact qp_tableIn 203 dL_law_49 (by decide) (by decide) rfl (by decide) (law_letter hI hL hi (by omega) (by omega) k)
    · exact qp_tableIn 228 dL_law_49 (by decide) (by decide) rfl (by decide) (law_put hI hL hi (by omega) (by omega) k)
    · exact qp_tableIn 253 dL_law_49 (by decide) (by decide) rfl (by decide) (law_shelf hI hL hi (by omega) (by omega) k)
    · exact qp_tableIn 278 dL_law_49 (by decide) (by decide) rfl (by decide) (law_take hI hL hi (by omega) (by omega) k)
    · exact qp_tableIn 303 dL_law_49 (by decide) (by decide) rfl (by decide) (law_compare hI hL hi (by omega) (by omega) k)
    · exact qp_tableIn 340 dL_law_49 (by decide) (by decide) rfl (by decide) (law_before hI hL hi (by omega) (by omega) k)
    · exact qp_tableIn 353 dL_law_49 (by decide) (by decide) rfl (by decide) (law_free hI hL hi (by omega) (by omega) k)
    · exact qp_tableIn 366 dL_law_49 (by decide) (by decide) rfl (by decide) (law_spine hI hL hi (by omega) (by omega) k)
    · exact qp_tableIn 391 dL_law_49 (by decide) (by decide) rfl (by decide) (law_pass hI hL hi (by omega) (by omega) k)
    · exact qp_tableOut 416 dL_law_49 (by decide) (by decide) (k h cn sn hI (by omega) (by omega))
    · exact qp_tableOut 416 dL_law_49 (by decide) (by decide) (k h cn sn hI (by omega) (by omega))
    · exact qp_tableOut 416 dL_law_49 (by decide) (by decide) (k h cn sn hI (by omega) (by omega))
    · exact qp_tableOut 416 dL_law_49 (by decide) (by decide) (k h cn sn hI (by omega) (by omega))
set_option maxHeartbeats 4000000 in
set_option maxRecDepth 100000 in
theorem law_start0 (hsc : cellV Ln xs 0 < 1) (ht : G.1.stackTraces = false) (hL : Ln ≤ 1537) (hend : ∀ (L : List (Option Value)) (h : qH) (cn sn : Nat), cn ≤ 601024 → sn ≤ 7293000 → QP G M_law (lE G b Ln xs) Z 423 L [.int 1] h cn sn) : QP G M_law (lE G b Ln xs) Z 0 [some (.ref b), none, none, none, none, none, none, none] [] (fun _ => none) 0 0 := by
  refine qk_new dL_law_0 nL_8 rfl rfl rfl (fun o0 h1 n1 z1 g1 o1 => ?_)
  have g1 : h1 o0 = some (.inr (4, [.null, .null, .null, .null])) := g1
  refine qp_dup dL_law_3 rfl ?_
  refine qp_aload_n dL_law_4 rfl ?_
  refine qp_iconst (v := 0) dL_law_5 (by decide) ?_
  refine qp_callSE (n := 2) (As := [.ref b, .int 0]) (M' := M_L_cell) (P := cP G.2.1 b Ln xs) dL_law_6 mL_15 ⟨by decide, by decide⟩ (l_cell G hL) (fun args s U q hW hH => ⟨((q.2.1).moved hW.alike).kept (hH b q.2.2), q.2.2⟩) (fun U g mk a q => ⟨va_X.moved (u := U) (U := U.calling g mk a) (Vm.Alike.refl U.vm) q.1, q.2⟩) rfl rfl (Nat.le_of_ble_eq_true rfl) (Nat.le_of_ble_eq_true rfl) (Nat.le_of_ble_eq_true rfl) (fun rr h2 q => ?_)
  obtain ⟨v, e1, e2, e3⟩ := q
  rw [e1, e2, e3]
  refine qi_V (As := [.int (cellV Ln xs 0)]) dL_law_9 mL_21 (c_csInit0 G (cellV Ln xs 0) hsc n1 g1) rfl rfl rfl rfl rfl rfl (fun h3 p3 => ?_)
  obtain ⟨r, sgn, k0, nb, rc, a1, a2, a3, a4, a5, f1, f2, f3, f4, f5, d0, go, gr, gs, gk, gn, gc, o3⟩ := p3
  refine qp_astore_n dL_law_12 (by decide) ?_
  refine QP.locsE (L1 := [some (.ref b), some (.ref o0), none, none, none, none, none, none]) rfl ?_
  refine qk_new dL_law_13 nL_24 rfl rfl rfl (fun m0 h4 n4 z4 g4 o4 => ?_)
  have g4 : h4 m0 = some (.inr (5, [.int (0), .int (0), .null, .int (0), .null, .null, .int (0), .null, .null, .int (0), .null, .int (0), .int (0), .int (0)])) := g4
  have go4 := (o4 _ (ne_of_none go z4)).trans go
  have gr4 := (o4 _ (ne_of_none gr z4)).trans gr
  have gs4 := (o4 _ (ne_of_none gs z4)).trans gs
  have gk4 := (o4 _ (ne_of_none gk z4)).trans gk
  have gn4 := (o4 _ (ne_of_none gn z4)).trans gn
  have gc4 := (o4 _ (ne_of_none gc z4)).trans gc
  refine qp_dup dL_law_16 rfl ?_
  refine qp_aload_n dL_law_17 rfl ?_
  refine qp_iconst (v := 0) dL_law_18 (by decide) ?_
  refine qp_callSE (n := 2) (As := [.ref b, .int 0]) (M' := M_L_cell) (P := cP G.2.1 b Ln xs) dL_law_19 mL_15 ⟨by decide, by decide⟩ (l_cell G hL) (fun args s U q hW hH => ⟨((q.2.1).moved hW.alike).kept (hH b q.2.2), q.2.2⟩) (fun U g mk a q => ⟨va_X.moved (u := U) (U := U.calling g mk a) (Vm.Alike.refl U.vm) q.1, q.2⟩) rfl rfl (Nat.le_of_ble_eq_true rfl) (Nat.le_of_ble_eq_true rfl) (Nat.le_of_ble_eq_true rfl) (fun rr h5 q => ?_)
  obtain ⟨v', e1', e2', e3'⟩ := q
  rw [e1', e2', e3']
  refine qi_V (As := [.int (cellV Ln xs 0)]) dL_law_22 mL_26 (m_init0 G (cellV Ln xs 0) (fun q => absurd hsc (i32_nlt.mpr q)) n4 g4) rfl rfl rfl rfl rfl rfl (fun h6 p6 => ?_)
  obtain ⟨sa, nw, la, sh, rcm, bf, b1, b2, b3, b4, b5, b6, y1, y2, y3, y4, y5, y6, d1, d2, d3, gm, gsa, gnw, gla, gsh, grm, gbf, o6⟩ := p6
  have k6 : ∀ {q : Nat} {e : qE}, h4 q = some e → q ≠ m0 → h6 q = some e := fun hq hn => (o6 _ hn (ne_of_none hq y1) (ne_of_none hq y2) (ne_of_none hq y3) (ne_of_none hq y4) (ne_of_none hq y5) (ne_of_none hq y6)).trans hq
  have go6 := k6 go4 (ne_of_cells go4 g4 (by simp))
  have gr6 := k6 gr4 (ne_of_cells gr4 g4 (by simp))
  have gs6 := k6 gs4 (ne_of_cells gs4 g4 (by simp))
  have gk6 := k6 gk4 (ne_of_cells gk4 g4 (by simp))
  have gn6 := k6 gn4 (ne_of_cells gn4 g4 (by simp))
  have gc6 := k6 gc4 (ne_of_cells gc4 g4 (by simp))
  have s1 : sgn ≠ rcm := ne_of_none gs4 y5
  have s2 : rc ≠ rcm := ne_of_none gc4 y5
  refine qp_astore_n dL_law_25 (by decide) ?_
  refine QP.locsE (L1 := [some (.ref b), some (.ref o0), some (.ref m0), none, none, none, none, none]) rfl ?_
  refine qp_iconst (v := 1) dL_law_26 (by decide) ?_
  refine qk_newaL 1 dL_law_27 acL (by decide) (by decide) (by decide) rfl rfl (fun ou h7 n7 z7 g7 o7 => ?_)
  have k7 : ∀ {q : Nat} {e : qE}, h6 q = some e → h7 q = some e := fun hq => (o7 _ (ne_of_none hq z7)).trans hq
  refine qp_astore_n dL_law_29 (by decide) ?_
  refine QP.locsE (L1 := [some (.ref b), some (.ref o0), some (.ref m0), some (.ref ou), none, none, none, none]) rfl ?_
  refine qp_iconst (v := 1) dL_law_30 (by decide) ?_
  refine qp_istore dL_law_31 (by decide) ?_
  refine QP.locsE (L1 := L8 b o0 m0 ou 1) rfl ?_
  have C : CS G h7 o0 r sgn k0 nb rc 0 0 0 none none (fun _ => 0) (fun _ => 0) (fun _ => none) (fun _ => cnNew) := ⟨n1, a1, a2, a3, a4, a5, d0, k7 go6, ⟨0, k7 gr6⟩, k7 gs6, k7 gk6, k7 gn6, k7 gc6, fun i hi => absurd hi (by omega)⟩
  have M : MS G h7 m0 sa nw la sh rcm bf 0 0 0 0 0 (fun _ => 0) (fun _ => 0) (fun _ => 0) (fun _ => 0) (fun _ => 0) := ⟨n4, b1, b2, b3, b4, b5, b6, d1, d2, d3, ⟨0, 0, 0, k7 gm⟩, k7 gsa, ⟨_, k7 gnw⟩, k7 gla, k7 gsh, k7 grm, k7 gbf⟩
  refine law_loop ht hL hend Ln 1 h7 _ _ (by omega) (by omega) ⟨0, 1, 9, r, sgn, k0, nb, rc, 0, 0, none, none, _, _, _, _, sa, nw, la, sh, rcm, bf, 0, 0, _, _, _, _, Or.inl ⟨rfl, rfl, rfl⟩, by omega, by omega, s1, s2, C, M, ⟨n7, _, g7⟩, fun i hi => absurd hi (by omega), ⟨fun i hi => absurd hi (by omega), fun i j h1 h2 => absurd h2 (by omega)⟩, Or.inl ⟨rfl, rfl⟩, Or.inl ⟨rfl, rfl⟩⟩ (by decide) (by decide)
set_option maxHeartbeats 4000000 in
set_option maxRecDepth 100000 in
theorem law_start1 (hsc : ¬ cellV Ln xs 0 < 1) (ht : G.1.stackTraces = false) (hL : Ln ≤ 1537) (hend : ∀ (L : List (Option Value)) (h : qH) (cn sn : Nat), cn ≤ 601024 → sn ≤ 7293000 → QP G M_law (lE G b Ln xs) Z 423 L [.int 1] h cn sn) : QP G M_law (lE G b Ln xs) Z 0 [some (.ref b), none, none, none, none, none, none, none] [] (fun _ => none) 0 0 := by
  refine qk_new dL_law_0 nL_8 rfl rfl rfl (fun o0 h1 n1 z1 g1 o1 => ?_)
  have g1 : h1 o0 = some (.inr (4, [.null, .null, .null, .null])) := g1
  refine qp_dup dL_law_3 rfl ?_
  refine qp_aload_n dL_law_4 rfl ?_
  refine qp_iconst (v := 0) dL_law_5 (by decide) ?_
  refine qp_callSE (n := 2) (As := [.ref b, .int 0]) (M' := M_L_cell) (P := cP G.2.1 b Ln xs) dL_law_6 mL_15 ⟨by decide, by decide⟩ (l_cell G hL) (fun args s U q hW hH => ⟨((q.2.1).moved hW.alike).kept (hH b q.2.2), q.2.2⟩) (fun U g mk a q => ⟨va_X.moved (u := U) (U := U.calling g mk a) (Vm.Alike.refl U.vm) q.1, q.2⟩) rfl rfl (Nat.le_of_ble_eq_true rfl) (Nat.le_of_ble_eq_true rfl) (Nat.le_of_ble_eq_true rfl) (fun rr h2 q => ?_)
  obtain ⟨v, e1, e2, e3⟩ := q
  rw [e1, e2, e3]
  refine qi_V (As := [.int (cellV Ln xs 0)]) dL_law_9 mL_21 (c_csInit1 G (cellV Ln xs 0) hsc n1 g1) rfl rfl rfl rfl rfl rfl (fun h3 p3 => ?_)
  obtain ⟨r, sgn, k0, nb, rc, a1, a2, a3, a4, a5, f1, f2, f3, f4, f5, d0, go, gr, gs, gk, gn, gc, o3⟩ := p3
  refine qp_astore_n dL_law_12 (by decide) ?_
  refine QP.locsE (L1 := [some (.ref b), some (.ref o0), none, none, none, none, none, none]) rfl ?_
  refine qk_new dL_law_13 nL_24 rfl rfl rfl (fun m0 h4 n4 z4 g4 o4 => ?_)
  have g4 : h4 m0 = some (.inr (5, [.int (0), .int (0), .null, .int (0), .null, .null, .int (0), .null, .null, .int (0), .null, .int (0), .int (0), .int (0)])) := g4
  have go4 := (o4 _ (ne_of_none go z4)).trans go
  have gr4 := (o4 _ (ne_of_none gr z4)).trans gr
  have gs4 := (o4 _ (ne_of_none gs z4)).trans gs
  have gk4 := (o4 _ (ne_of_none gk z4)).trans gk
  have gn4 := (o4 _ (ne_of_none gn z4)).trans gn
  have gc4 := (o4 _ (ne_of_none gc z4)).trans gc
  refine qp_dup dL_law_16 rfl ?_
  refine qp_aload_n dL_law_17 rfl ?_
  refine qp_iconst (v := 0) dL_law_18 (by decide) ?_
  refine qp_callSE (n := 2) (As := [.ref b, .int 0]) (M' := M_L_cell) (P := cP G.2.1 b Ln xs) dL_law_19 mL_15 ⟨by decide, by decide⟩ (l_cell G hL) (fun args s U q hW hH => ⟨((q.2.1).moved hW.alike).kept (hH b q.2.2), q.2.2⟩) (fun U g mk a q => ⟨va_X.moved (u := U) (U := U.calling g mk a) (Vm.Alike.refl U.vm) q.1, q.2⟩) rfl rfl (Nat.le_of_ble_eq_true rfl) (Nat.le_of_ble_eq_true rfl) (Nat.le_of_ble_eq_true rfl) (fun rr h5 q => ?_)
  obtain ⟨v', e1', e2', e3'⟩ := q
  rw [e1', e2', e3']
  refine qi_V (As := [.int (cellV Ln xs 0)]) dL_law_22 mL_26 (m_init1 G (cellV Ln xs 0) (i32_nlt.mp hsc) n4 g4) rfl rfl rfl rfl rfl rfl (fun h6 p6 => ?_)
  obtain ⟨sa, nw, la, sh, rcm, bf, b1, b2, b3, b4, b5, b6, y1, y2, y3, y4, y5, y6, d1, d2, d3, gm, gsa, gnw, gla, gsh, grm, gbf, o6⟩ := p6
  have k6 : ∀ {q : Nat} {e : qE}, h4 q = some e → q ≠ m0 → h6 q = some e := fun hq hn => (o6 _ hn (ne_of_none hq y1) (ne_of_none hq y2) (ne_of_none hq y3) (ne_of_none hq y4) (ne_of_none hq y5) (ne_of_none hq y6)).trans hq
  have go6 := k6 go4 (ne_of_cells go4 g4 (by simp))
  have gr6 := k6 gr4 (ne_of_cells gr4 g4 (by simp))
  have gs6 := k6 gs4 (ne_of_cells gs4 g4 (by simp))
  have gk6 := k6 gk4 (ne_of_cells gk4 g4 (by simp))
  have gn6 := k6 gn4 (ne_of_cells gn4 g4 (by simp))
  have gc6 := k6 gc4 (ne_of_cells gc4 g4 (by simp))
  have s1 : sgn ≠ rcm := ne_of_none gs4 y5
  have s2 : rc ≠ rcm := ne_of_none gc4 y5
  refine qp_astore_n dL_law_25 (by decide) ?_
  refine QP.locsE (L1 := [some (.ref b), some (.ref o0), some (.ref m0), none, none, none, none, none]) rfl ?_
  refine qp_iconst (v := 1) dL_law_26 (by decide) ?_
  refine qk_newaL 1 dL_law_27 acL (by decide) (by decide) (by decide) rfl rfl (fun ou h7 n7 z7 g7 o7 => ?_)
  have k7 : ∀ {q : Nat} {e : qE}, h6 q = some e → h7 q = some e := fun hq => (o7 _ (ne_of_none hq z7)).trans hq
  refine qp_astore_n dL_law_29 (by decide) ?_
  refine QP.locsE (L1 := [some (.ref b), some (.ref o0), some (.ref m0), some (.ref ou), none, none, none, none]) rfl ?_
  refine qp_iconst (v := 1) dL_law_30 (by decide) ?_
  refine qp_istore dL_law_31 (by decide) ?_
  refine QP.locsE (L1 := L8 b o0 m0 ou 1) rfl ?_
  have C : CS G h7 o0 r sgn k0 nb rc 0 0 1 none none (fun _ => 0) (fun _ => 0) (fun _ => none) (fun _ => cnNew) := ⟨n1, a1, a2, a3, a4, a5, d0, k7 go6, ⟨0, k7 gr6⟩, k7 gs6, k7 gk6, k7 gn6, k7 gc6, fun i hi => absurd hi (by omega)⟩
  have M : MS G h7 m0 sa nw la sh rcm bf 0 0 1 0 0 (fun _ => 0) (fun _ => 0) (fun _ => 0) (fun _ => 0) (fun _ => 0) := ⟨n4, b1, b2, b3, b4, b5, b6, d1, d2, d3, ⟨0, 0, 0, k7 gm⟩, k7 gsa, ⟨_, k7 gnw⟩, k7 gla, k7 gsh, k7 grm, k7 gbf⟩
  refine law_loop ht hL hend Ln 1 h7 _ _ (by omega) (by omega) ⟨1, 0, 4, r, sgn, k0, nb, rc, 0, 0, none, none, _, _, _, _, sa, nw, la, sh, rcm, bf, 0, 0, _, _, _, _, Or.inr ⟨rfl, rfl, rfl⟩, by omega, by omega, s1, s2, C, M, ⟨n7, _, g7⟩, fun i hi => absurd hi (by omega), ⟨fun i hi => absurd hi (by omega), fun i j h1 h2 => absurd h2 (by omega)⟩, Or.inl ⟨rfl, rfl⟩, Or.inl ⟨rfl, rfl⟩⟩ (by decide) (by decide)
theorem law_start (ht : G.1.stackTraces = false) (hL : Ln ≤ 1537) (hend : ∀ (L : List (Option Value)) (h : qH) (cn sn : Nat), cn ≤ 601024 → sn ≤ 7293000 → QP G M_law (lE G b Ln xs) Z 423 L [.int 1] h cn sn) : QP G M_law (lE G b Ln xs) Z 0 [some (.ref b), none, none, none, none, none, none, none] [] (fun _ => none) 0 0 := by
  by_cases q : cellV Ln xs 0 < 1
  · exact law_start0 q ht hL hend
  · exact law_start1 q ht hL hend
end LWL
