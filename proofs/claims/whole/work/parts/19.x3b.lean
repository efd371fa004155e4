abbrev csCell (r k0 : Nat) (lat tol : Option Nat) : qE := .inr (4, [.ref r, .ref k0, va_rf lat, va_rf tol])
set_option maxHeartbeats 4000000 in
set_option maxRecDepth 100000 in
theorem c_letterN (G : qG) {h : qH} {o0 r k0 : Nat} {tol : Option Nat} (i : Int32) (go : h o0 = some (csCell r k0 none tol)) : qMet G M_X3_letter [.ref o0, .int i] h (qI (fun v h1 => h1 = h ∧ v = 0)) := by
  refine qMet.of (by decide) (Nat.le_of_ble_eq_true rfl) rfl ?_
  refine QP.locsE (L1 := [some (.ref o0), some (.int (i))]) rfl ?_
  refine qp_aload_n dX3_letter_0 rfl ?_
  refine qp_getf dX3_letter_1 fX3_25 go rfl ?_
  refine qp_ifnonnullN dX3_letter_4 ?_
  refine qp_iconst (v := 0) dX3_letter_7 (by decide) ?_
  refine qp_goto 19 dX3_letter_8 (by decide) ?_
  exact qr_i dX3_letter_19 rfl rfl rfl ⟨rfl, rfl⟩
set_option maxHeartbeats 4000000 in
set_option maxRecDepth 100000 in
theorem c_letter (G : qG) {h : qH} {o0 r k0 a ln : Nat} {tol : Option Nat} {x : CNv} (i : Int32) (go : h o0 = some (csCell r k0 (some a) tol)) (ga : h a = some (cnCell x ln)) : qMet G M_X3_letter [.ref o0, .int i] h (qI (fun v h1 => h1 = h ∧ v = sCapitalAt x i)) := by
  refine qMet.of (by decide) (Nat.le_of_ble_eq_true rfl) rfl ?_
  refine QP.locsE (L1 := [some (.ref o0), some (.int (i))]) rfl ?_
  refine qp_aload_n dX3_letter_0 rfl ?_
  refine qp_getf dX3_letter_1 fX3_25 go rfl ?_
  refine qp_ifnonnull 11 dX3_letter_4 (by decide) ?_
  refine qp_aload_n dX3_letter_11 rfl ?_
  refine qp_getf dX3_letter_12 fX3_25 go rfl ?_
  refine qp_iload_n dX3_letter_15 rfl ?_
  refine qv_Ip dX3_letter_16 mX3_76 (c_capitalAt G (i) ga) ga rfl rfl rfl rfl rfl rfl rfl ?_
  exact qr_i dX3_letter_19 rfl rfl rfl ⟨rfl, rfl⟩
set_option maxHeartbeats 4000000 in
set_option maxRecDepth 100000 in
theorem c_spineN (G : qG) {h : qH} {o0 r k0 : Nat} {tol : Option Nat} (i : Int32) (go : h o0 = some (csCell r k0 none tol)) : qMet G M_X3_spine [.ref o0, .int i] h (qI (fun v h1 => h1 = h ∧ v = -1)) := by
  refine qMet.of (by decide) (Nat.le_of_ble_eq_true rfl) rfl ?_
  refine QP.locsE (L1 := [some (.ref o0), some (.int (i))]) rfl ?_
  refine qp_aload_n dX3_spine_0 rfl ?_
  refine qp_getf dX3_spine_1 fX3_25 go rfl ?_
  refine qp_ifnonnullN dX3_spine_4 ?_
  refine qp_iconst (v := -1) dX3_spine_7 (by decide) ?_
  refine qp_goto 19 dX3_spine_8 (by decide) ?_
  exact qr_i dX3_spine_19 rfl rfl rfl ⟨rfl, rfl⟩
set_option maxHeartbeats 4000000 in
set_option maxRecDepth 100000 in
theorem c_spine (G : qG) {h : qH} {o0 r k0 a ln : Nat} {tol : Option Nat} {x : CNv} {f : Nat → Int32} (i : Int32) (go : h o0 = some (csCell r k0 (some a) tol)) (ga : h a = some (cnCell x ln)) (gl : h ln = some (lnCell f)) : qMet G M_X3_spine [.ref o0, .int i] h (qI (fun v h1 => h1 = h ∧ v = sLineAt x.lc f i)) := by
  refine qMet.of (by decide) (Nat.le_of_ble_eq_true rfl) rfl ?_
  refine QP.locsE (L1 := [some (.ref o0), some (.int (i))]) rfl ?_
  refine qp_aload_n dX3_spine_0 rfl ?_
  refine qp_getf dX3_spine_1 fX3_25 go rfl ?_
  refine qp_ifnonnull 11 dX3_spine_4 (by decide) ?_
  refine qp_aload_n dX3_spine_11 rfl ?_
  refine qp_getf dX3_spine_12 fX3_25 go rfl ?_
  refine qp_iload_n dX3_spine_15 rfl ?_
  refine qv_Ip dX3_spine_16 mX3_113 (c_lineAt G (i) ga gl) ga rfl rfl rfl rfl rfl rfl rfl ?_
  exact qr_i dX3_spine_19 rfl rfl rfl ⟨rfl, rfl⟩
set_option maxHeartbeats 4000000 in
set_option maxRecDepth 100000 in
theorem c_shelf (G : qG) {h : qH} {o0 r k0 nb rc c : Nat} {lat tol : Option Nat} {R : Nat → Int32} (p : Int32) (go : h o0 = some (csCell r k0 lat tol)) (hc : c ≤ 60) (gk : h k0 = some (shCell nb rc (nI c))) (gr : h rc = some (rcCell R)) : qMet G M_X3_shelf [.ref o0, .int p] h (qI (fun v h1 => h1 = h ∧ v = sRecAt c R p)) := by
  refine qMet.of (by decide) (Nat.le_of_ble_eq_true rfl) rfl ?_
  refine QP.locsE (L1 := [some (.ref o0), some (.int (p))]) rfl ?_
  refine qp_aload_n dX3_shelf_0 rfl ?_
  refine qp_getf dX3_shelf_1 fX3_21 go rfl ?_
  refine qp_iload_n dX3_shelf_4 rfl ?_
  refine qv_Ip dX3_shelf_5 mX3_92 (c_recordAt G (p) hc gk gr) gk rfl rfl rfl rfl rfl rfl rfl ?_
  exact qr_i dX3_shelf_8 rfl rfl rfl ⟨rfl, rfl⟩
set_option maxHeartbeats 4000000 in
set_option maxRecDepth 100000 in
theorem c_beforeN (G : qG) {h : qH} {o0 r k0 : Nat} {tol : Option Nat} (go : h o0 = some (csCell r k0 none tol)) : qMet G M_X3_before [.ref o0] h (qI (fun v h1 => h1 = h ∧ v = -1)) := by
  refine qMet.of (by decide) (Nat.le_of_ble_eq_true rfl) rfl ?_
  refine QP.locsE (L1 := [some (.ref o0)]) rfl ?_
  refine qp_aload_n dX3_before_0 rfl ?_
  refine qp_getf dX3_before_1 fX3_25 go rfl ?_
  refine qp_ifnonnullN dX3_before_4 ?_
  refine qp_iconst (v := -1) dX3_before_7 (by decide) ?_
  refine qp_goto 22 dX3_before_8 (by decide) ?_
  exact qr_i dX3_before_22 rfl rfl rfl ⟨rfl, rfl⟩
set_option maxHeartbeats 4000000 in
set_option maxRecDepth 100000 in
theorem c_before (G : qG) {h : qH} {o0 r k0 nb rc a ln c : Nat} {tol : Option Nat} {N : Nat → Option Nat} {X : Nat → CNv} {y : CNv} (go : h o0 = some (csCell r k0 (some a) tol)) (hc : c ≤ 60) (gk : h k0 = some (shCell nb rc (nI c))) (gn : h nb = some (nbCell N)) (hok : ShOk h c N X) (ga : h a = some (cnCell y ln)) : qMet G M_X3_before [.ref o0] h (qI (fun v h1 => h1 = h ∧ v = nI (cntB X y c))) := by
  refine qMet.of (by decide) (Nat.le_of_ble_eq_true rfl) rfl ?_
  refine QP.locsE (L1 := [some (.ref o0)]) rfl ?_
  refine qp_aload_n dX3_before_0 rfl ?_
  refine qp_getf dX3_before_1 fX3_25 go rfl ?_
  refine qp_ifnonnull 11 dX3_before_4 (by decide) ?_
  refine qp_aload_n dX3_before_11 rfl ?_
  refine qp_getf dX3_before_12 fX3_21 go rfl ?_
  refine qp_aload_n dX3_before_15 rfl ?_
  refine qp_getf dX3_before_16 fX3_25 go rfl ?_
  refine qv_Ip dX3_before_19 mX3_80 (c_countBefore G hc gk gn hok ga) gk rfl rfl rfl rfl rfl rfl rfl ?_
  exact qr_i dX3_before_22 rfl rfl rfl ⟨rfl, rfl⟩
theorem sNumAt_some {h : qH} {c : Nat} {N : Nat → Option Nat} {X : Nat → CNv} {p : Int32} (hc : c ≤ 60) (hok : ShOk h c N X) (hp : sHas c p = true) : ∃ a ln, sNumAt c N p = some a ∧ h a = some (cnCell (X p.toNatClampNeg) ln) := by
  have hin := sHas_in hp hc
  obtain ⟨j, hj, e⟩ := vp_in_of hin (by decide)
  subst e
  have hjc : j < c := by
    simp only [sHas, decide_eq_true_eq] at hp
    rw [nI_toInt (by omega)] at hp
    omega
  obtain ⟨a, ln, e1, e2⟩ := hok j hjc
  refine ⟨a, ln, ?_, ?_⟩
  · rw [sNumAt, if_pos hp, nI_clamp (by omega), e1]
  · rw [nI_clamp (by omega)]; exact e2
theorem sNumAt_none {c : Nat} {N : Nat → Option Nat} {p : Int32} (hp : sHas c p = false) : sNumAt c N p = none := by
  rw [sNumAt, if_neg (by rw [hp]; decide)]
def sCompare (c : Nat) (X : Nat → CNv) (a b : Int32) : Int32 := if sHas c a = true ∧ sHas c b = true then sOrder (X a.toNatClampNeg) (X b.toNatClampNeg) else -2
set_option maxHeartbeats 4000000 in
set_option maxRecDepth 100000 in
theorem c_compare (G : qG) {h : qH} {o0 r k0 nb rc c : Nat} {lat tol : Option Nat} {N : Nat → Option Nat} {X : Nat → CNv} (p1 p2 : Int32) (go : h o0 = some (csCell r k0 lat tol)) (hc : c ≤ 60) (gk : h k0 = some (shCell nb rc (nI c))) (gn : h nb = some (nbCell N)) (hok : ShOk h c N X) : qMet G M_X3_compare [.ref o0, .int p1, .int p2] h (qI (fun v h1 => h1 = h ∧ v = sCompare c X p1 p2)) := by
  refine qMet.of (by decide) (Nat.le_of_ble_eq_true rfl) rfl ?_
  rcases Bool.eq_false_or_eq_true (sHas c p1) with h1 | h1 <;> rcases Bool.eq_false_or_eq_true (sHas c p2) with h2 | h2
  · obtain ⟨a1, ln1, e1, g1⟩ := sNumAt_some hc hok h1
    obtain ⟨a2, ln2, e2, g2⟩ := sNumAt_some hc hok h2
    refine QP.locsE (L1 := [some (.ref o0), some (.int (p1)), some (.int (p2)), none, none]) rfl ?_
    refine qp_aload_n dX3_compare_0 rfl ?_
    refine qp_getf dX3_compare_1 fX3_21 go rfl ?_
    refine qp_iload_n dX3_compare_4 rfl ?_
    refine qv_Ap dX3_compare_5 mX3_98 (c_numberAt G (p1) hc gk gn) gk rfl rfl rfl rfl rfl rfl rfl ?_
    refine QP.topO (y := some a1) e1 ?_
    refine qp_astore_n dX3_compare_8 (by decide) ?_
    refine QP.locsE (L1 := [some (.ref o0), some (.int (p1)), some (.int (p2)), some (.ref a1), none]) rfl ?_
    refine qp_aload_n dX3_compare_9 rfl ?_
    refine qp_getf dX3_compare_10 fX3_21 go rfl ?_
    refine qp_iload_n dX3_compare_13 rfl ?_
    refine qv_Ap dX3_compare_14 mX3_98 (c_numberAt G (p2) hc gk gn) gk rfl rfl rfl rfl rfl rfl rfl ?_
    refine QP.topO (y := some a2) e2 ?_
    refine qp_astore dX3_compare_17 (by decide) ?_
    refine QP.locsE (L1 := [some (.ref o0), some (.int (p1)), some (.int (p2)), some (.ref a1), some (.ref a2)]) rfl ?_
    refine qp_aload_n dX3_compare_19 rfl ?_
    refine qp_ifnull dX3_compare_20 ?_
    refine qp_aload dX3_compare_23 rfl ?_
    refine qp_ifnonnull 31 dX3_compare_25 (by decide) ?_
    refine qp_aload_n dX3_compare_31 rfl ?_
    refine qp_aload dX3_compare_32 rfl ?_
    refine qs_Ip dX3_compare_34 mX3_102 (c_order G g1 g2) rfl rfl rfl rfl rfl rfl ?_
    exact qr_i dX3_compare_37 rfl rfl rfl ⟨rfl, by simp only [sCompare]; rw [if_pos ⟨h1, h2⟩]⟩
  · obtain ⟨a1, ln1, e1, g1⟩ := sNumAt_some hc hok h1
    have e2 := sNumAt_none (N := N) h2
    refine QP.locsE (L1 := [some (.ref o0), some (.int (p1)), some (.int (p2)), none, none]) rfl ?_
    refine qp_aload_n dX3_compare_0 rfl ?_
    refine qp_getf dX3_compare_1 fX3_21 go rfl ?_
    refine qp_iload_n dX3_compare_4 rfl ?_
    refine qv_Ap dX3_compare_5 mX3_98 (c_numberAt G (p1) hc gk gn) gk rfl rfl rfl rfl rfl rfl rfl ?_
    refine QP.topO (y := some a1) e1 ?_
    refine qp_astore_n dX3_compare_8 (by decide) ?_
    refine QP.locsE (L1 := [some (.ref o0), some (.int (p1)), some (.int (p2)), some (.ref a1), none]) rfl ?_
    refine qp_aload_n dX3_compare_9 rfl ?_
    refine qp_getf dX3_compare_10 fX3_21 go rfl ?_
    refine qp_iload_n dX3_compare_13 rfl ?_
    refine qv_Ap dX3_compare_14 mX3_98 (c_numberAt G (p2) hc gk gn) gk rfl rfl rfl rfl rfl rfl rfl ?_
    refine QP.topO (y := none) e2 ?_
    refine qp_astoreN dX3_compare_17 (by decide) ?_
    refine QP.locsE (L1 := [some (.ref o0), some (.int (p1)), some (.int (p2)), some (.ref a1), some (.null)]) rfl ?_
    refine qp_aload_n dX3_compare_19 rfl ?_
    refine qp_ifnull dX3_compare_20 ?_
    refine qp_aloadN dX3_compare_23 rfl ?_
    refine qp_ifnonnullN dX3_compare_25 ?_
    refine qp_bipush (v := -2) dX3_compare_28 (by decide) ?_
    exact qr_i dX3_compare_30 rfl rfl rfl ⟨rfl, by simp only [sCompare]; rw [if_neg (fun q => by rw [h2] at q; exact absurd q.2 (by decide))]⟩
  · have e1 := sNumAt_none (N := N) h1
    obtain ⟨a2, ln2, e2, g2⟩ := sNumAt_some hc hok h2
    refine QP.locsE (L1 := [some (.ref o0), some (.int (p1)), some (.int (p2)), none, none]) rfl ?_
    refine qp_aload_n dX3_compare_0 rfl ?_
    refine qp_getf dX3_compare_1 fX3_21 go rfl ?_
    refine qp_iload_n dX3_compare_4 rfl ?_
    refine qv_Ap dX3_compare_5 mX3_98 (c_numberAt G (p1) hc gk gn) gk rfl rfl rfl rfl rfl rfl rfl ?_
    refine QP.topO (y := none) e1 ?_
    refine qp_astore_nN dX3_compare_8 (by decide) ?_
    refine QP.locsE (L1 := [some (.ref o0), some (.int (p1)), some (.int (p2)), some (.null), none]) rfl ?_
    refine qp_aload_n dX3_compare_9 rfl ?_
    refine qp_getf dX3_compare_10 fX3_21 go rfl ?_
    refine qp_iload_n dX3_compare_13 rfl ?_
    refine qv_Ap dX3_compare_14 mX3_98 (c_numberAt G (p2) hc gk gn) gk rfl rfl rfl rfl rfl rfl rfl ?_
    refine QP.topO (y := some a2) e2 ?_
    refine qp_astore dX3_compare_17 (by decide) ?_
    refine QP.locsE (L1 := [some (.ref o0), some (.int (p1)), some (.int (p2)), some (.null), some (.ref a2)]) rfl ?_
    refine qp_aload_nN dX3_compare_19 rfl ?_
    refine qp_ifnullN 28 dX3_compare_20 (by decide) ?_
    refine qp_bipush (v := -2) dX3_compare_28 (by decide) ?_
    exact qr_i dX3_compare_30 rfl rfl rfl ⟨rfl, by simp only [sCompare]; rw [if_neg (fun q => by rw [h1] at q; exact absurd q.1 (by decide))]⟩
  · have e1 := sNumAt_none (N := N) h1
    have e2 := sNumAt_none (N := N) h2
    refine QP.locsE (L1 := [some (.ref o0), some (.int (p1)), some (.int (p2)), none, none]) rfl ?_
    refine qp_aload_n dX3_compare_0 rfl ?_
    refine qp_getf dX3_compare_1 fX3_21 go rfl ?_
    refine qp_iload_n dX3_compare_4 rfl ?_
    refine qv_Ap dX3_compare_5 mX3_98 (c_numberAt G (p1) hc gk gn) gk rfl rfl rfl rfl rfl rfl rfl ?_
    refine QP.topO (y := none) e1 ?_
    refine qp_astore_nN dX3_compare_8 (by decide) ?_
    refine QP.locsE (L1 := [some (.ref o0), some (.int (p1)), some (.int (p2)), some (.null), none]) rfl ?_
    refine qp_aload_n dX3_compare_9 rfl ?_
    refine qp_getf dX3_compare_10 fX3_21 go rfl ?_
    refine qp_iload_n dX3_compare_13 rfl ?_
    refine qv_Ap dX3_compare_14 mX3_98 (c_numberAt G (p2) hc gk gn) gk rfl rfl rfl rfl rfl rfl rfl ?_
    refine QP.topO (y := none) e2 ?_
    refine qp_astoreN dX3_compare_17 (by decide) ?_
    refine QP.locsE (L1 := [some (.ref o0), some (.int (p1)), some (.int (p2)), some (.null), some (.null)]) rfl ?_
    refine qp_aload_nN dX3_compare_19 rfl ?_
    refine qp_ifnullN 28 dX3_compare_20 (by decide) ?_
    refine qp_bipush (v := -2) dX3_compare_28 (by decide) ?_
    exact qr_i dX3_compare_30 rfl rfl rfl ⟨rfl, by simp only [sCompare]; rw [if_neg (fun q => by rw [h1] at q; exact absurd q.1 (by decide))]⟩
set_option maxHeartbeats 4000000 in
set_option maxRecDepth 100000 in
theorem c_signFull (G : qG) {h : qH} {o0 r sgn k0 c : Nat} {lat tol : Option Nat} {lt pp : Int32} {f : Nat → Int32} (ch : Int32) (hc : c = 60) (go : h o0 = some (csCell r k0 lat tol)) (gr : h r = some (rdCell lt sgn (nI c) pp)) (gs : h sgn = some (sgCell f)) : qMet G M_X3_sign [.ref o0, .int ch] h (qV (fun h1 => h1 = h)) := by
  refine qMet.of (by decide) (Nat.le_of_ble_eq_true rfl) rfl ?_
  refine QP.locsE (L1 := [some (.ref o0), some (.int (ch))]) rfl ?_
  refine qp_aload_n dX3_sign_0 rfl ?_
  refine qp_getf dX3_sign_1 fX3_12 go rfl ?_
  refine qp_iload_n dX3_sign_4 rfl ?_
  refine qp_sipush (v := 255) dX3_sign_5 (by decide) ?_
  refine qp_iand dX3_sign_8 ?_
  refine qv_V dX3_sign_9 mX3_32 (c_collectFull G ((ch) &&& (255)) hc gr gs) gr rfl rfl rfl rfl rfl rfl rfl (fun h2 p3 => ?_)
  obtain rfl := p3
  exact qr_v dX3_sign_12 rfl rfl rfl rfl
set_option maxHeartbeats 4000000 in
set_option maxRecDepth 100000 in
theorem c_sign (G : qG) {h : qH} {o0 r sgn k0 c : Nat} {lat tol : Option Nat} {lt pp : Int32} {f : Nat → Int32} (ch : Int32) (nr : G.2.1 ≤ r) (ns : G.2.1 ≤ sgn) (hc : c < 60) (go : h o0 = some (csCell r k0 lat tol)) (gr : h r = some (rdCell lt sgn (nI c) pp)) (gs : h sgn = some (sgCell f)) : qMet G M_X3_sign [.ref o0, .int ch] h (qV (fun h1 => h1 r = some (rdCell lt sgn (nI (c + 1)) pp) ∧ h1 sgn = some (sgCell (upd f c (ch &&& 255))) ∧ ∀ b : Nat, b ≠ r → b ≠ sgn → h1 b = h b)) := by
  refine qMet.of (by decide) (Nat.le_of_ble_eq_true rfl) rfl ?_
  refine QP.locsE (L1 := [some (.ref o0), some (.int (ch))]) rfl ?_
  refine qp_aload_n dX3_sign_0 rfl ?_
  refine qp_getf dX3_sign_1 fX3_12 go rfl ?_
  refine qp_iload_n dX3_sign_4 rfl ?_
  refine qp_sipush (v := 255) dX3_sign_5 (by decide) ?_
  refine qp_iand dX3_sign_8 ?_
  refine qv_V dX3_sign_9 mX3_32 (c_collect G ((ch) &&& (255)) nr ns hc gr gs) gr rfl rfl rfl rfl rfl rfl rfl (fun h2 p3 => ?_)
  obtain ⟨g4, g5, o6⟩ := p3
  have g7 : h2 o0 = some (.inr (4, [.ref r, .ref k0, va_rf (lat), va_rf (tol)])) := (o6 _ (ne_of_cells go gr (by simp)) (ne_of_cells go gs (by simp))).trans go
  have g4 : h2 r = some (.inr (2, [.int (lt), .ref sgn, .int (nI (c + 1)), .int (pp)])) := g4
  have g5 : h2 sgn = some (.inl (0, 60, .inl (upd f c ((ch) &&& (255))))) := g5
  exact qr_v dX3_sign_12 rfl rfl rfl ⟨g4, g5, fun b hb hb2 => (o6 b hb hb2)⟩
set_option maxHeartbeats 4000000 in
set_option maxRecDepth 100000 in
theorem c_takeNot (G : qG) {h : qH} {o0 r k0 nb rc c : Nat} {lat tol : Option Nat} {R : Nat → Int32} (p : Int32) (hp : sHas c p = false) (go : h o0 = some (csCell r k0 lat tol)) (hc : c ≤ 60) (gk : h k0 = some (shCell nb rc (nI c))) (gr : h rc = some (rcCell R)) : qMet G M_X3_take [.ref o0, .int p] h (qI (fun v h1 => h1 = h ∧ v = -1)) := by
  refine qMet.of (by decide) (Nat.le_of_ble_eq_true rfl) rfl ?_
  refine QP.locsE (L1 := [some (.ref o0), some (.int (p)), none]) rfl ?_
  refine qp_aload_n dX3_take_0 rfl ?_
  refine qp_getf dX3_take_1 fX3_21 go rfl ?_
  refine qp_iload_n dX3_take_4 rfl ?_
  refine qv_Ip dX3_take_5 mX3_92 (c_recordAt G (p) hc gk gr) gk rfl rfl rfl rfl rfl rfl rfl ?_
  refine qp_istore_n dX3_take_8 (by decide) ?_
  refine QP.locsE (L1 := [some (.ref o0), some (.int (p)), some (.int (sRecAt c R (p)))]) rfl ?_
  refine qp_aload_n dX3_take_9 rfl ?_
  refine qp_getf dX3_take_10 fX3_21 go rfl ?_
  refine qp_iload_n dX3_take_13 rfl ?_
  refine qv_V dX3_take_14 mX3_95 (c_removeNot G (p) hc hp gk) gk rfl rfl rfl rfl rfl rfl rfl (fun h5 p6 => ?_)
  obtain rfl := p6
  refine qp_iload_n dX3_take_17 rfl ?_
  exact qr_i dX3_take_18 rfl rfl rfl ⟨rfl, by rw [sRecAt, if_neg (by rw [hp]; decide)]⟩
set_option maxHeartbeats 4000000 in
set_option maxRecDepth 100000 in
theorem c_take (G : qG) {h : qH} {o0 r k0 nb rc c : Nat} {lat tol : Option Nat} {N : Nat → Option Nat} {R : Nat → Int32} {X : Nat → CNv} (j : Nat) (nk : G.2.1 ≤ k0) (nn : G.2.1 ≤ nb) (nr : G.2.1 ≤ rc) (hj : j < c) (go : h o0 = some (csCell r k0 lat tol)) (hc : c ≤ 60) (gk : h k0 = some (shCell nb rc (nI c))) (gn : h nb = some (nbCell N)) (gr : h rc = some (rcCell R)) (hok : ShOk h c N X) : qMet G M_X3_take [.ref o0, .int (nI j)] h (qI (fun v h1 => v = R j ∧ h1 k0 = some (shCell nb rc (nI (c - 1))) ∧ h1 nb = some (nbCell (remF N j c)) ∧ h1 rc = some (rcCell (shD R j (c - 1))) ∧ ∀ b : Nat, b ≠ k0 → b ≠ nb → b ≠ rc → h1 b = h b)) := by
  refine qMet.of (by decide) (Nat.le_of_ble_eq_true rfl) rfl ?_
  refine QP.locsE (L1 := [some (.ref o0), some (.int (nI j)), none]) rfl ?_
  refine qp_aload_n dX3_take_0 rfl ?_
  refine qp_getf dX3_take_1 fX3_21 go rfl ?_
  refine qp_iload_n dX3_take_4 rfl ?_
  refine qv_Ip dX3_take_5 mX3_92 (c_recordAt G (nI j) hc gk gr) gk rfl rfl rfl rfl rfl rfl rfl ?_
  refine qp_istore_n dX3_take_8 (by decide) ?_
  refine QP.locsE (L1 := [some (.ref o0), some (.int (nI j)), some (.int (sRecAt c R (nI j)))]) rfl ?_
  refine qp_aload_n dX3_take_9 rfl ?_
  refine qp_getf dX3_take_10 fX3_21 go rfl ?_
  refine qp_iload_n dX3_take_13 rfl ?_
  refine qv_V dX3_take_14 mX3_95 (c_remove G j nk nn nr hc hj gk gn gr hok) gk rfl rfl rfl rfl rfl rfl rfl (fun h5 p6 => ?_)
  obtain ⟨g7, g8, g9, o10⟩ := p6
  have g11 : h5 o0 = some (.inr (4, [.ref r, .ref k0, va_rf (lat), va_rf (tol)])) := (o10 _ (ne_of_cells go gk (by simp)) (ne_of_cells go gn (by simp)) (ne_of_cells go gr (by simp))).trans go
  have g7 : h5 k0 = some (.inr (3, [.ref nb, .ref rc, .int (nI (c - 1))])) := g7
  have g8 : h5 nb = some (.inl (3, 60, .inr (.inr (.inr (.inr (remF N j c)))))) := g8
  have g9 : h5 rc = some (.inl (0, 60, .inl (shD R j (c - 1)))) := g9
  refine qp_iload_n dX3_take_17 rfl ?_
  exact qr_i dX3_take_18 rfl rfl rfl ⟨by rw [sRecAt, if_pos (sHas_nI hj hc), nI_clamp (by omega)], g7, g8, g9, fun b hb1 hb2 hb3 => (o10 b hb1 hb2 hb3)⟩
set_option maxHeartbeats 4000000 in
set_option maxRecDepth 100000 in
theorem c_putN (G : qG) {h : qH} {o0 r k0 : Nat} {tol : Option Nat} (rec : Int32) (go : h o0 = some (csCell r k0 none tol)) : qMet G M_X3_put [.ref o0, .int rec] h (qI (fun v h1 => h1 = h ∧ v = -1)) := by
  refine qMet.of (by decide) (Nat.le_of_ble_eq_true rfl) rfl ?_
  refine QP.locsE (L1 := [some (.ref o0), some (.int (rec)), none]) rfl ?_
  refine qp_aload_n dX3_put_0 rfl ?_
  refine qp_getf dX3_put_1 fX3_25 go rfl ?_
  refine qp_ifnonnullN dX3_put_4 ?_
  refine qp_iconst (v := -1) dX3_put_7 (by decide) ?_
  exact qr_i dX3_put_8 rfl rfl rfl ⟨rfl, rfl⟩
set_option maxHeartbeats 4000000 in
set_option maxRecDepth 100000 in
theorem c_putSame (G : qG) {h : qH} {o0 r k0 nb rc a ln c : Nat} {tol : Option Nat} {N : Nat → Option Nat} {X : Nat → CNv} {y : CNv} (rec : Int32) (hsm : sSame c X y (cntB X y c) = true) (go : h o0 = some (csCell r k0 (some a) tol)) (hc : c ≤ 60) (gk : h k0 = some (shCell nb rc (nI c))) (gn : h nb = some (nbCell N)) (hok : ShOk h c N X) (ga : h a = some (cnCell y ln)) : qMet G M_X3_put [.ref o0, .int rec] h (qI (fun v h1 => h1 = h ∧ v = -2 - nI (cntB X y c))) := by
  refine qMet.of (by decide) (Nat.le_of_ble_eq_true rfl) rfl ?_
  refine QP.locsE (L1 := [some (.ref o0), some (.int (rec)), none]) rfl ?_
  refine qp_aload_n dX3_put_0 rfl ?_
  refine qp_getf dX3_put_1 fX3_25 go rfl ?_
  refine qp_ifnonnull 9 dX3_put_4 (by decide) ?_
  refine qp_aload_n dX3_put_9 rfl ?_
  refine qp_getf dX3_put_10 fX3_21 go rfl ?_
  refine qp_aload_n dX3_put_13 rfl ?_
  refine qp_getf dX3_put_14 fX3_25 go rfl ?_
  refine qv_Ip dX3_put_17 mX3_80 (c_countBefore G hc gk gn hok ga) gk rfl rfl rfl rfl rfl rfl rfl ?_
  refine qp_istore_n dX3_put_20 (by decide) ?_
  refine QP.locsE (L1 := [some (.ref o0), some (.int (rec)), some (.int (nI (cntB X y c)))]) rfl ?_
  refine qp_aload_n dX3_put_21 rfl ?_
  refine qp_getf dX3_put_22 fX3_21 go rfl ?_
  refine qp_iload_n dX3_put_25 rfl ?_
  refine qp_aload_n dX3_put_26 rfl ?_
  refine qp_getf dX3_put_27 fX3_25 go rfl ?_
  refine qv_Ip dX3_put_30 mX3_84 (c_isSameAt G (cntB X y c) (by have := cntB_le X y c; omega) hc gk gn hok ga) gk rfl rfl rfl rfl rfl rfl rfl ?_
  refine qp_if_eq 41 dX3_put_33 (by decide) (fun c_33 => absurd c_33 (by rw [hsm]; decide)) (fun c_33 => ?_)
  refine qp_bipush (v := -2) dX3_put_36 (by decide) ?_
  refine qp_iload_n dX3_put_38 rfl ?_
  refine qp_isub dX3_put_39 ?_
  exact qr_i dX3_put_40 rfl rfl rfl ⟨rfl, rfl⟩
set_option maxHeartbeats 4000000 in
set_option maxRecDepth 100000 in
theorem c_putFull (G : qG) {h : qH} {o0 r k0 nb rc a ln c : Nat} {tol : Option Nat} {N : Nat → Option Nat} {X : Nat → CNv} {y : CNv} (rec : Int32) (hsm : sSame c X y (cntB X y c) = false) (hc60 : c = 60) (go : h o0 = some (csCell r k0 (some a) tol)) (hc : c ≤ 60) (gk : h k0 = some (shCell nb rc (nI c))) (gn : h nb = some (nbCell N)) (hok : ShOk h c N X) (ga : h a = some (cnCell y ln)) : qMet G M_X3_put [.ref o0, .int rec] h (qI (fun v h1 => h1 = h ∧ v = -1)) := by
  refine qMet.of (by decide) (Nat.le_of_ble_eq_true rfl) rfl ?_
  refine QP.locsE (L1 := [some (.ref o0), some (.int (rec)), none]) rfl ?_
  refine qp_aload_n dX3_put_0 rfl ?_
  refine qp_getf dX3_put_1 fX3_25 go rfl ?_
  refine qp_ifnonnull 9 dX3_put_4 (by decide) ?_
  refine qp_aload_n dX3_put_9 rfl ?_
  refine qp_getf dX3_put_10 fX3_21 go rfl ?_
  refine qp_aload_n dX3_put_13 rfl ?_
  refine qp_getf dX3_put_14 fX3_25 go rfl ?_
  refine qv_Ip dX3_put_17 mX3_80 (c_countBefore G hc gk gn hok ga) gk rfl rfl rfl rfl rfl rfl rfl ?_
  refine qp_istore_n dX3_put_20 (by decide) ?_
  refine QP.locsE (L1 := [some (.ref o0), some (.int (rec)), some (.int (nI (cntB X y c)))]) rfl ?_
  refine qp_aload_n dX3_put_21 rfl ?_
  refine qp_getf dX3_put_22 fX3_21 go rfl ?_
  refine qp_iload_n dX3_put_25 rfl ?_
  refine qp_aload_n dX3_put_26 rfl ?_
  refine qp_getf dX3_put_27 fX3_25 go rfl ?_
  refine qv_Ip dX3_put_30 mX3_84 (c_isSameAt G (cntB X y c) (by have := cntB_le X y c; omega) hc gk gn hok ga) gk rfl rfl rfl rfl rfl rfl rfl ?_
  refine qp_if_eq 41 dX3_put_33 (by decide) (fun c_33 => ?_) (fun c_33 => absurd (by rw [hsm]; rfl) c_33)
  refine qp_aload_n dX3_put_41 rfl ?_
  refine qp_getf dX3_put_42 fX3_21 go rfl ?_
  refine qp_iload_n dX3_put_45 rfl ?_
  refine qp_aload_n dX3_put_46 rfl ?_
  refine qp_getf dX3_put_47 fX3_25 go rfl ?_
  refine qp_iload_n dX3_put_50 rfl ?_
  refine qv_Ip dX3_put_51 mX3_88 (c_insertFull G (nI (cntB X y c)) (rec) hc60 gk) gk rfl rfl rfl rfl rfl rfl rfl ?_
  refine qp_if_eq 61 dX3_put_54 (by decide) (fun c_54 => ?_) (fun c_54 => absurd rfl c_54)
  refine qp_iconst (v := -1) dX3_put_61 (by decide) ?_
  exact qr_i dX3_put_62 rfl rfl rfl ⟨rfl, rfl⟩
set_option maxHeartbeats 4000000 in
set_option maxRecDepth 100000 in
theorem c_put (G : qG) {h : qH} {o0 r k0 nb rc a ln c : Nat} {tol : Option Nat} {N : Nat → Option Nat} {R : Nat → Int32} {X : Nat → CNv} {y : CNv} (rec : Int32) (nk : G.2.1 ≤ k0) (nn : G.2.1 ≤ nb) (nr : G.2.1 ≤ rc) (hsm : sSame c X y (cntB X y c) = false) (hc60 : c < 60) (go : h o0 = some (csCell r k0 (some a) tol)) (hc : c ≤ 60) (gk : h k0 = some (shCell nb rc (nI c))) (gn : h nb = some (nbCell N)) (hok : ShOk h c N X) (ga : h a = some (cnCell y ln)) (gr : h rc = some (rcCell R)) : qMet G M_X3_put [.ref o0, .int rec] h (qI (fun v h1 => v = nI (cntB X y c) ∧ h1 k0 = some (shCell nb rc (nI (c + 1))) ∧ h1 nb = some (nbCell (insF N (cntB X y c) c (some a))) ∧ h1 rc = some (rcCell (insF R (cntB X y c) c rec)) ∧ ∀ b : Nat, b ≠ k0 → b ≠ nb → b ≠ rc → h1 b = h b)) := by
  refine qMet.of (by decide) (Nat.le_of_ble_eq_true rfl) rfl ?_
  refine QP.locsE (L1 := [some (.ref o0), some (.int (rec)), none]) rfl ?_
  refine qp_aload_n dX3_put_0 rfl ?_
  refine qp_getf dX3_put_1 fX3_25 go rfl ?_
  refine qp_ifnonnull 9 dX3_put_4 (by decide) ?_
  refine qp_aload_n dX3_put_9 rfl ?_
  refine qp_getf dX3_put_10 fX3_21 go rfl ?_
  refine qp_aload_n dX3_put_13 rfl ?_
  refine qp_getf dX3_put_14 fX3_25 go rfl ?_
  refine qv_Ip dX3_put_17 mX3_80 (c_countBefore G hc gk gn hok ga) gk rfl rfl rfl rfl rfl rfl rfl ?_
  refine qp_istore_n dX3_put_20 (by decide) ?_
  refine QP.locsE (L1 := [some (.ref o0), some (.int (rec)), some (.int (nI (cntB X y c)))]) rfl ?_
  refine qp_aload_n dX3_put_21 rfl ?_
  refine qp_getf dX3_put_22 fX3_21 go rfl ?_
  refine qp_iload_n dX3_put_25 rfl ?_
  refine qp_aload_n dX3_put_26 rfl ?_
  refine qp_getf dX3_put_27 fX3_25 go rfl ?_
  refine qv_Ip dX3_put_30 mX3_84 (c_isSameAt G (cntB X y c) (by have := cntB_le X y c; omega) hc gk gn hok ga) gk rfl rfl rfl rfl rfl rfl rfl ?_
  refine qp_if_eq 41 dX3_put_33 (by decide) (fun c_33 => ?_) (fun c_33 => absurd (by rw [hsm]; rfl) c_33)
  refine qp_aload_n dX3_put_41 rfl ?_
  refine qp_getf dX3_put_42 fX3_21 go rfl ?_
  refine qp_iload_n dX3_put_45 rfl ?_
  refine qp_aload_n dX3_put_46 rfl ?_
  refine qp_getf dX3_put_47 fX3_25 go rfl ?_
  refine qp_iload_n dX3_put_50 rfl ?_
  refine qv_Iq dX3_put_51 mX3_88 (c_insert G (cntB X y c) (rec) nk nn nr (by omega) (cntB_le X y c) gk gn gr ga hok) gk rfl rfl rfl rfl rfl rfl rfl (fun h8 p9 => ?_)
  obtain ⟨g10, g11, g12, o13⟩ := p9
  have g14 : h8 o0 = some (.inr (4, [.ref r, .ref k0, .ref a, va_rf (tol)])) := (o13 _ (ne_of_cells go gk (by simp)) (ne_of_cells go gn (by simp)) (ne_of_cells go gr (by simp))).trans go
  have g15 : h8 a = some (.inr (1, [.int (y.cl), .int (y.cc), .long (y.cd), .int (y.cap), .int (y.cut), .int (y.cutn), .int (y.year), .int (y.vol), .int (y.voll), .long (y.mark), .int (y.markn), .ref ln, .int (y.lc)])) := (o13 _ (ne_of_cells ga gk (by simp)) (ne_of_cells ga gn (by simp)) (ne_of_cells ga gr (by simp))).trans ga
  have g10 : h8 k0 = some (.inr (3, [.ref nb, .ref rc, .int (nI (c + 1))])) := g10
  have g11 : h8 nb = some (.inl (3, 60, .inr (.inr (.inr (.inr (insF N (cntB X y c) c (some a))))))) := g11
  have g12 : h8 rc = some (.inl (0, 60, .inl (insF R (cntB X y c) c rec))) := g12
  refine qp_if_eq 61 dX3_put_54 (by decide) (fun c_54 => absurd c_54 (by decide)) (fun c_54 => ?_)
  refine qp_iload_n dX3_put_57 rfl ?_
  refine qp_goto 62 dX3_put_58 (by decide) ?_
  exact qr_i dX3_put_62 rfl rfl rfl ⟨rfl, g10, g11, g12, fun b hb1 hb2 hb3 => (o13 b hb1 hb2 hb3)⟩
