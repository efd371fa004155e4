/-- a row of the reference's shelf -/
def mRow (H : Nat → Int32) (p : Nat) : Nat → Int32 := fun k => H (40 * p + k)
def mLex (A B : Nat → Int32) : Nat → Nat → Int32
  | 0, _ => 0
  | t + 1, k => if A k = B k then mLex A B t (k + 1) else if A k < B k then -1 else 1
def mPlace (O : Nat → Int32) : Nat → Nat → Nat
  | 0, n => n
  | t + 1, n => if 0 < O n then mPlace O t (n + 1) else n
theorem mPlace_le (O : Nat → Int32) : ∀ t n, mPlace O t n ≤ n + t
  | 0, n => Nat.le_refl n
  | t + 1, n => by
    have := mPlace_le O t (n + 1)
    simp only [mPlace]
    split <;> omega
set_option maxHeartbeats 4000000 in
set_option maxRecDepth 100000 in
theorem lm_order {G : qG} {h : qH} {thr sch th cnt ps pp wr sz : Int32} {m0 sa nw la sh rcm bf : Nat} {A H : Nat → Int32} {p : Nat} {r : Int32} (hp : p < 60) (gm : h m0 = some (mdCell thr sch sa sz nw la th sh rcm cnt bf ps pp wr)) (gl : h la = some (rwCell A)) (gh : h sh = some (mshCell H)) : ∀ (t k : Nat), 34 < k + t → k ≤ 34 → r = mLex A (mRow H p) (34 - k) k → QP G M_X4_order qTr (qMZ G M_X4_order (qI (fun v h1 => h1 = h ∧ v = r))) 3 [some (.ref m0), some (.ref la), some (.int (nI p)), some (.int 34), some (.int (nI k)), none] [] h 0 0 := by
  intro t
  induction t with
  | zero =>
    intro k h1 h2
    omega
  | succ t ih =>
    intro k h1 h2 hr
    refine qp_iload dX4_order_3 rfl ?_
    refine qp_iload_n dX4_order_5 rfl ?_
    refine qp_icmp_ge 67 dX4_order_6 (by decide) (fun c_6 => ?_) (fun c_6 => ?_)
    · have hk : 34 ≤ k := (nI_leI (a := 34) (by decide) (by omega)).mp c_6
      refine qp_iconst (v := 0) dX4_order_67 (by decide) ?_
      exact qr_i dX4_order_68 rfl rfl rfl ⟨rfl, by rw [hr, show 34 - k = 0 by omega]; rfl⟩
    · have hk : k < 34 := Nat.not_le.mp fun q => c_6 ((nI_leI (a := 34) (by decide) (by omega)).mpr q)
      refine qp_iload_n dX4_order_9 rfl ?_
      refine qp_if_ge 23 dX4_order_10 (by decide) (fun c_10 => ?_) (fun c_10 => absurd (nI_pos' (by omega)) c_10)
      refine qp_aload_n dX4_order_23 rfl ?_
      refine qp_getf dX4_order_24 fX4_20 gm rfl ?_
      refine qp_bipush (v := 40) dX4_order_27 (by decide) ?_
      refine qp_iload_n dX4_order_29 rfl ?_
      refine qp_imul dX4_order_30 ?_
      refine QP.topI (y := nI (40 * p)) (pk_mul 40 _) ?_
      refine qp_iload dX4_order_31 rfl ?_
      refine qp_iadd dX4_order_33 ?_
      refine QP.topI (y := nI (40 * p + k)) (nI_add _ _) ?_
      refine qp_ialdN (40 * p + k) dX4_order_34 gh rfl (by omega) (by decide) ?_
      refine QP.topI (y := mRow H p k) rfl ?_
      refine qp_istore dX4_order_35 (by decide) ?_
      refine QP.locsE (L1 := [some (.ref m0), some (.ref la), some (.int (nI p)), some (.int (34)), some (.int (nI k)), some (.int (mRow H p k))]) rfl ?_
      refine qp_aload_n dX4_order_37 rfl ?_
      refine qp_iload dX4_order_38 rfl ?_
      refine qp_ialdN (k) dX4_order_40 gl rfl (by omega) (by decide) ?_
      refine qp_iload dX4_order_41 rfl ?_
      refine qp_icmp_eq 61 dX4_order_43 (by decide) (fun c_43 => ?_) (fun c_43 => ?_)
      · refine qp_iinc (v := nI (k + 1)) dX4_order_61 rfl (by decide) (nI_1 k) ?_
        refine QP.locsE (L1 := [some (.ref m0), some (.ref la), some (.int (nI p)), some (.int (34)), some (.int (nI (k + 1))), some (.int (mRow H p k))]) rfl ?_
        refine qp_goto 3 dX4_order_64 (by decide) ?_
        refine QP.forget 5 ?_
        refine ih (k + 1) (by omega) (by omega) ?_
        rw [hr, show 34 - k = (34 - (k + 1)) + 1 by omega, mLex, if_pos c_43]
      · refine qp_aload_n dX4_order_46 rfl ?_
        refine qp_iload dX4_order_47 rfl ?_
        refine qp_ialdN (k) dX4_order_49 gl rfl (by omega) (by decide) ?_
        refine qp_iload dX4_order_50 rfl ?_
        refine qp_icmp_ge 59 dX4_order_52 (by decide) (fun c_52 => ?_) (fun c_52 => ?_)
        · refine qp_iconst (v := 1) dX4_order_59 (by decide) ?_
          exact qr_i dX4_order_60 rfl rfl rfl ⟨rfl, by rw [hr, show 34 - k = (34 - (k + 1)) + 1 by omega, mLex, if_neg c_43, if_neg (i32_nlt.mpr c_52)]⟩
        · refine qp_iconst (v := -1) dX4_order_55 (by decide) ?_
          refine qp_goto 60 dX4_order_56 (by decide) ?_
          exact qr_i dX4_order_60 rfl rfl rfl ⟨rfl, by rw [hr, show 34 - k = (34 - (k + 1)) + 1 by omega, mLex, if_neg c_43, if_pos (i32_nle.mp c_52)]⟩
set_option maxHeartbeats 4000000 in
set_option maxRecDepth 100000 in
theorem m_order (G : qG) {h : qH} {thr sch th cnt ps pp wr sz : Int32} {m0 sa nw la sh rcm bf : Nat} {A H : Nat → Int32} (p : Nat) (hp : p < 60) (gm : h m0 = some (mdCell thr sch sa sz nw la th sh rcm cnt bf ps pp wr)) (gl : h la = some (rwCell A)) (gh : h sh = some (mshCell H)) : qMet G M_X4_order [.ref m0, .ref la, .int (nI p), .int 34] h (qI (fun v h1 => h1 = h ∧ v = mLex A (mRow H p) 34 0)) := by
  refine qMet.of (by decide) (Nat.le_of_ble_eq_true rfl) rfl ?_
  refine QP.locsE (L1 := [some (.ref m0), some (.ref la), some (.int (nI p)), some (.int (34)), none, none]) rfl ?_
  refine qp_iconst (v := 0) dX4_order_0 (by decide) ?_
  refine qp_istore dX4_order_1 (by decide) ?_
  refine QP.locsE (L1 := [some (.ref m0), some (.ref la), some (.int (nI p)), some (.int (34)), some (.int (0)), none]) rfl ?_
  exact lm_order hp gm gl gh 35 0 (by omega) (by omega) rfl
set_option maxHeartbeats 4000000 in
set_option maxRecDepth 100000 in
theorem lm_placeOf {G : qG} {h : qH} {thr sch th ps pp wr sz : Int32} {m0 sa nw la sh rcm bf c : Nat} {A H : Nat → Int32} {r : Nat} (hc : c ≤ 60) (gm : h m0 = some (mdCell thr sch sa sz nw la th sh rcm (nI c) bf ps pp wr)) (gl : h la = some (rwCell A)) (gh : h sh = some (mshCell H)) : ∀ (t n : Nat), c < n + t → n ≤ c → r = mPlace (fun n => mLex A (mRow H n) 34 0) (c - n) n → QP G M_X4_placeOf qTr (qMZ G M_X4_placeOf (qI (fun v h1 => h1 = h ∧ v = nI r))) 2 [some (.ref m0), some (.int (nI n))] [] h 0 0 := by
  intro t
  induction t with
  | zero =>
    intro n h1 h2
    omega
  | succ t ih =>
    intro n h1 h2 hr
    refine qp_iload_n dX4_placeOf_2 rfl ?_
    refine qp_aload_n dX4_placeOf_3 rfl ?_
    refine qp_getf dX4_placeOf_4 fX4_118 gm rfl ?_
    refine qp_icmp_ge 30 dX4_placeOf_7 (by decide) (fun c_7 => ?_) (fun c_7 => ?_)
    · have hk : c ≤ n := (nI_leI (by omega) (by omega)).mp c_7
      refine qp_iload_n dX4_placeOf_30 rfl ?_
      exact qr_i dX4_placeOf_31 rfl rfl rfl ⟨rfl, by rw [hr, show c - n = 0 by omega]; rfl⟩
    · have hk : n < c := Nat.not_le.mp fun q => c_7 ((nI_leI (by omega) (by omega)).mpr q)
      refine qp_aload_n dX4_placeOf_10 rfl ?_
      refine qp_aload_n dX4_placeOf_11 rfl ?_
      refine qp_getf dX4_placeOf_12 fX4_17 gm rfl ?_
      refine qp_iload_n dX4_placeOf_15 rfl ?_
      refine qp_bipush (v := 34) dX4_placeOf_16 (by decide) ?_
      refine qv_Ip dX4_placeOf_18 mX4_121 (m_order G (n) (by omega) gm gl gh) gm rfl rfl rfl rfl rfl rfl rfl ?_
      refine qp_if_le 30 dX4_placeOf_21 (by decide) (fun c_21 => ?_) (fun c_21 => ?_)
      · refine qp_iload_n dX4_placeOf_30 rfl ?_
        exact qr_i dX4_placeOf_31 rfl rfl rfl ⟨rfl, by rw [hr, show c - n = (c - (n + 1)) + 1 by omega, mPlace, if_neg (i32_nlt.mpr c_21)]⟩
      · refine qp_iinc (v := nI (n + 1)) dX4_placeOf_24 rfl (by decide) (nI_1 n) ?_
        refine QP.locsE (L1 := [some (.ref m0), some (.int (nI (n + 1)))]) rfl ?_
        refine qp_goto 2 dX4_placeOf_27 (by decide) ?_
        refine ih (n + 1) (by omega) (by omega) ?_
        rw [hr, show c - n = (c - (n + 1)) + 1 by omega, mPlace, if_pos (i32_nle.mp c_21)]
set_option maxHeartbeats 4000000 in
set_option maxRecDepth 100000 in
theorem m_placeOf (G : qG) {h : qH} {thr sch th ps pp wr sz : Int32} {m0 sa nw la sh rcm bf c : Nat} {A H : Nat → Int32} (hc : c ≤ 60) (gm : h m0 = some (mdCell thr sch sa sz nw la th sh rcm (nI c) bf ps pp wr)) (gl : h la = some (rwCell A)) (gh : h sh = some (mshCell H)) : qMet G M_X4_placeOf [.ref m0] h (qI (fun v h1 => h1 = h ∧ v = nI (mPlace (fun n => mLex A (mRow H n) 34 0) c 0))) := by
  refine qMet.of (by decide) (Nat.le_of_ble_eq_true rfl) rfl ?_
  refine QP.locsE (L1 := [some (.ref m0), none]) rfl ?_
  refine qp_iconst (v := 0) dX4_placeOf_0 (by decide) ?_
  refine qp_istore_n dX4_placeOf_1 (by decide) ?_
  refine QP.locsE (L1 := [some (.ref m0), some (.int (0))]) rfl ?_
  exact lm_placeOf hc gm gl gh (c + 1) 0 (by omega) (by omega) rfl
set_option maxHeartbeats 4000000 in
set_option maxRecDepth 100000 in
theorem m_before (G : qG) {h : qH} {thr sch ps pp wr sz : Int32} {m0 sa nw la sh rcm bf c : Nat} {A H : Nat → Int32} (nm : G.2.1 ≤ m0) (hc : c ≤ 60) (gm : h m0 = some (mdCell thr sch sa sz nw la 1 sh rcm (nI c) bf ps pp wr)) (gl : h la = some (rwCell A)) (gh : h sh = some (mshCell H)) : qMet G M_X4_before [.ref m0] h (qI (fun v h1 => v = nI (mPlace (fun n => mLex A (mRow H n) 34 0) c 0) ∧ h1 m0 = some (mdCell 0 sch sa sz nw la 1 sh rcm (nI c) bf ps pp wr) ∧ ∀ b : Nat, b ≠ m0 → h1 b = h b)) := by
  refine qMet.of (by decide) (Nat.le_of_ble_eq_true rfl) rfl ?_
  refine QP.locsE (L1 := [some (.ref m0)]) rfl ?_
  refine qp_aload_n dX4_before_0 rfl ?_
  refine qp_iconst (v := 0) dX4_before_1 (by decide) ?_
  refine qk_put dX4_before_2 fX4_33 gm nm rfl rfl rfl rfl rfl (fun h1 g2 o3 => ?_)
  have g4 : h1 la = some (.inl (0, 40, .inl (A))) := (o3 _ (ne_of_cells gl gm (by simp))).trans gl
  have g5 : h1 sh = some (.inl (0, 2400, .inl (H))) := (o3 _ (ne_of_cells gh gm (by simp))).trans gh
  have g2 : h1 m0 = some (.inr (5, [.int (0), .int (sch), .ref sa, .int (sz), .ref nw, .ref la, .int (1), .ref sh, .ref rcm, .int (nI c), .ref bf, .int (ps), .int (pp), .int (wr)])) := g2
  refine qp_aload_n dX4_before_5 rfl ?_
  refine qp_getf dX4_before_6 fX4_91 g2 rfl ?_
  refine qp_if_eq 19 dX4_before_9 (by decide) (fun c_9 => absurd c_9 (by decide)) (fun c_9 => ?_)
  refine qp_aload_n dX4_before_12 rfl ?_
  refine qv_Ip dX4_before_13 mX4_125 (m_placeOf G hc g2 g4 g5) g2 rfl rfl rfl rfl rfl rfl rfl ?_
  refine qp_goto 20 dX4_before_16 (by decide) ?_
  exact qr_i dX4_before_20 rfl rfl rfl ⟨rfl, g2, fun b hb => (o3 b hb)⟩
set_option maxHeartbeats 4000000 in
set_option maxRecDepth 100000 in
theorem m_beforeN (G : qG) {h : qH} {thr sch cnt ps pp wr sz : Int32} {m0 sa nw la sh rcm bf : Nat} (nm : G.2.1 ≤ m0) (gm : h m0 = some (mdCell thr sch sa sz nw la 0 sh rcm cnt bf ps pp wr)) : qMet G M_X4_before [.ref m0] h (qI (fun v h1 => v = -1 ∧ h1 m0 = some (mdCell 0 sch sa sz nw la 0 sh rcm cnt bf ps pp wr) ∧ ∀ b : Nat, b ≠ m0 → h1 b = h b)) := by
  refine qMet.of (by decide) (Nat.le_of_ble_eq_true rfl) rfl ?_
  refine QP.locsE (L1 := [some (.ref m0)]) rfl ?_
  refine qp_aload_n dX4_before_0 rfl ?_
  refine qp_iconst (v := 0) dX4_before_1 (by decide) ?_
  refine qk_put dX4_before_2 fX4_33 gm nm rfl rfl rfl rfl rfl (fun h1 g2 o3 => ?_)
  have g2 : h1 m0 = some (.inr (5, [.int (0), .int (sch), .ref sa, .int (sz), .ref nw, .ref la, .int (0), .ref sh, .ref rcm, .int (cnt), .ref bf, .int (ps), .int (pp), .int (wr)])) := g2
  refine qp_aload_n dX4_before_5 rfl ?_
  refine qp_getf dX4_before_6 fX4_91 g2 rfl ?_
  refine qp_if_eq 19 dX4_before_9 (by decide) (fun c_9 => ?_) (fun c_9 => absurd rfl c_9)
  refine qp_iconst (v := -1) dX4_before_19 (by decide) ?_
  exact qr_i dX4_before_20 rfl rfl rfl ⟨rfl, g2, fun b hb => (o3 b hb)⟩
set_option maxHeartbeats 4000000 in
set_option maxRecDepth 100000 in
theorem m_shelf (G : qG) {h : qH} {thr sch th ps pp wr sz : Int32} {m0 sa nw la sh rcm bf c : Nat} {RR : Nat → Int32} (p : Int32) (nm : G.2.1 ≤ m0) (hc : c ≤ 60) (gm : h m0 = some (mdCell thr sch sa sz nw la th sh rcm (nI c) bf ps pp wr)) (gr : h rcm = some (rcCell RR)) : qMet G M_X4_shelf [.ref m0, .int p] h (qI (fun v h1 => v = sRecAt c RR p ∧ h1 m0 = some (mdCell 0 sch sa sz nw la th sh rcm (nI c) bf ps pp wr) ∧ ∀ b : Nat, b ≠ m0 → h1 b = h b)) := by
  refine qMet.of (by decide) (Nat.le_of_ble_eq_true rfl) rfl ?_
  refine QP.locsE (L1 := [some (.ref m0), some (.int (p))]) rfl ?_
  refine qp_aload_n dX4_shelf_0 rfl ?_
  refine qp_iconst (v := 0) dX4_shelf_1 (by decide) ?_
  refine qk_put dX4_shelf_2 fX4_33 gm nm rfl rfl rfl rfl rfl (fun h1 g2 o3 => ?_)
  have g4 : h1 rcm = some (.inl (0, 60, .inl (RR))) := (o3 _ (ne_of_cells gr gm (by simp))).trans gr
  have g2 : h1 m0 = some (.inr (5, [.int (0), .int (sch), .ref sa, .int (sz), .ref nw, .ref la, .int (th), .ref sh, .ref rcm, .int (nI c), .ref bf, .int (ps), .int (pp), .int (wr)])) := g2
  refine qp_iload_n dX4_shelf_5 rfl ?_
  refine qp_if_lt 17 dX4_shelf_6 (by decide) (fun c_6 => ?_) (fun c_6 => ?_)
  · refine qp_iconst (v := -1) dX4_shelf_17 (by decide) ?_
    refine qp_goto 27 dX4_shelf_18 (by decide) ?_
    exact qr_i dX4_shelf_27 rfl rfl rfl ⟨by rw [i32_lt0] at c_6; rw [sRecAt, if_neg (by simp only [sHas, decide_eq_true_eq]; omega)], g2, fun b hb => (o3 b hb)⟩
  · refine qp_iload_n dX4_shelf_9 rfl ?_
    refine qp_aload_n dX4_shelf_10 rfl ?_
    refine qp_getf dX4_shelf_11 fX4_118 g2 rfl ?_
    refine qp_icmp_lt 21 dX4_shelf_14 (by decide) (fun c_14 => ?_) (fun c_14 => ?_)
    · have hhas : sHas c p = true := by rw [i32_lt0] at c_6; rw [Int32.lt_iff_toInt_lt, nI_toInt (by omega)] at c_14; simp only [sHas, decide_eq_true_eq]; omega
      refine qp_aload_n dX4_shelf_21 rfl ?_
      refine qp_getf dX4_shelf_22 fX4_23 g2 rfl ?_
      refine qp_iload_n dX4_shelf_25 rfl ?_
      refine qp_iald dX4_shelf_26 g4 (sHas_in hhas hc) ?_
      exact qr_i dX4_shelf_27 rfl rfl rfl ⟨by rw [sRecAt, if_pos hhas], g2, fun b hb => (o3 b hb)⟩
    · refine qp_iconst (v := -1) dX4_shelf_17 (by decide) ?_
      refine qp_goto 27 dX4_shelf_18 (by decide) ?_
      exact qr_i dX4_shelf_27 rfl rfl rfl ⟨by rw [i32_nlt, i32_nIle (by omega)] at c_14; rw [sRecAt, if_neg (by simp only [sHas, decide_eq_true_eq]; omega)], g2, fun b hb => (o3 b hb)⟩
def mCompare (c : Nat) (a b : Int32) : Int32 := if sHas c a = true ∧ sHas c b = true then (if a < b then -1 else if b < a then 1 else 0) else -2
set_option maxHeartbeats 4000000 in
set_option maxRecDepth 100000 in
theorem m_compare (G : qG) {h : qH} {thr sch th ps pp wr sz : Int32} {m0 sa nw la sh rcm bf c : Nat} (a b0 : Int32) (nm : G.2.1 ≤ m0) (hc : c ≤ 60) (gm : h m0 = some (mdCell thr sch sa sz nw la th sh rcm (nI c) bf ps pp wr)) : qMet G M_X4_compare [.ref m0, .int a, .int b0] h (qI (fun v h1 => v = mCompare c a b0 ∧ h1 m0 = some (mdCell 0 sch sa sz nw la th sh rcm (nI c) bf ps pp wr) ∧ ∀ b : Nat, b ≠ m0 → h1 b = h b)) := by
  refine qMet.of (by decide) (Nat.le_of_ble_eq_true rfl) rfl ?_
  refine QP.locsE (L1 := [some (.ref m0), some (.int (a)), some (.int (b0))]) rfl ?_
  refine qp_aload_n dX4_compare_0 rfl ?_
  refine qp_iconst (v := 0) dX4_compare_1 (by decide) ?_
  refine qk_put dX4_compare_2 fX4_33 gm nm rfl rfl rfl rfl rfl (fun h1 g2 o3 => ?_)
  have g2 : h1 m0 = some (.inr (5, [.int (0), .int (sch), .ref sa, .int (sz), .ref nw, .ref la, .int (th), .ref sh, .ref rcm, .int (nI c), .ref bf, .int (ps), .int (pp), .int (wr)])) := g2
  refine qp_iload_n dX4_compare_5 rfl ?_
  refine qp_if_lt 29 dX4_compare_6 (by decide) (fun c_6 => ?_) (fun c_6 => ?_)
  · refine qp_bipush (v := -2) dX4_compare_29 (by decide) ?_
    exact qr_i dX4_compare_31 rfl rfl rfl ⟨by rw [mCompare, if_neg (fun q => by simp only [sHas, decide_eq_true_eq] at q; rw [i32_lt0] at c_6; omega)], g2, fun b hb => (o3 b hb)⟩
  · refine qp_iload_n dX4_compare_9 rfl ?_
    refine qp_if_lt 29 dX4_compare_10 (by decide) (fun c_10 => ?_) (fun c_10 => ?_)
    · refine qp_bipush (v := -2) dX4_compare_29 (by decide) ?_
      exact qr_i dX4_compare_31 rfl rfl rfl ⟨by rw [mCompare, if_neg (fun q => by simp only [sHas, decide_eq_true_eq] at q; rw [i32_lt0] at c_10; omega)], g2, fun b hb => (o3 b hb)⟩
    · refine qp_iload_n dX4_compare_13 rfl ?_
      refine qp_aload_n dX4_compare_14 rfl ?_
      refine qp_getf dX4_compare_15 fX4_118 g2 rfl ?_
      refine qp_icmp_ge 29 dX4_compare_18 (by decide) (fun c_18 => ?_) (fun c_18 => ?_)
      · refine qp_bipush (v := -2) dX4_compare_29 (by decide) ?_
        exact qr_i dX4_compare_31 rfl rfl rfl ⟨by rw [mCompare, if_neg (fun q => by simp only [sHas, decide_eq_true_eq] at q; rw [i32_nIle (by omega)] at c_18; omega)], g2, fun b hb => (o3 b hb)⟩
      · refine qp_iload_n dX4_compare_21 rfl ?_
        refine qp_aload_n dX4_compare_22 rfl ?_
        refine qp_getf dX4_compare_23 fX4_118 g2 rfl ?_
        refine qp_icmp_lt 32 dX4_compare_26 (by decide) (fun c_26 => ?_) (fun c_26 => ?_)
        · refine qp_iload_n dX4_compare_32 rfl ?_
          refine qp_iload_n dX4_compare_33 rfl ?_
          refine qp_icmp_ge 41 dX4_compare_34 (by decide) (fun c_34 => ?_) (fun c_34 => ?_)
          · refine qp_iload_n dX4_compare_41 rfl ?_
            refine qp_iload_n dX4_compare_42 rfl ?_
            refine qp_icmp_le 50 dX4_compare_43 (by decide) (fun c_43 => ?_) (fun c_43 => ?_)
            · refine qp_iconst (v := 0) dX4_compare_50 (by decide) ?_
              exact qr_i dX4_compare_51 rfl rfl rfl ⟨by rw [mCompare, if_pos ⟨(by rw [i32_lt0] at c_6; rw [i32_nIle (by omega)] at c_18; simp only [sHas, decide_eq_true_eq]; omega), (by rw [i32_lt0] at c_10; rw [Int32.lt_iff_toInt_lt, nI_toInt (by omega)] at c_26; simp only [sHas, decide_eq_true_eq]; omega)⟩, if_neg (i32_nlt.mpr c_34), if_neg (i32_nlt.mpr c_43)], g2, fun b hb => (o3 b hb)⟩
            · refine qp_iconst (v := 1) dX4_compare_46 (by decide) ?_
              refine qp_goto 51 dX4_compare_47 (by decide) ?_
              exact qr_i dX4_compare_51 rfl rfl rfl ⟨by rw [mCompare, if_pos ⟨(by rw [i32_lt0] at c_6; rw [i32_nIle (by omega)] at c_18; simp only [sHas, decide_eq_true_eq]; omega), (by rw [i32_lt0] at c_10; rw [Int32.lt_iff_toInt_lt, nI_toInt (by omega)] at c_26; simp only [sHas, decide_eq_true_eq]; omega)⟩, if_neg (i32_nlt.mpr c_34), if_pos (i32_nle.mp c_43)], g2, fun b hb => (o3 b hb)⟩
          · refine qp_iconst (v := -1) dX4_compare_37 (by decide) ?_
            refine qp_goto 51 dX4_compare_38 (by decide) ?_
            exact qr_i dX4_compare_51 rfl rfl rfl ⟨by rw [mCompare, if_pos ⟨(by rw [i32_lt0] at c_6; rw [i32_nIle (by omega)] at c_18; simp only [sHas, decide_eq_true_eq]; omega), (by rw [i32_lt0] at c_10; rw [Int32.lt_iff_toInt_lt, nI_toInt (by omega)] at c_26; simp only [sHas, decide_eq_true_eq]; omega)⟩, if_pos (i32_nle.mp c_34)], g2, fun b hb => (o3 b hb)⟩
        · refine qp_bipush (v := -2) dX4_compare_29 (by decide) ?_
          exact qr_i dX4_compare_31 rfl rfl rfl ⟨by rw [mCompare, if_neg (fun q => by simp only [sHas, decide_eq_true_eq] at q; rw [i32_nlt, i32_nIle (by omega)] at c_26; omega)], g2, fun b hb => (o3 b hb)⟩
set_option maxHeartbeats 4000000 in
set_option maxRecDepth 100000 in
theorem m_sign (G : qG) {h : qH} {thr sch th cnt ps pp wr : Int32} {m0 sa nw la sh rcm bf z : Nat} {g : Nat → Int32} (ch : Int32) (nm : G.2.1 ≤ m0) (ns : G.2.1 ≤ sa) (hz : z < 60) (gm : h m0 = some (mdCell thr sch sa (nI z) nw la th sh rcm cnt bf ps pp wr)) (gs : h sa = some (saCell g)) : qMet G M_X4_sign [.ref m0, .int ch] h (qV (fun h1 => h1 m0 = some (mdCell 0 sch sa (nI (z + 1)) nw la th sh rcm cnt bf ps pp wr) ∧ h1 sa = some (saCell (upd g z (vp_nar .byte ch.toInt8.toInt32))) ∧ ∀ b : Nat, b ≠ m0 → b ≠ sa → h1 b = h b)) := by
  refine qMet.of (by decide) (Nat.le_of_ble_eq_true rfl) rfl ?_
  refine QP.locsE (L1 := [some (.ref m0), some (.int (ch))]) rfl ?_
  refine qp_aload_n dX4_sign_0 rfl ?_
  refine qp_iconst (v := 0) dX4_sign_1 (by decide) ?_
  refine qk_put dX4_sign_2 fX4_33 gm nm rfl rfl rfl rfl rfl (fun h1 g2 o3 => ?_)
  have g4 : h1 sa = some (.inl (1, 60, .inl (g))) := (o3 _ (ne_of_cells gs gm (by simp))).trans gs
  have g2 : h1 m0 = some (.inr (5, [.int (0), .int (sch), .ref sa, .int (nI z), .ref nw, .ref la, .int (th), .ref sh, .ref rcm, .int (cnt), .ref bf, .int (ps), .int (pp), .int (wr)])) := g2
  refine qp_aload_n dX4_sign_5 rfl ?_
  refine qp_getf dX4_sign_6 fX4_36 g2 rfl ?_
  refine qp_bipush (v := 60) dX4_sign_9 (by decide) ?_
  refine qp_icmp_ge 35 dX4_sign_11 (by decide) (fun c_11 => absurd c_11 (i32_nle.mpr (nI_lt (b := 60) hz (by decide)))) (fun c_11 => ?_)
  refine qp_aload_n dX4_sign_14 rfl ?_
  refine qp_getf dX4_sign_15 fX4_7 g2 rfl ?_
  refine qp_aload_n dX4_sign_18 rfl ?_
  refine qp_getf dX4_sign_19 fX4_36 g2 rfl ?_
  refine qp_iload_n dX4_sign_22 rfl ?_
  refine qp_i2b dX4_sign_23 ?_
  refine qk_bast (z) dX4_sign_24 g4 ns rfl hz (by decide) (fun h5 g6 o7 => ?_)
  have g8 : h5 m0 = some (.inr (5, [.int (0), .int (sch), .ref sa, .int (nI z), .ref nw, .ref la, .int (th), .ref sh, .ref rcm, .int (cnt), .ref bf, .int (ps), .int (pp), .int (wr)])) := (o7 _ (ne_of_cells g2 g4 (by simp))).trans g2
  have g6 : h5 sa = some (.inl (1, 60, .inl (upd (g) (z) (vp_nar .byte (Int8.toInt32 (Int32.toInt8 (ch))))))) := g6
  refine qp_aload_n dX4_sign_25 rfl ?_
  refine qp_dup dX4_sign_26 rfl ?_
  refine qp_getf dX4_sign_27 fX4_36 g8 rfl ?_
  refine qp_iconst (v := 1) dX4_sign_30 (by decide) ?_
  refine qp_iadd dX4_sign_31 ?_
  refine QP.topI (y := nI (z + 1)) (nI_1 z) ?_
  refine qk_put dX4_sign_32 fX4_36 g8 nm rfl rfl rfl rfl rfl (fun h9 g10 o11 => ?_)
  have g12 : h9 sa = some (.inl (1, 60, .inl (upd (g) (z) (vp_nar .byte (Int8.toInt32 (Int32.toInt8 (ch))))))) := (o11 _ (ne_of_cells g6 g8 (by simp))).trans g6
  have g10 : h9 m0 = some (.inr (5, [.int (0), .int (sch), .ref sa, .int (nI (z + 1)), .ref nw, .ref la, .int (th), .ref sh, .ref rcm, .int (cnt), .ref bf, .int (ps), .int (pp), .int (wr)])) := g10
  exact qr_v dX4_sign_35 rfl rfl rfl ⟨g10, g12, fun b hb hb2 => (((o11 b hb).trans (o7 b hb2)).trans (o3 b hb))⟩
set_option maxHeartbeats 4000000 in
set_option maxRecDepth 100000 in
theorem m_signFull (G : qG) {h : qH} {thr sch th cnt ps pp wr : Int32} {m0 sa nw la sh rcm bf z : Nat} (ch : Int32) (nm : G.2.1 ≤ m0) (hz : z = 60) (gm : h m0 = some (mdCell thr sch sa (nI z) nw la th sh rcm cnt bf ps pp wr)) : qMet G M_X4_sign [.ref m0, .int ch] h (qV (fun h1 => h1 m0 = some (mdCell 0 sch sa (nI z) nw la th sh rcm cnt bf ps pp wr) ∧ ∀ b : Nat, b ≠ m0 → h1 b = h b)) := by
  refine qMet.of (by decide) (Nat.le_of_ble_eq_true rfl) rfl ?_
  refine QP.locsE (L1 := [some (.ref m0), some (.int (ch))]) rfl ?_
  refine qp_aload_n dX4_sign_0 rfl ?_
  refine qp_iconst (v := 0) dX4_sign_1 (by decide) ?_
  refine qk_put dX4_sign_2 fX4_33 gm nm rfl rfl rfl rfl rfl (fun h1 g2 o3 => ?_)
  have g2 : h1 m0 = some (.inr (5, [.int (0), .int (sch), .ref sa, .int (nI z), .ref nw, .ref la, .int (th), .ref sh, .ref rcm, .int (cnt), .ref bf, .int (ps), .int (pp), .int (wr)])) := g2
  refine qp_aload_n dX4_sign_5 rfl ?_
  refine qp_getf dX4_sign_6 fX4_36 g2 rfl ?_
  refine qp_bipush (v := 60) dX4_sign_9 (by decide) ?_
  refine qp_icmp_ge 35 dX4_sign_11 (by decide) (fun c_11 => ?_) (fun c_11 => absurd ((nI_leI (a := 60) (by decide) (by omega)).mpr (by omega)) c_11)
  exact qr_v dX4_sign_35 rfl rfl rfl ⟨g2, fun b hb => (o3 b hb)⟩
set_option maxHeartbeats 4000000 in
set_option maxRecDepth 100000 in
theorem m_init0 (G : qG) {h : qH} {m0 : Nat} (scheme : Int32) (hsc : ¬ 1 ≤ scheme) (nm : G.2.1 ≤ m0) (gm : h m0 = some (.inr (5, [.int (0), .int (0), .null, .int (0), .null, .null, .int (0), .null, .null, .int (0), .null, .int (0), .int (0), .int (0)]))) : qMet G M_X4_init [.ref m0, .int scheme] h (qV (fun h1 => ∃ sa nw la sh rcm bf : Nat, G.2.1 ≤ sa ∧ G.2.1 ≤ nw ∧ G.2.1 ≤ la ∧ G.2.1 ≤ sh ∧ G.2.1 ≤ rcm ∧ G.2.1 ≤ bf ∧ h sa = none ∧ h nw = none ∧ h la = none ∧ h sh = none ∧ h rcm = none ∧ h bf = none ∧ nw ≠ la ∧ nw ≠ bf ∧ la ≠ bf ∧ h1 m0 = some (mdCell 0 0 sa 0 nw la 0 sh rcm 0 bf 0 0 0) ∧ h1 sa = some (saCell (fun _ => 0)) ∧ h1 nw = some (rwCell (fun _ => 0)) ∧ h1 la = some (rwCell (fun _ => 0)) ∧ h1 sh = some (mshCell (fun _ => 0)) ∧ h1 rcm = some (rcCell (fun _ => 0)) ∧ h1 bf = some (rwCell (fun _ => 0)) ∧ ∀ b : Nat, b ≠ m0 → b ≠ sa → b ≠ nw → b ≠ la → b ≠ sh → b ≠ rcm → b ≠ bf → h1 b = h b)) := by
  refine qMet.of (by decide) (Nat.le_of_ble_eq_true rfl) rfl ?_
  refine QP.locsE (L1 := [some (.ref m0), some (.int (scheme))]) rfl ?_
  refine qp_aload_n dX4_init_0 rfl ?_
  refine qp_objInit dX4_init_1 oiX4_1 oi_in oi_cd (Nat.le_of_ble_eq_true rfl) (Nat.le_of_ble_eq_true rfl) ?_
  refine qp_aload_n dX4_init_4 rfl ?_
  refine qp_bipush (v := 60) dX4_init_5 (by decide) ?_
  refine qk_newaB 60 dX4_init_7 acB (by decide) (by decide) (by decide) rfl rfl (fun sa h1 n4 z5 g2 o3 => ?_)
  have z6 : h sa = none := z5
  have g7 : h1 m0 = some (.inr (5, [.int (0), .int (0), .null, .int (0), .null, .null, .int (0), .null, .null, .int (0), .null, .int (0), .int (0), .int (0)])) := (o3 _ (ne_of_none gm z5)).trans gm
  have g2 : h1 sa = some (.inl (1, 60, .inl (fun _ => 0))) := g2
  refine qk_putF dX4_init_9 ffX4_7 g7 nm rfl rfl rfl rfl rfl rfl rfl (fun h8 g9 o10 => ?_)
  have g11 : h8 sa = some (.inl (1, 60, .inl (fun _ => 0))) := (o10 _ (ne_of_cells g2 g7 (by simp))).trans g2
  have g9 : h8 m0 = some (.inr (5, [.int (0), .int (0), .ref sa, .int (0), .null, .null, .int (0), .null, .null, .int (0), .null, .int (0), .int (0), .int (0)])) := g9
  refine qp_aload_n dX4_init_12 rfl ?_
  refine qp_bipush (v := 40) dX4_init_13 (by decide) ?_
  refine qk_newaI 40 dX4_init_15 acI (by decide) (by decide) (by decide) rfl rfl (fun nw h12 n15 z16 g13 o14 => ?_)
  have z17 : h nw = none := (((o10 nw (Ne.symm (ne_of_none g9 z16))).trans (o3 nw (Ne.symm (ne_of_none g11 z16))))).symm.trans z16
  have g18 : h12 sa = some (.inl (1, 60, .inl (fun _ => 0))) := (o14 _ (ne_of_none g11 z16)).trans g11
  have g19 : h12 m0 = some (.inr (5, [.int (0), .int (0), .ref sa, .int (0), .null, .null, .int (0), .null, .null, .int (0), .null, .int (0), .int (0), .int (0)])) := (o14 _ (ne_of_none g9 z16)).trans g9
  have g13 : h12 nw = some (.inl (0, 40, .inl (fun _ => 0))) := g13
  refine qk_putF dX4_init_17 ffX4_13 g19 nm rfl rfl rfl rfl rfl rfl rfl (fun h20 g21 o22 => ?_)
  have g23 : h20 sa = some (.inl (1, 60, .inl (fun _ => 0))) := (o22 _ (ne_of_cells g18 g19 (by simp))).trans g18
  have g24 : h20 nw = some (.inl (0, 40, .inl (fun _ => 0))) := (o22 _ (ne_of_cells g13 g19 (by simp))).trans g13
  have g21 : h20 m0 = some (.inr (5, [.int (0), .int (0), .ref sa, .int (0), .ref nw, .null, .int (0), .null, .null, .int (0), .null, .int (0), .int (0), .int (0)])) := g21
  refine qp_aload_n dX4_init_20 rfl ?_
  refine qp_bipush (v := 40) dX4_init_21 (by decide) ?_
  refine qk_newaI 40 dX4_init_23 acI (by decide) (by decide) (by decide) rfl rfl (fun la h25 n28 z29 g26 o27 => ?_)
  have hnl : nw ≠ la := ne_of_none g24 z29
  have z30 : h la = none := (((((o22 la (Ne.symm (ne_of_none g21 z29))).trans (o14 la (Ne.symm (ne_of_none g24 z29)))).trans (o10 la (Ne.symm (ne_of_none g21 z29)))).trans (o3 la (Ne.symm (ne_of_none g23 z29))))).symm.trans z29
  have g31 : h25 sa = some (.inl (1, 60, .inl (fun _ => 0))) := (o27 _ (ne_of_none g23 z29)).trans g23
  have g32 : h25 nw = some (.inl (0, 40, .inl (fun _ => 0))) := (o27 _ (ne_of_none g24 z29)).trans g24
  have g33 : h25 m0 = some (.inr (5, [.int (0), .int (0), .ref sa, .int (0), .ref nw, .null, .int (0), .null, .null, .int (0), .null, .int (0), .int (0), .int (0)])) := (o27 _ (ne_of_none g21 z29)).trans g21
  have g26 : h25 la = some (.inl (0, 40, .inl (fun _ => 0))) := g26
  refine qk_putF dX4_init_25 ffX4_17 g33 nm rfl rfl rfl rfl rfl rfl rfl (fun h34 g35 o36 => ?_)
  have g37 : h34 sa = some (.inl (1, 60, .inl (fun _ => 0))) := (o36 _ (ne_of_cells g31 g33 (by simp))).trans g31
  have g38 : h34 nw = some (.inl (0, 40, .inl (fun _ => 0))) := (o36 _ (ne_of_cells g32 g33 (by simp))).trans g32
  have g39 : h34 la = some (.inl (0, 40, .inl (fun _ => 0))) := (o36 _ (ne_of_cells g26 g33 (by simp))).trans g26
  have g35 : h34 m0 = some (.inr (5, [.int (0), .int (0), .ref sa, .int (0), .ref nw, .ref la, .int (0), .null, .null, .int (0), .null, .int (0), .int (0), .int (0)])) := g35
  refine qp_aload_n dX4_init_28 rfl ?_
  refine qp_sipush (v := 2400) dX4_init_29 (by decide) ?_
  refine qk_newaI 2400 dX4_init_32 acI (by decide) (by decide) (by decide) rfl rfl (fun sh h40 n43 z44 g41 o42 => ?_)
  have z45 : h sh = none := (((((((o36 sh (Ne.symm (ne_of_none g35 z44))).trans (o27 sh (Ne.symm (ne_of_none g39 z44)))).trans (o22 sh (Ne.symm (ne_of_none g35 z44)))).trans (o14 sh (Ne.symm (ne_of_none g38 z44)))).trans (o10 sh (Ne.symm (ne_of_none g35 z44)))).trans (o3 sh (Ne.symm (ne_of_none g37 z44))))).symm.trans z44
  have g46 : h40 sa = some (.inl (1, 60, .inl (fun _ => 0))) := (o42 _ (ne_of_none g37 z44)).trans g37
  have g47 : h40 nw = some (.inl (0, 40, .inl (fun _ => 0))) := (o42 _ (ne_of_none g38 z44)).trans g38
  have g48 : h40 la = some (.inl (0, 40, .inl (fun _ => 0))) := (o42 _ (ne_of_none g39 z44)).trans g39
  have g49 : h40 m0 = some (.inr (5, [.int (0), .int (0), .ref sa, .int (0), .ref nw, .ref la, .int (0), .null, .null, .int (0), .null, .int (0), .int (0), .int (0)])) := (o42 _ (ne_of_none g35 z44)).trans g35
  have g41 : h40 sh = some (.inl (0, 2400, .inl (fun _ => 0))) := g41
  refine qk_putF dX4_init_34 ffX4_20 g49 nm rfl rfl rfl rfl rfl rfl rfl (fun h50 g51 o52 => ?_)
  have g53 : h50 sa = some (.inl (1, 60, .inl (fun _ => 0))) := (o52 _ (ne_of_cells g46 g49 (by simp))).trans g46
  have g54 : h50 nw = some (.inl (0, 40, .inl (fun _ => 0))) := (o52 _ (ne_of_cells g47 g49 (by simp))).trans g47
  have g55 : h50 la = some (.inl (0, 40, .inl (fun _ => 0))) := (o52 _ (ne_of_cells g48 g49 (by simp))).trans g48
  have g56 : h50 sh = some (.inl (0, 2400, .inl (fun _ => 0))) := (o52 _ (ne_of_cells g41 g49 (by simp))).trans g41
  have g51 : h50 m0 = some (.inr (5, [.int (0), .int (0), .ref sa, .int (0), .ref nw, .ref la, .int (0), .ref sh, .null, .int (0), .null, .int (0), .int (0), .int (0)])) := g51
  refine qp_aload_n dX4_init_37 rfl ?_
  refine qp_bipush (v := 60) dX4_init_38 (by decide) ?_
  refine qk_newaI 60 dX4_init_40 acI (by decide) (by decide) (by decide) rfl rfl (fun rcm h57 n60 z61 g58 o59 => ?_)
  have z62 : h rcm = none := (((((((((o52 rcm (Ne.symm (ne_of_none g51 z61))).trans (o42 rcm (Ne.symm (ne_of_none g56 z61)))).trans (o36 rcm (Ne.symm (ne_of_none g51 z61)))).trans (o27 rcm (Ne.symm (ne_of_none g55 z61)))).trans (o22 rcm (Ne.symm (ne_of_none g51 z61)))).trans (o14 rcm (Ne.symm (ne_of_none g54 z61)))).trans (o10 rcm (Ne.symm (ne_of_none g51 z61)))).trans (o3 rcm (Ne.symm (ne_of_none g53 z61))))).symm.trans z61
  have g63 : h57 sa = some (.inl (1, 60, .inl (fun _ => 0))) := (o59 _ (ne_of_none g53 z61)).trans g53
  have g64 : h57 nw = some (.inl (0, 40, .inl (fun _ => 0))) := (o59 _ (ne_of_none g54 z61)).trans g54
  have g65 : h57 la = some (.inl (0, 40, .inl (fun _ => 0))) := (o59 _ (ne_of_none g55 z61)).trans g55
  have g66 : h57 sh = some (.inl (0, 2400, .inl (fun _ => 0))) := (o59 _ (ne_of_none g56 z61)).trans g56
  have g67 : h57 m0 = some (.inr (5, [.int (0), .int (0), .ref sa, .int (0), .ref nw, .ref la, .int (0), .ref sh, .null, .int (0), .null, .int (0), .int (0), .int (0)])) := (o59 _ (ne_of_none g51 z61)).trans g51
  have g58 : h57 rcm = some (.inl (0, 60, .inl (fun _ => 0))) := g58
  refine qk_putF dX4_init_42 ffX4_23 g67 nm rfl rfl rfl rfl rfl rfl rfl (fun h68 g69 o70 => ?_)
  have g71 : h68 sa = some (.inl (1, 60, .inl (fun _ => 0))) := (o70 _ (ne_of_cells g63 g67 (by simp))).trans g63
  have g72 : h68 nw = some (.inl (0, 40, .inl (fun _ => 0))) := (o70 _ (ne_of_cells g64 g67 (by simp))).trans g64
  have g73 : h68 la = some (.inl (0, 40, .inl (fun _ => 0))) := (o70 _ (ne_of_cells g65 g67 (by simp))).trans g65
  have g74 : h68 sh = some (.inl (0, 2400, .inl (fun _ => 0))) := (o70 _ (ne_of_cells g66 g67 (by simp))).trans g66
  have g75 : h68 rcm = some (.inl (0, 60, .inl (fun _ => 0))) := (o70 _ (ne_of_cells g58 g67 (by simp))).trans g58
  have g69 : h68 m0 = some (.inr (5, [.int (0), .int (0), .ref sa, .int (0), .ref nw, .ref la, .int (0), .ref sh, .ref rcm, .int (0), .null, .int (0), .int (0), .int (0)])) := g69
  refine qp_aload_n dX4_init_45 rfl ?_
  refine qp_bipush (v := 40) dX4_init_46 (by decide) ?_
  refine qk_newaI 40 dX4_init_48 acI (by decide) (by decide) (by decide) rfl rfl (fun bf h76 n79 z80 g77 o78 => ?_)
  have hnb : nw ≠ bf := ne_of_none g72 z80
  have hlb : la ≠ bf := ne_of_none g73 z80
  have z81 : h bf = none := (((((((((((o70 bf (Ne.symm (ne_of_none g69 z80))).trans (o59 bf (Ne.symm (ne_of_none g75 z80)))).trans (o52 bf (Ne.symm (ne_of_none g69 z80)))).trans (o42 bf (Ne.symm (ne_of_none g74 z80)))).trans (o36 bf (Ne.symm (ne_of_none g69 z80)))).trans (o27 bf (Ne.symm (ne_of_none g73 z80)))).trans (o22 bf (Ne.symm (ne_of_none g69 z80)))).trans (o14 bf (Ne.symm (ne_of_none g72 z80)))).trans (o10 bf (Ne.symm (ne_of_none g69 z80)))).trans (o3 bf (Ne.symm (ne_of_none g71 z80))))).symm.trans z80
  have g82 : h76 sa = some (.inl (1, 60, .inl (fun _ => 0))) := (o78 _ (ne_of_none g71 z80)).trans g71
  have g83 : h76 nw = some (.inl (0, 40, .inl (fun _ => 0))) := (o78 _ (ne_of_none g72 z80)).trans g72
  have g84 : h76 la = some (.inl (0, 40, .inl (fun _ => 0))) := (o78 _ (ne_of_none g73 z80)).trans g73
  have g85 : h76 sh = some (.inl (0, 2400, .inl (fun _ => 0))) := (o78 _ (ne_of_none g74 z80)).trans g74
  have g86 : h76 rcm = some (.inl (0, 60, .inl (fun _ => 0))) := (o78 _ (ne_of_none g75 z80)).trans g75
  have g87 : h76 m0 = some (.inr (5, [.int (0), .int (0), .ref sa, .int (0), .ref nw, .ref la, .int (0), .ref sh, .ref rcm, .int (0), .null, .int (0), .int (0), .int (0)])) := (o78 _ (ne_of_none g69 z80)).trans g69
  have g77 : h76 bf = some (.inl (0, 40, .inl (fun _ => 0))) := g77
  refine qk_putF dX4_init_50 ffX4_26 g87 nm rfl rfl rfl rfl rfl rfl rfl (fun h88 g89 o90 => ?_)
  have g91 : h88 sa = some (.inl (1, 60, .inl (fun _ => 0))) := (o90 _ (ne_of_cells g82 g87 (by simp))).trans g82
  have g92 : h88 nw = some (.inl (0, 40, .inl (fun _ => 0))) := (o90 _ (ne_of_cells g83 g87 (by simp))).trans g83
  have g93 : h88 la = some (.inl (0, 40, .inl (fun _ => 0))) := (o90 _ (ne_of_cells g84 g87 (by simp))).trans g84
  have g94 : h88 sh = some (.inl (0, 2400, .inl (fun _ => 0))) := (o90 _ (ne_of_cells g85 g87 (by simp))).trans g85
  have g95 : h88 rcm = some (.inl (0, 60, .inl (fun _ => 0))) := (o90 _ (ne_of_cells g86 g87 (by simp))).trans g86
  have g96 : h88 bf = some (.inl (0, 40, .inl (fun _ => 0))) := (o90 _ (ne_of_cells g77 g87 (by simp))).trans g77
  have g89 : h88 m0 = some (.inr (5, [.int (0), .int (0), .ref sa, .int (0), .ref nw, .ref la, .int (0), .ref sh, .ref rcm, .int (0), .ref bf, .int (0), .int (0), .int (0)])) := g89
  refine qp_aload_n dX4_init_53 rfl ?_
  refine qp_iload_n dX4_init_54 rfl ?_
  refine qp_iconst (v := 1) dX4_init_55 (by decide) ?_
  refine qp_icmp_ge 63 dX4_init_56 (by decide) (fun c_56 => absurd c_56 hsc) (fun c_56 => ?_)
  refine qp_iconst (v := 0) dX4_init_59 (by decide) ?_
  refine qp_goto 64 dX4_init_60 (by decide) ?_
  refine qk_putF dX4_init_64 ffX4_29 g89 nm rfl rfl rfl rfl rfl rfl rfl (fun h97 g98 o99 => ?_)
  have g100 : h97 sa = some (.inl (1, 60, .inl (fun _ => 0))) := (o99 _ (ne_of_cells g91 g89 (by simp))).trans g91
  have g101 : h97 nw = some (.inl (0, 40, .inl (fun _ => 0))) := (o99 _ (ne_of_cells g92 g89 (by simp))).trans g92
  have g102 : h97 la = some (.inl (0, 40, .inl (fun _ => 0))) := (o99 _ (ne_of_cells g93 g89 (by simp))).trans g93
  have g103 : h97 sh = some (.inl (0, 2400, .inl (fun _ => 0))) := (o99 _ (ne_of_cells g94 g89 (by simp))).trans g94
  have g104 : h97 rcm = some (.inl (0, 60, .inl (fun _ => 0))) := (o99 _ (ne_of_cells g95 g89 (by simp))).trans g95
  have g105 : h97 bf = some (.inl (0, 40, .inl (fun _ => 0))) := (o99 _ (ne_of_cells g96 g89 (by simp))).trans g96
  have g98 : h97 m0 = some (.inr (5, [.int (0), .int (0), .ref sa, .int (0), .ref nw, .ref la, .int (0), .ref sh, .ref rcm, .int (0), .ref bf, .int (0), .int (0), .int (0)])) := g98
  exact qr_v dX4_init_67 rfl rfl rfl ⟨sa, nw, la, sh, rcm, bf, n4, n15, n28, n43, n60, n79, z6, z17, z30, z45, z62, z81, hnl, hnb, hlb, g98, g100, g101, g102, g103, g104, g105, fun b hb0 hb1 hb2 hb3 hb4 hb5 hb6 => (((((((((((((o99 b hb0).trans (o90 b hb0)).trans (o78 b hb6)).trans (o70 b hb0)).trans (o59 b hb5)).trans (o52 b hb0)).trans (o42 b hb4)).trans (o36 b hb0)).trans (o27 b hb3)).trans (o22 b hb0)).trans (o14 b hb2)).trans (o10 b hb0)).trans (o3 b hb1))⟩
set_option maxHeartbeats 4000000 in
set_option maxRecDepth 100000 in
theorem m_init1 (G : qG) {h : qH} {m0 : Nat} (scheme : Int32) (hsc : 1 ≤ scheme) (nm : G.2.1 ≤ m0) (gm : h m0 = some (.inr (5, [.int (0), .int (0), .null, .int (0), .null, .null, .int (0), .null, .null, .int (0), .null, .int (0), .int (0), .int (0)]))) : qMet G M_X4_init [.ref m0, .int scheme] h (qV (fun h1 => ∃ sa nw la sh rcm bf : Nat, G.2.1 ≤ sa ∧ G.2.1 ≤ nw ∧ G.2.1 ≤ la ∧ G.2.1 ≤ sh ∧ G.2.1 ≤ rcm ∧ G.2.1 ≤ bf ∧ h sa = none ∧ h nw = none ∧ h la = none ∧ h sh = none ∧ h rcm = none ∧ h bf = none ∧ nw ≠ la ∧ nw ≠ bf ∧ la ≠ bf ∧ h1 m0 = some (mdCell 0 1 sa 0 nw la 0 sh rcm 0 bf 0 0 0) ∧ h1 sa = some (saCell (fun _ => 0)) ∧ h1 nw = some (rwCell (fun _ => 0)) ∧ h1 la = some (rwCell (fun _ => 0)) ∧ h1 sh = some (mshCell (fun _ => 0)) ∧ h1 rcm = some (rcCell (fun _ => 0)) ∧ h1 bf = some (rwCell (fun _ => 0)) ∧ ∀ b : Nat, b ≠ m0 → b ≠ sa → b ≠ nw → b ≠ la → b ≠ sh → b ≠ rcm → b ≠ bf → h1 b = h b)) := by
  refine qMet.of (by decide) (Nat.le_of_ble_eq_true rfl) rfl ?_
  refine QP.locsE (L1 := [some (.ref m0), some (.int (scheme))]) rfl ?_
  refine qp_aload_n dX4_init_0 rfl ?_
  refine qp_objInit dX4_init_1 oiX4_1 oi_in oi_cd (Nat.le_of_ble_eq_true rfl) (Nat.le_of_ble_eq_true rfl) ?_
  refine qp_aload_n dX4_init_4 rfl ?_
  refine qp_bipush (v := 60) dX4_init_5 (by decide) ?_
  refine qk_newaB 60 dX4_init_7 acB (by decide) (by decide) (by decide) rfl rfl (fun sa h1 n4 z5 g2 o3 => ?_)
  have z6 : h sa = none := z5
  have g7 : h1 m0 = some (.inr (5, [.int (0), .int (0), .null, .int (0), .null, .null, .int (0), .null, .null, .int (0), .null, .int (0), .int (0), .int (0)])) := (o3 _ (ne_of_none gm z5)).trans gm
  have g2 : h1 sa = some (.inl (1, 60, .inl (fun _ => 0))) := g2
  refine qk_putF dX4_init_9 ffX4_7 g7 nm rfl rfl rfl rfl rfl rfl rfl (fun h8 g9 o10 => ?_)
  have g11 : h8 sa = some (.inl (1, 60, .inl (fun _ => 0))) := (o10 _ (ne_of_cells g2 g7 (by simp))).trans g2
  have g9 : h8 m0 = some (.inr (5, [.int (0), .int (0), .ref sa, .int (0), .null, .null, .int (0), .null, .null, .int (0), .null, .int (0), .int (0), .int (0)])) := g9
  refine qp_aload_n dX4_init_12 rfl ?_
  refine qp_bipush (v := 40) dX4_init_13 (by decide) ?_
  refine qk_newaI 40 dX4_init_15 acI (by decide) (by decide) (by decide) rfl rfl (fun nw h12 n15 z16 g13 o14 => ?_)
  have z17 : h nw = none := (((o10 nw (Ne.symm (ne_of_none g9 z16))).trans (o3 nw (Ne.symm (ne_of_none g11 z16))))).symm.trans z16
  have g18 : h12 sa = some (.inl (1, 60, .inl (fun _ => 0))) := (o14 _ (ne_of_none g11 z16)).trans g11
  have g19 : h12 m0 = some (.inr (5, [.int (0), .int (0), .ref sa, .int (0), .null, .null, .int (0), .null, .null, .int (0), .null, .int (0), .int (0), .int (0)])) := (o14 _ (ne_of_none g9 z16)).trans g9
  have g13 : h12 nw = some (.inl (0, 40, .inl (fun _ => 0))) := g13
  refine qk_putF dX4_init_17 ffX4_13 g19 nm rfl rfl rfl rfl rfl rfl rfl (fun h20 g21 o22 => ?_)
  have g23 : h20 sa = some (.inl (1, 60, .inl (fun _ => 0))) := (o22 _ (ne_of_cells g18 g19 (by simp))).trans g18
  have g24 : h20 nw = some (.inl (0, 40, .inl (fun _ => 0))) := (o22 _ (ne_of_cells g13 g19 (by simp))).trans g13
  have g21 : h20 m0 = some (.inr (5, [.int (0), .int (0), .ref sa, .int (0), .ref nw, .null, .int (0), .null, .null, .int (0), .null, .int (0), .int (0), .int (0)])) := g21
  refine qp_aload_n dX4_init_20 rfl ?_
  refine qp_bipush (v := 40) dX4_init_21 (by decide) ?_
  refine qk_newaI 40 dX4_init_23 acI (by decide) (by decide) (by decide) rfl rfl (fun la h25 n28 z29 g26 o27 => ?_)
  have hnl : nw ≠ la := ne_of_none g24 z29
  have z30 : h la = none := (((((o22 la (Ne.symm (ne_of_none g21 z29))).trans (o14 la (Ne.symm (ne_of_none g24 z29)))).trans (o10 la (Ne.symm (ne_of_none g21 z29)))).trans (o3 la (Ne.symm (ne_of_none g23 z29))))).symm.trans z29
  have g31 : h25 sa = some (.inl (1, 60, .inl (fun _ => 0))) := (o27 _ (ne_of_none g23 z29)).trans g23
  have g32 : h25 nw = some (.inl (0, 40, .inl (fun _ => 0))) := (o27 _ (ne_of_none g24 z29)).trans g24
  have g33 : h25 m0 = some (.inr (5, [.int (0), .int (0), .ref sa, .int (0), .ref nw, .null, .int (0), .null, .null, .int (0), .null, .int (0), .int (0), .int (0)])) := (o27 _ (ne_of_none g21 z29)).trans g21
  have g26 : h25 la = some (.inl (0, 40, .inl (fun _ => 0))) := g26
  refine qk_putF dX4_init_25 ffX4_17 g33 nm rfl rfl rfl rfl rfl rfl rfl (fun h34 g35 o36 => ?_)
  have g37 : h34 sa = some (.inl (1, 60, .inl (fun _ => 0))) := (o36 _ (ne_of_cells g31 g33 (by simp))).trans g31
  have g38 : h34 nw = some (.inl (0, 40, .inl (fun _ => 0))) := (o36 _ (ne_of_cells g32 g33 (by simp))).trans g32
  have g39 : h34 la = some (.inl (0, 40, .inl (fun _ => 0))) := (o36 _ (ne_of_cells g26 g33 (by simp))).trans g26
  have g35 : h34 m0 = some (.inr (5, [.int (0), .int (0), .ref sa, .int (0), .ref nw, .ref la, .int (0), .null, .null, .int (0), .null, .int (0), .int (0), .int (0)])) := g35
  refine qp_aload_n dX4_init_28 rfl ?_
  refine qp_sipush (v := 2400) dX4_init_29 (by decide) ?_
  refine qk_newaI 2400 dX4_init_32 acI (by decide) (by decide) (by decide) rfl rfl (fun sh h40 n43 z44 g41 o42 => ?_)
  have z45 : h sh = none := (((((((o36 sh (Ne.symm (ne_of_none g35 z44))).trans (o27 sh (Ne.symm (ne_of_none g39 z44)))).trans (o22 sh (Ne.symm (ne_of_none g35 z44)))).trans (o14 sh (Ne.symm (ne_of_none g38 z44)))).trans (o10 sh (Ne.symm (ne_of_none g35 z44)))).trans (o3 sh (Ne.symm (ne_of_none g37 z44))))).symm.trans z44
  have g46 : h40 sa = some (.inl (1, 60, .inl (fun _ => 0))) := (o42 _ (ne_of_none g37 z44)).trans g37
  have g47 : h40 nw = some (.inl (0, 40, .inl (fun _ => 0))) := (o42 _ (ne_of_none g38 z44)).trans g38
  have g48 : h40 la = some (.inl (0, 40, .inl (fun _ => 0))) := (o42 _ (ne_of_none g39 z44)).trans g39
  have g49 : h40 m0 = some (.inr (5, [.int (0), .int (0), .ref sa, .int (0), .ref nw, .ref la, .int (0), .null, .null, .int (0), .null, .int (0), .int (0), .int (0)])) := (o42 _ (ne_of_none g35 z44)).trans g35
  have g41 : h40 sh = some (.inl (0, 2400, .inl (fun _ => 0))) := g41
  refine qk_putF dX4_init_34 ffX4_20 g49 nm rfl rfl rfl rfl rfl rfl rfl (fun h50 g51 o52 => ?_)
  have g53 : h50 sa = some (.inl (1, 60, .inl (fun _ => 0))) := (o52 _ (ne_of_cells g46 g49 (by simp))).trans g46
  have g54 : h50 nw = some (.inl (0, 40, .inl (fun _ => 0))) := (o52 _ (ne_of_cells g47 g49 (by simp))).trans g47
  have g55 : h50 la = some (.inl (0, 40, .inl (fun _ => 0))) := (o52 _ (ne_of_cells g48 g49 (by simp))).trans g48
  have g56 : h50 sh = some (.inl (0, 2400, .inl (fun _ => 0))) := (o52 _ (ne_of_cells g41 g49 (by simp))).trans g41
  have g51 : h50 m0 = some (.inr (5, [.int (0), .int (0), .ref sa, .int (0), .ref nw, .ref la, .int (0), .ref sh, .null, .int (0), .null, .int (0), .int (0), .int (0)])) := g51
  refine qp_aload_n dX4_init_37 rfl ?_
  refine qp_bipush (v := 60) dX4_init_38 (by decide) ?_
  refine qk_newaI 60 dX4_init_40 acI (by decide) (by decide) (by decide) rfl rfl (fun rcm h57 n60 z61 g58 o59 => ?_)
  have z62 : h rcm = none := (((((((((o52 rcm (Ne.symm (ne_of_none g51 z61))).trans (o42 rcm (Ne.symm (ne_of_none g56 z61)))).trans (o36 rcm (Ne.symm (ne_of_none g51 z61)))).trans (o27 rcm (Ne.symm (ne_of_none g55 z61)))).trans (o22 rcm (Ne.symm (ne_of_none g51 z61)))).trans (o14 rcm (Ne.symm (ne_of_none g54 z61)))).trans (o10 rcm (Ne.symm (ne_of_none g51 z61)))).trans (o3 rcm (Ne.symm (ne_of_none g53 z61))))).symm.trans z61
  have g63 : h57 sa = some (.inl (1, 60, .inl (fun _ => 0))) := (o59 _ (ne_of_none g53 z61)).trans g53
  have g64 : h57 nw = some (.inl (0, 40, .inl (fun _ => 0))) := (o59 _ (ne_of_none g54 z61)).trans g54
  have g65 : h57 la = some (.inl (0, 40, .inl (fun _ => 0))) := (o59 _ (ne_of_none g55 z61)).trans g55
  have g66 : h57 sh = some (.inl (0, 2400, .inl (fun _ => 0))) := (o59 _ (ne_of_none g56 z61)).trans g56
  have g67 : h57 m0 = some (.inr (5, [.int (0), .int (0), .ref sa, .int (0), .ref nw, .ref la, .int (0), .ref sh, .null, .int (0), .null, .int (0), .int (0), .int (0)])) := (o59 _ (ne_of_none g51 z61)).trans g51
  have g58 : h57 rcm = some (.inl (0, 60, .inl (fun _ => 0))) := g58
  refine qk_putF dX4_init_42 ffX4_23 g67 nm rfl rfl rfl rfl rfl rfl rfl (fun h68 g69 o70 => ?_)
  have g71 : h68 sa = some (.inl (1, 60, .inl (fun _ => 0))) := (o70 _ (ne_of_cells g63 g67 (by simp))).trans g63
  have g72 : h68 nw = some (.inl (0, 40, .inl (fun _ => 0))) := (o70 _ (ne_of_cells g64 g67 (by simp))).trans g64
  have g73 : h68 la = some (.inl (0, 40, .inl (fun _ => 0))) := (o70 _ (ne_of_cells g65 g67 (by simp))).trans g65
  have g74 : h68 sh = some (.inl (0, 2400, .inl (fun _ => 0))) := (o70 _ (ne_of_cells g66 g67 (by simp))).trans g66
  have g75 : h68 rcm = some (.inl (0, 60, .inl (fun _ => 0))) := (o70 _ (ne_of_cells g58 g67 (by simp))).trans g58
  have g69 : h68 m0 = some (.inr (5, [.int (0), .int (0), .ref sa, .int (0), .ref nw, .ref la, .int (0), .ref sh, .ref rcm, .int (0), .null, .int (0), .int (0), .int (0)])) := g69
  refine qp_aload_n dX4_init_45 rfl ?_
  refine qp_bipush (v := 40) dX4_init_46 (by decide) ?_
  refine qk_newaI 40 dX4_init_48 acI (by decide) (by decide) (by decide) rfl rfl (fun bf h76 n79 z80 g77 o78 => ?_)
  have hnb : nw ≠ bf := ne_of_none g72 z80
  have hlb : la ≠ bf := ne_of_none g73 z80
  have z81 : h bf = none := (((((((((((o70 bf (Ne.symm (ne_of_none g69 z80))).trans (o59 bf (Ne.symm (ne_of_none g75 z80)))).trans (o52 bf (Ne.symm (ne_of_none g69 z80)))).trans (o42 bf (Ne.symm (ne_of_none g74 z80)))).trans (o36 bf (Ne.symm (ne_of_none g69 z80)))).trans (o27 bf (Ne.symm (ne_of_none g73 z80)))).trans (o22 bf (Ne.symm (ne_of_none g69 z80)))).trans (o14 bf (Ne.symm (ne_of_none g72 z80)))).trans (o10 bf (Ne.symm (ne_of_none g69 z80)))).trans (o3 bf (Ne.symm (ne_of_none g71 z80))))).symm.trans z80
  have g82 : h76 sa = some (.inl (1, 60, .inl (fun _ => 0))) := (o78 _ (ne_of_none g71 z80)).trans g71
  have g83 : h76 nw = some (.inl (0, 40, .inl (fun _ => 0))) := (o78 _ (ne_of_none g72 z80)).trans g72
  have g84 : h76 la = some (.inl (0, 40, .inl (fun _ => 0))) := (o78 _ (ne_of_none g73 z80)).trans g73
  have g85 : h76 sh = some (.inl (0, 2400, .inl (fun _ => 0))) := (o78 _ (ne_of_none g74 z80)).trans g74
  have g86 : h76 rcm = some (.inl (0, 60, .inl (fun _ => 0))) := (o78 _ (ne_of_none g75 z80)).trans g75
  have g87 : h76 m0 = some (.inr (5, [.int (0), .int (0), .ref sa, .int (0), .ref nw, .ref la, .int (0), .ref sh, .ref rcm, .int (0), .null, .int (0), .int (0), .int (0)])) := (o78 _ (ne_of_none g69 z80)).trans g69
  have g77 : h76 bf = some (.inl (0, 40, .inl (fun _ => 0))) := g77
  refine qk_putF dX4_init_50 ffX4_26 g87 nm rfl rfl rfl rfl rfl rfl rfl (fun h88 g89 o90 => ?_)
  have g91 : h88 sa = some (.inl (1, 60, .inl (fun _ => 0))) := (o90 _ (ne_of_cells g82 g87 (by simp))).trans g82
  have g92 : h88 nw = some (.inl (0, 40, .inl (fun _ => 0))) := (o90 _ (ne_of_cells g83 g87 (by simp))).trans g83
  have g93 : h88 la = some (.inl (0, 40, .inl (fun _ => 0))) := (o90 _ (ne_of_cells g84 g87 (by simp))).trans g84
  have g94 : h88 sh = some (.inl (0, 2400, .inl (fun _ => 0))) := (o90 _ (ne_of_cells g85 g87 (by simp))).trans g85
  have g95 : h88 rcm = some (.inl (0, 60, .inl (fun _ => 0))) := (o90 _ (ne_of_cells g86 g87 (by simp))).trans g86
  have g96 : h88 bf = some (.inl (0, 40, .inl (fun _ => 0))) := (o90 _ (ne_of_cells g77 g87 (by simp))).trans g77
  have g89 : h88 m0 = some (.inr (5, [.int (0), .int (0), .ref sa, .int (0), .ref nw, .ref la, .int (0), .ref sh, .ref rcm, .int (0), .ref bf, .int (0), .int (0), .int (0)])) := g89
  refine qp_aload_n dX4_init_53 rfl ?_
  refine qp_iload_n dX4_init_54 rfl ?_
  refine qp_iconst (v := 1) dX4_init_55 (by decide) ?_
  refine qp_icmp_ge 63 dX4_init_56 (by decide) (fun c_56 => ?_) (fun c_56 => absurd hsc c_56)
  refine qp_iconst (v := 1) dX4_init_63 (by decide) ?_
  refine qk_putF dX4_init_64 ffX4_29 g89 nm rfl rfl rfl rfl rfl rfl rfl (fun h97 g98 o99 => ?_)
  have g100 : h97 sa = some (.inl (1, 60, .inl (fun _ => 0))) := (o99 _ (ne_of_cells g91 g89 (by simp))).trans g91
  have g101 : h97 nw = some (.inl (0, 40, .inl (fun _ => 0))) := (o99 _ (ne_of_cells g92 g89 (by simp))).trans g92
  have g102 : h97 la = some (.inl (0, 40, .inl (fun _ => 0))) := (o99 _ (ne_of_cells g93 g89 (by simp))).trans g93
  have g103 : h97 sh = some (.inl (0, 2400, .inl (fun _ => 0))) := (o99 _ (ne_of_cells g94 g89 (by simp))).trans g94
  have g104 : h97 rcm = some (.inl (0, 60, .inl (fun _ => 0))) := (o99 _ (ne_of_cells g95 g89 (by simp))).trans g95
  have g105 : h97 bf = some (.inl (0, 40, .inl (fun _ => 0))) := (o99 _ (ne_of_cells g96 g89 (by simp))).trans g96
  have g98 : h97 m0 = some (.inr (5, [.int (0), .int (1), .ref sa, .int (0), .ref nw, .ref la, .int (0), .ref sh, .ref rcm, .int (0), .ref bf, .int (0), .int (0), .int (0)])) := g98
  exact qr_v dX4_init_67 rfl rfl rfl ⟨sa, nw, la, sh, rcm, bf, n4, n15, n28, n43, n60, n79, z6, z17, z30, z45, z62, z81, hnl, hnb, hlb, g98, g100, g101, g102, g103, g104, g105, fun b hb0 hb1 hb2 hb3 hb4 hb5 hb6 => (((((((((((((o99 b hb0).trans (o90 b hb0)).trans (o78 b hb6)).trans (o70 b hb0)).trans (o59 b hb5)).trans (o52 b hb0)).trans (o42 b hb4)).trans (o36 b hb0)).trans (o27 b hb3)).trans (o22 b hb0)).trans (o14 b hb2)).trans (o10 b hb0)).trans (o3 b hb1))⟩
