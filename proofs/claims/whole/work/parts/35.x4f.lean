def pos32 (x : Int32) : Bool := decide (0 < x)
/-- digits of a row, one less each, as a number -/
def mVal (A : Nat → Int32) (fr : Nat) : Nat → Int64
  | 0 => 0
  | k + 1 => 10 * mVal A fr k + (if 0 < A (fr + k) then A (fr + k) - 1 else (0 : Int32)).toInt64
theorem runP_le3 : True := trivial
set_option maxHeartbeats 4000000 in
set_option maxRecDepth 100000 in
theorem lm_value {G : qG} {h : qH} {ra fr most : Nat} {A : Nat → Int32} (hfm : fr + most ≤ 40) (gl : h ra = some (rwCell A)) : ∀ (t k : Nat), most < k + t → k ≤ most → QP G M_X4_value qTr (qMZ G M_X4_value (qJ (fun v h1 => h1 = h ∧ v = mVal A fr most))) 5 [some (.ref ra), some (.int (nI fr)), some (.int (nI most)), some (.long (mVal A fr k)), none, some (.int (nI k))] [] h 0 0 := by
  intro t
  induction t with
  | zero =>
    intro k h1 h2
    omega
  | succ t ih =>
    intro k h1 h2
    refine qp_iload dX4_value_5 rfl ?_
    refine qp_iload_n dX4_value_7 rfl ?_
    refine qp_icmp_ge 46 dX4_value_8 (by decide) (fun c_8 => ?_) (fun c_8 => ?_)
    · have hk : most ≤ k := (nI_leI (by omega) (by omega)).mp c_8
      refine qp_lload_n dX4_value_46 rfl ?_
      exact qr_l dX4_value_47 rfl rfl rfl ⟨rfl, by rw [show k = most by omega]⟩
    · have hk : k < most := Nat.not_le.mp fun q => c_8 ((nI_leI (by omega) (by omega)).mpr q)
      refine qp_ldc2 dX4_value_11 klX4_95 ?_
      refine qp_lload_n dX4_value_14 rfl ?_
      refine qp_lmul dX4_value_15 ?_
      refine qp_aload_n dX4_value_16 rfl ?_
      refine qp_iload_n dX4_value_17 rfl ?_
      refine qp_iload dX4_value_18 rfl ?_
      refine qp_iadd dX4_value_20 ?_
      refine QP.topI (y := nI (fr + k)) (nI_add fr k) ?_
      refine qp_ialdN (fr + k) dX4_value_21 gl rfl (by omega) (by decide) ?_
      refine qp_if_le 36 dX4_value_22 (by decide) (fun c_22 => ?_) (fun c_22 => ?_)
      · refine qp_iconst (v := 0) dX4_value_36 (by decide) ?_
        refine qp_i2l dX4_value_37 ?_
        refine qp_ladd dX4_value_38 ?_
        refine QP.topJ (y := mVal A fr (k + 1)) (by simp only [mVal]; rw [if_neg (i32_nlt.mpr c_22)]) ?_
        refine qp_lstore_n dX4_value_39 (by decide) ?_
        refine QP.locsE (L1 := [some (.ref ra), some (.int (nI fr)), some (.int (nI most)), some (.long (mVal A fr (k + 1))), none, some (.int (nI k))]) rfl ?_
        refine qp_iinc (v := nI (k + 1)) dX4_value_40 rfl (by decide) (nI_1 k) ?_
        refine QP.locsE (L1 := [some (.ref ra), some (.int (nI fr)), some (.int (nI most)), some (.long (mVal A fr (k + 1))), none, some (.int (nI (k + 1)))]) rfl ?_
        refine qp_goto 5 dX4_value_43 (by decide) ?_
        exact ih (k + 1) (by omega) (by omega)
      · refine qp_aload_n dX4_value_25 rfl ?_
        refine qp_iload_n dX4_value_26 rfl ?_
        refine qp_iload dX4_value_27 rfl ?_
        refine qp_iadd dX4_value_29 ?_
        refine QP.topI (y := nI (fr + k)) (nI_add fr k) ?_
        refine qp_ialdN (fr + k) dX4_value_30 gl rfl (by omega) (by decide) ?_
        refine qp_iconst (v := 1) dX4_value_31 (by decide) ?_
        refine qp_isub dX4_value_32 ?_
        refine qp_goto 37 dX4_value_33 (by decide) ?_
        refine qp_i2l dX4_value_37 ?_
        refine qp_ladd dX4_value_38 ?_
        refine QP.topJ (y := mVal A fr (k + 1)) (by simp only [mVal]; rw [if_pos (i32_nle.mp c_22)]) ?_
        refine qp_lstore_n dX4_value_39 (by decide) ?_
        refine QP.locsE (L1 := [some (.ref ra), some (.int (nI fr)), some (.int (nI most)), some (.long (mVal A fr (k + 1))), none, some (.int (nI k))]) rfl ?_
        refine qp_iinc (v := nI (k + 1)) dX4_value_40 rfl (by decide) (nI_1 k) ?_
        refine QP.locsE (L1 := [some (.ref ra), some (.int (nI fr)), some (.int (nI most)), some (.long (mVal A fr (k + 1))), none, some (.int (nI (k + 1)))]) rfl ?_
        refine qp_goto 5 dX4_value_43 (by decide) ?_
        exact ih (k + 1) (by omega) (by omega)
set_option maxHeartbeats 4000000 in
set_option maxRecDepth 100000 in
theorem m_value (G : qG) {h : qH} {ra : Nat} {A : Nat → Int32} (fr most : Nat) (hfm : fr + most ≤ 40) (gl : h ra = some (rwCell A)) : qMet G M_X4_value [.ref ra, .int (nI fr), .int (nI most)] h (qJ (fun v h1 => h1 = h ∧ v = mVal A fr most)) := by
  refine qMet.of (by decide) (Nat.le_of_ble_eq_true rfl) rfl ?_
  refine QP.locsE (L1 := [some (.ref ra), some (.int (nI fr)), some (.int (nI most)), none, none, none]) rfl ?_
  refine qp_lconst (v := 0) dX4_value_0 (by decide) ?_
  refine qp_lstore_n dX4_value_1 (by decide) ?_
  refine QP.locsE (L1 := [some (.ref ra), some (.int (nI fr)), some (.int (nI most)), some (.long (0)), none, none]) rfl ?_
  refine qp_iconst (v := 0) dX4_value_2 (by decide) ?_
  refine qp_istore dX4_value_3 (by decide) ?_
  refine QP.locsE (L1 := [some (.ref ra), some (.int (nI fr)), some (.int (nI most)), some (.long (0)), none, some (.int (0))]) rfl ?_
  exact lm_value hfm gl (most + 1) 0 (by omega) (by omega)
set_option maxHeartbeats 4000000 in
set_option maxRecDepth 100000 in
theorem lm_marks {G : qG} {h : qH} {thr sch th cnt ps pp wr sz : Int32} {m0 sa nw la sh rcm bf : Nat} {A : Nat → Int32} (gm : h m0 = some (mdCell thr sch sa sz nw la th sh rcm cnt bf ps pp wr)) (gl : h la = some (rwCell A)) : ∀ (t n : Nat), 8 < n + t → n ≤ 8 → (∀ j, j < n → pos32 (A (26 + j)) = true) → QP G M_X4_marks qTr (qMZ G M_X4_marks (qI (fun v h1 => h1 = h ∧ v = nI (runP pos32 A 8 26)))) 2 [some (.ref m0), some (.int (nI n))] [] h 0 0 := by
  intro t
  induction t with
  | zero =>
    intro n h1 h2
    omega
  | succ t ih =>
    intro n h1 h2 hdig
    refine qp_iload_n dX4_marks_2 rfl ?_
    refine qp_bipush (v := 8) dX4_marks_3 (by decide) ?_
    refine qp_icmp_ge 26 dX4_marks_5 (by decide) (fun c_5 => ?_) (fun c_5 => ?_)
    · have hn : n = 8 := by have := (nI_leI (a := 8) (by decide) (by omega)).mp c_5; omega
      refine qp_iload_n dX4_marks_26 rfl ?_
      exact qr_i dX4_marks_27 rfl rfl rfl ⟨rfl, by rw [runP_all 8 26 (fun j hj => hdig j (by omega)), hn]⟩
    · have hn : n < 8 := Nat.not_le.mp fun q => c_5 ((nI_leI (a := 8) (by decide) (by omega)).mpr q)
      refine qp_aload_n dX4_marks_8 rfl ?_
      refine qp_getf dX4_marks_9 fX4_17 gm rfl ?_
      refine qp_bipush (v := 26) dX4_marks_12 (by decide) ?_
      refine qp_iload_n dX4_marks_14 rfl ?_
      refine qp_iadd dX4_marks_15 ?_
      refine QP.topI (y := nI (26 + n)) (nI_add 26 n) ?_
      refine qp_ialdN (26 + n) dX4_marks_16 gl rfl (by omega) (by decide) ?_
      refine qp_if_le 26 dX4_marks_17 (by decide) (fun c_17 => ?_) (fun c_17 => ?_)
      · refine qp_iload_n dX4_marks_26 rfl ?_
        exact qr_i dX4_marks_27 rfl rfl rfl ⟨rfl, by rw [runP_stop 8 26 n (by omega) hdig (by simp [pos32, i32_nlt.mpr c_17])]⟩
      · refine qp_iinc (v := nI (n + 1)) dX4_marks_20 rfl (by decide) (nI_1 n) ?_
        refine QP.locsE (L1 := [some (.ref m0), some (.int (nI (n + 1)))]) rfl ?_
        refine qp_goto 2 dX4_marks_23 (by decide) ?_
        exact ih (n + 1) (by omega) (by omega) (fun j hj => by rcases Nat.lt_succ_iff_lt_or_eq.mp hj with q | q; exact hdig j q; rw [q]; simp [pos32, i32_nle.mp c_17])
set_option maxHeartbeats 4000000 in
set_option maxRecDepth 100000 in
theorem m_marks (G : qG) {h : qH} {thr sch th cnt ps pp wr sz : Int32} {m0 sa nw la sh rcm bf : Nat} {A : Nat → Int32} (gm : h m0 = some (mdCell thr sch sa sz nw la th sh rcm cnt bf ps pp wr)) (gl : h la = some (rwCell A)) : qMet G M_X4_marks [.ref m0] h (qI (fun v h1 => h1 = h ∧ v = nI (runP pos32 A 8 26))) := by
  refine qMet.of (by decide) (Nat.le_of_ble_eq_true rfl) rfl ?_
  refine QP.locsE (L1 := [some (.ref m0), none]) rfl ?_
  refine qp_iconst (v := 0) dX4_marks_0 (by decide) ?_
  refine qp_istore_n dX4_marks_1 (by decide) ?_
  refine QP.locsE (L1 := [some (.ref m0), some (.int (0))]) rfl ?_
  exact lm_marks gm gl 9 0 (by omega) (by omega) (fun j hj => absurd hj (by omega))
set_option maxHeartbeats 4000000 in
set_option maxRecDepth 100000 in
theorem lm_letters {G : qG} {h : qH} {thr sch th cnt ps pp wr sz : Int32} {m0 sa nw la sh rcm bf : Nat} {A : Nat → Int32} (gm : h m0 = some (mdCell thr sch sa sz nw la th sh rcm cnt bf ps pp wr)) (gl : h la = some (rwCell A)) : ∀ (t n : Nat), 3 < n + t → n ≤ 3 → (∀ j, j < n → pos32 (A (0 + j)) = true) → QP G M_X4_letters qTr (qMZ G M_X4_letters (qI (fun v h1 => h1 = h ∧ v = nI (runP pos32 A 3 0)))) 2 [some (.ref m0), some (.int (nI n))] [] h 0 0 := by
  intro t
  induction t with
  | zero =>
    intro n h1 h2
    omega
  | succ t ih =>
    intro n h1 h2 hdig
    refine qp_iload_n dX4_letters_2 rfl ?_
    refine qp_iconst (v := 3) dX4_letters_3 (by decide) ?_
    refine qp_icmp_ge 22 dX4_letters_4 (by decide) (fun c_4 => ?_) (fun c_4 => ?_)
    · have hn : n = 3 := by have := (nI_leI (a := 3) (by decide) (by omega)).mp c_4; omega
      refine qp_iload_n dX4_letters_22 rfl ?_
      exact qr_i dX4_letters_23 rfl rfl rfl ⟨rfl, by rw [runP_all 3 0 (fun j hj => hdig j (by omega)), hn]⟩
    · have hn : n < 3 := Nat.not_le.mp fun q => c_4 ((nI_leI (a := 3) (by decide) (by omega)).mpr q)
      refine qp_aload_n dX4_letters_7 rfl ?_
      refine qp_getf dX4_letters_8 fX4_17 gm rfl ?_
      refine qp_iload_n dX4_letters_11 rfl ?_
      refine qp_ialdN (n) dX4_letters_12 gl rfl (by omega) (by decide) ?_
      refine qp_if_le 22 dX4_letters_13 (by decide) (fun c_13 => ?_) (fun c_13 => ?_)
      · refine qp_iload_n dX4_letters_22 rfl ?_
        exact qr_i dX4_letters_23 rfl rfl rfl ⟨rfl, by rw [runP_stop 3 0 n (by omega) hdig (by rw [Nat.zero_add]; simp [pos32, i32_nlt.mpr c_13])]⟩
      · refine qp_iinc (v := nI (n + 1)) dX4_letters_16 rfl (by decide) (nI_1 n) ?_
        refine QP.locsE (L1 := [some (.ref m0), some (.int (nI (n + 1)))]) rfl ?_
        refine qp_goto 2 dX4_letters_19 (by decide) ?_
        exact ih (n + 1) (by omega) (by omega) (fun j hj => by rcases Nat.lt_succ_iff_lt_or_eq.mp hj with q | q; exact hdig j q; rw [q]; rw [Nat.zero_add]; simp [pos32, i32_nle.mp c_13])
set_option maxHeartbeats 4000000 in
set_option maxRecDepth 100000 in
theorem m_letters (G : qG) {h : qH} {thr sch th cnt ps pp wr sz : Int32} {m0 sa nw la sh rcm bf : Nat} {A : Nat → Int32} (gm : h m0 = some (mdCell thr sch sa sz nw la th sh rcm cnt bf ps pp wr)) (gl : h la = some (rwCell A)) : qMet G M_X4_letters [.ref m0] h (qI (fun v h1 => h1 = h ∧ v = nI (runP pos32 A 3 0))) := by
  refine qMet.of (by decide) (Nat.le_of_ble_eq_true rfl) rfl ?_
  refine QP.locsE (L1 := [some (.ref m0), none]) rfl ?_
  refine qp_iconst (v := 0) dX4_letters_0 (by decide) ?_
  refine qp_istore_n dX4_letters_1 (by decide) ?_
  refine QP.locsE (L1 := [some (.ref m0), some (.int (0))]) rfl ?_
  exact lm_letters gm gl 4 0 (by omega) (by omega) (fun j hj => absurd hj (by omega))
set_option maxHeartbeats 4000000 in
set_option maxRecDepth 100000 in
theorem lm_cutterSize {G : qG} {h : qH} {thr sch th cnt ps pp wr sz : Int32} {m0 sa nw la sh rcm bf : Nat} {A : Nat → Int32} (gm : h m0 = some (mdCell thr sch sa sz nw la th sh rcm cnt bf ps pp wr)) (gl : h la = some (rwCell A)) : ∀ (t n : Nat), 6 < n + t → n ≤ 6 → (∀ j, j < n → pos32 (A (17 + j)) = true) → QP G M_X4_cutterSize qTr (qMZ G M_X4_cutterSize (qI (fun v h1 => h1 = h ∧ v = nI (runP pos32 A 6 17)))) 2 [some (.ref m0), some (.int (nI n))] [] h 0 0 := by
  intro t
  induction t with
  | zero =>
    intro n h1 h2
    omega
  | succ t ih =>
    intro n h1 h2 hdig
    refine qp_iload_n dX4_cutterSize_2 rfl ?_
    refine qp_bipush (v := 6) dX4_cutterSize_3 (by decide) ?_
    refine qp_icmp_ge 26 dX4_cutterSize_5 (by decide) (fun c_5 => ?_) (fun c_5 => ?_)
    · have hn : n = 6 := by have := (nI_leI (a := 6) (by decide) (by omega)).mp c_5; omega
      refine qp_iload_n dX4_cutterSize_26 rfl ?_
      exact qr_i dX4_cutterSize_27 rfl rfl rfl ⟨rfl, by rw [runP_all 6 17 (fun j hj => hdig j (by omega)), hn]⟩
    · have hn : n < 6 := Nat.not_le.mp fun q => c_5 ((nI_leI (a := 6) (by decide) (by omega)).mpr q)
      refine qp_aload_n dX4_cutterSize_8 rfl ?_
      refine qp_getf dX4_cutterSize_9 fX4_17 gm rfl ?_
      refine qp_bipush (v := 17) dX4_cutterSize_12 (by decide) ?_
      refine qp_iload_n dX4_cutterSize_14 rfl ?_
      refine qp_iadd dX4_cutterSize_15 ?_
      refine QP.topI (y := nI (17 + n)) (nI_add 17 n) ?_
      refine qp_ialdN (17 + n) dX4_cutterSize_16 gl rfl (by omega) (by decide) ?_
      refine qp_if_le 26 dX4_cutterSize_17 (by decide) (fun c_17 => ?_) (fun c_17 => ?_)
      · refine qp_iload_n dX4_cutterSize_26 rfl ?_
        exact qr_i dX4_cutterSize_27 rfl rfl rfl ⟨rfl, by rw [runP_stop 6 17 n (by omega) hdig (by simp [pos32, i32_nlt.mpr c_17])]⟩
      · refine qp_iinc (v := nI (n + 1)) dX4_cutterSize_20 rfl (by decide) (nI_1 n) ?_
        refine QP.locsE (L1 := [some (.ref m0), some (.int (nI (n + 1)))]) rfl ?_
        refine qp_goto 2 dX4_cutterSize_23 (by decide) ?_
        exact ih (n + 1) (by omega) (by omega) (fun j hj => by rcases Nat.lt_succ_iff_lt_or_eq.mp hj with q | q; exact hdig j q; rw [q]; simp [pos32, i32_nle.mp c_17])
set_option maxHeartbeats 4000000 in
set_option maxRecDepth 100000 in
theorem m_cutterSize (G : qG) {h : qH} {thr sch th cnt ps pp wr sz : Int32} {m0 sa nw la sh rcm bf : Nat} {A : Nat → Int32} (gm : h m0 = some (mdCell thr sch sa sz nw la th sh rcm cnt bf ps pp wr)) (gl : h la = some (rwCell A)) : qMet G M_X4_cutterSize [.ref m0] h (qI (fun v h1 => h1 = h ∧ v = nI (runP pos32 A 6 17))) := by
  refine qMet.of (by decide) (Nat.le_of_ble_eq_true rfl) rfl ?_
  refine QP.locsE (L1 := [some (.ref m0), none]) rfl ?_
  refine qp_iconst (v := 0) dX4_cutterSize_0 (by decide) ?_
  refine qp_istore_n dX4_cutterSize_1 (by decide) ?_
  refine QP.locsE (L1 := [some (.ref m0), some (.int (0))]) rfl ?_
  exact lm_cutterSize gm gl 7 0 (by omega) (by omega) (fun j hj => absurd hj (by omega))
def mDec (v : Int32) : Int32 := if 999 < v then 4 else if 99 < v then 3 else if 9 < v then 2 else 1
set_option maxHeartbeats 4000000 in
set_option maxRecDepth 100000 in
theorem m_decimals (G : qG) {h : qH} (v0 : Int32) : qMet G M_X4_decimals [.int v0] h (qI (fun v h1 => h1 = h ∧ v = mDec v0)) := by
  refine qMet.of (by decide) (Nat.le_of_ble_eq_true rfl) rfl ?_
  refine QP.locsE (L1 := [some (.int (v0))]) rfl ?_
  refine qp_iload_n dX4_decimals_0 rfl ?_
  refine qp_sipush (v := 999) dX4_decimals_1 (by decide) ?_
  refine qp_icmp_le 11 dX4_decimals_4 (by decide) (fun c_4 => ?_) (fun c_4 => ?_)
  · refine qp_iload_n dX4_decimals_11 rfl ?_
    refine qp_bipush (v := 99) dX4_decimals_12 (by decide) ?_
    refine qp_icmp_le 21 dX4_decimals_14 (by decide) (fun c_14 => ?_) (fun c_14 => ?_)
    · refine qp_iload_n dX4_decimals_21 rfl ?_
      refine qp_bipush (v := 9) dX4_decimals_22 (by decide) ?_
      refine qp_icmp_le 31 dX4_decimals_24 (by decide) (fun c_24 => ?_) (fun c_24 => ?_)
      · refine qp_iconst (v := 1) dX4_decimals_31 (by decide) ?_
        exact qr_i dX4_decimals_32 rfl rfl rfl ⟨rfl, by simp only [mDec]; rw [if_neg (i32_nlt.mpr c_4), if_neg (i32_nlt.mpr c_14), if_neg (i32_nlt.mpr c_24)]⟩
      · refine qp_iconst (v := 2) dX4_decimals_27 (by decide) ?_
        refine qp_goto 32 dX4_decimals_28 (by decide) ?_
        exact qr_i dX4_decimals_32 rfl rfl rfl ⟨rfl, by simp only [mDec]; rw [if_neg (i32_nlt.mpr c_4), if_neg (i32_nlt.mpr c_14), if_pos (i32_nle.mp c_24)]⟩
    · refine qp_iconst (v := 3) dX4_decimals_17 (by decide) ?_
      refine qp_goto 32 dX4_decimals_18 (by decide) ?_
      exact qr_i dX4_decimals_32 rfl rfl rfl ⟨rfl, by simp only [mDec]; rw [if_neg (i32_nlt.mpr c_4), if_pos (i32_nle.mp c_14)]⟩
  · refine qp_iconst (v := 4) dX4_decimals_7 (by decide) ?_
    refine qp_goto 32 dX4_decimals_8 (by decide) ?_
    exact qr_i dX4_decimals_32 rfl rfl rfl ⟨rfl, by simp only [mDec]; rw [if_pos (i32_nle.mp c_4)]⟩
def mLetter (A : Nat → Int32) (i : Int32) : Int32 := if i < 0 then 0 else if nI (runP pos32 A 3 0) < i then 0 else if i = nI (runP pos32 A 3 0) then A 16 else A i.toNatClampNeg
set_option maxHeartbeats 4000000 in
set_option maxRecDepth 100000 in
theorem m_letter0 (G : qG) {h : qH} {thr sch cnt ps pp wr sz : Int32} {m0 sa nw la sh rcm bf : Nat} {A : Nat → Int32} (i : Int32) (nm : G.2.1 ≤ m0) (gm : h m0 = some (mdCell thr sch sa sz nw la 0 sh rcm cnt bf ps pp wr)) (gl : h la = some (rwCell A)) : qMet G M_X4_letter [.ref m0, .int i] h (qI (fun v h1 => v = 0 ∧ h1 m0 = some (mdCell 0 sch sa sz nw la 0 sh rcm cnt bf ps pp wr) ∧ ∀ b : Nat, b ≠ m0 → h1 b = h b)) := by
  refine qMet.of (by decide) (Nat.le_of_ble_eq_true rfl) rfl ?_
  refine QP.locsE (L1 := [some (.ref m0), some (.int (i)), none]) rfl ?_
  refine qp_aload_n dX4_letter_0 rfl ?_
  refine qp_iconst (v := 0) dX4_letter_1 (by decide) ?_
  refine qk_put dX4_letter_2 fX4_33 gm nm rfl rfl rfl rfl rfl (fun h1 g2 o3 => ?_)
  have g4 : h1 la = some (.inl (0, 40, .inl (A))) := (o3 _ (ne_of_cells gl gm (by simp))).trans gl
  have g2 : h1 m0 = some (.inr (5, [.int (0), .int (sch), .ref sa, .int (sz), .ref nw, .ref la, .int (0), .ref sh, .ref rcm, .int (cnt), .ref bf, .int (ps), .int (pp), .int (wr)])) := g2
  refine qp_aload_n dX4_letter_5 rfl ?_
  refine qv_Ip dX4_letter_6 mX4_108 (m_letters G g2 g4) g2 rfl rfl rfl rfl rfl rfl rfl ?_
  refine qp_istore_n dX4_letter_9 (by decide) ?_
  refine QP.locsE (L1 := [some (.ref m0), some (.int (i)), some (.int (nI (runP pos32 A 3 0)))]) rfl ?_
  refine qp_aload_n dX4_letter_10 rfl ?_
  refine qp_getf dX4_letter_11 fX4_91 g2 rfl ?_
  refine qp_if_eq 26 dX4_letter_14 (by decide) (fun c_14 => ?_) (fun c_14 => absurd rfl c_14)
  refine qp_iconst (v := 0) dX4_letter_26 (by decide) ?_
  refine qp_goto 51 dX4_letter_27 (by decide) ?_
  exact qr_i dX4_letter_51 rfl rfl rfl ⟨rfl, g2, fun b hb => (o3 b hb)⟩
set_option maxHeartbeats 4000000 in
set_option maxRecDepth 100000 in
theorem m_letter1 (G : qG) {h : qH} {thr sch cnt ps pp wr sz : Int32} {m0 sa nw la sh rcm bf : Nat} {A : Nat → Int32} (i : Int32) (nm : G.2.1 ≤ m0) (gm : h m0 = some (mdCell thr sch sa sz nw la 1 sh rcm cnt bf ps pp wr)) (gl : h la = some (rwCell A)) : qMet G M_X4_letter [.ref m0, .int i] h (qI (fun v h1 => v = mLetter A i ∧ h1 m0 = some (mdCell 0 sch sa sz nw la 1 sh rcm cnt bf ps pp wr) ∧ ∀ b : Nat, b ≠ m0 → h1 b = h b)) := by
  refine qMet.of (by decide) (Nat.le_of_ble_eq_true rfl) rfl ?_
  refine QP.locsE (L1 := [some (.ref m0), some (.int (i)), none]) rfl ?_
  refine qp_aload_n dX4_letter_0 rfl ?_
  refine qp_iconst (v := 0) dX4_letter_1 (by decide) ?_
  refine qk_put dX4_letter_2 fX4_33 gm nm rfl rfl rfl rfl rfl (fun h1 g2 o3 => ?_)
  have g4 : h1 la = some (.inl (0, 40, .inl (A))) := (o3 _ (ne_of_cells gl gm (by simp))).trans gl
  have g2 : h1 m0 = some (.inr (5, [.int (0), .int (sch), .ref sa, .int (sz), .ref nw, .ref la, .int (1), .ref sh, .ref rcm, .int (cnt), .ref bf, .int (ps), .int (pp), .int (wr)])) := g2
  refine qp_aload_n dX4_letter_5 rfl ?_
  refine qv_Ip dX4_letter_6 mX4_108 (m_letters G g2 g4) g2 rfl rfl rfl rfl rfl rfl rfl ?_
  refine qp_istore_n dX4_letter_9 (by decide) ?_
  refine QP.locsE (L1 := [some (.ref m0), some (.int (i)), some (.int (nI (runP pos32 A 3 0)))]) rfl ?_
  refine qp_aload_n dX4_letter_10 rfl ?_
  refine qp_getf dX4_letter_11 fX4_91 g2 rfl ?_
  refine qp_if_eq 26 dX4_letter_14 (by decide) (fun c_14 => absurd c_14 (by decide)) (fun c_14 => ?_)
  refine qp_iload_n dX4_letter_17 rfl ?_
  refine qp_if_lt 26 dX4_letter_18 (by decide) (fun c_18 => ?_) (fun c_18 => ?_)
  · refine qp_iconst (v := 0) dX4_letter_26 (by decide) ?_
    refine qp_goto 51 dX4_letter_27 (by decide) ?_
    exact qr_i dX4_letter_51 rfl rfl rfl ⟨by simp only [mLetter]; rw [if_pos c_18], g2, fun b hb => (o3 b hb)⟩
  · refine qp_iload_n dX4_letter_21 rfl ?_
    refine qp_iload_n dX4_letter_22 rfl ?_
    refine qp_icmp_le 30 dX4_letter_23 (by decide) (fun c_23 => ?_) (fun c_23 => ?_)
    · refine qp_iload_n dX4_letter_30 rfl ?_
      refine qp_iload_n dX4_letter_31 rfl ?_
      refine qp_icmp_ne 45 dX4_letter_32 (by decide) (fun c_32 => ?_) (fun c_32 => ?_)
      · refine qp_aload_n dX4_letter_45 rfl ?_
        refine qp_getf dX4_letter_46 fX4_17 g2 rfl ?_
        refine qp_iload_n dX4_letter_49 rfl ?_
        refine qp_iald dX4_letter_50 g4 (in_of (n := 40) (m := 40) (by decide) (by decide) (i32_nlt.mp c_18) (Int32.lt_of_le_of_lt c_23 (nI_lt (b := 40) (by have := runP_le pos32 A 3 0; omega) (by decide)))) ?_
        exact qr_i dX4_letter_51 rfl rfl rfl ⟨by simp only [mLetter]; rw [if_neg c_18, if_neg (i32_nlt.mpr c_23), if_neg c_32], g2, fun b hb => (o3 b hb)⟩
      · refine qp_aload_n dX4_letter_35 rfl ?_
        refine qp_getf dX4_letter_36 fX4_17 g2 rfl ?_
        refine qp_bipush (v := 16) dX4_letter_39 (by decide) ?_
        refine qp_ialdN (16) dX4_letter_41 g4 rfl (by decide) (by decide) ?_
        refine qp_goto 51 dX4_letter_42 (by decide) ?_
        exact qr_i dX4_letter_51 rfl rfl rfl ⟨by simp only [mLetter]; rw [if_neg c_18, if_neg (i32_nlt.mpr c_23), if_pos c_32], g2, fun b hb => (o3 b hb)⟩
    · refine qp_iconst (v := 0) dX4_letter_26 (by decide) ?_
      refine qp_goto 51 dX4_letter_27 (by decide) ?_
      exact qr_i dX4_letter_51 rfl rfl rfl ⟨by simp only [mLetter]; rw [if_neg c_18, if_pos (i32_nle.mp c_23)], g2, fun b hb => (o3 b hb)⟩
