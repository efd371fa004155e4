abbrev rdCell (lt : Int32) (sgn : Nat) (c p : Int32) : qE := .inr (2, [.int lt, .ref sgn, .int c, .int p])
abbrev sgCell (f : Nat → Int32) : qE := .inl (0, 60, .inl f)
/-- the signs that are collected; behind them -1 -/
def Sg (c : Nat) (f : Nat → Int32) : Nat → Int32 := fun p => if p < c then f p else -1
def isDig (x : Int32) : Bool := decide (48 ≤ x) && decide (x ≤ 57)
def isCap (x : Int32) : Bool := decide (65 ≤ x) && decide (x ≤ 90)
def isSml (x : Int32) : Bool := decide (97 ≤ x) && decide (x ≤ 122)
set_option maxHeartbeats 4000000 in
set_option maxRecDepth 100000 in
theorem c_isDigit (G : qG) {h : qH} (x : Int32) : qMet G M_X1_isDigit [.int x] h (qI (fun v h1 => h1 = h ∧ v = bI (isDig x))) := by
  refine qMet.of (by decide) (Nat.le_of_ble_eq_true rfl) rfl ?_
  refine QP.locsE (L1 := [some (.int (x))]) rfl ?_
  refine qp_iload_n dX1_isDigit_0 rfl ?_
  refine qp_bipush (v := 48) dX1_isDigit_1 (by decide) ?_
  refine qp_icmp_lt 16 dX1_isDigit_3 (by decide) (fun c_3 => ?_) (fun c_3 => ?_)
  · refine qp_iconst (v := 0) dX1_isDigit_16 (by decide) ?_
    exact qr_z dX1_isDigit_17 rfl nar_0 rfl rfl ⟨rfl, by simp [isDig, i32_nle.mpr c_3, bI]⟩
  · refine qp_iload_n dX1_isDigit_6 rfl ?_
    refine qp_bipush (v := 57) dX1_isDigit_7 (by decide) ?_
    refine qp_icmp_gt 16 dX1_isDigit_9 (by decide) (fun c_9 => ?_) (fun c_9 => ?_)
    · refine qp_iconst (v := 0) dX1_isDigit_16 (by decide) ?_
      exact qr_z dX1_isDigit_17 rfl nar_0 rfl rfl ⟨rfl, by simp [isDig, i32_nle.mpr c_9, bI]⟩
    · refine qp_iconst (v := 1) dX1_isDigit_12 (by decide) ?_
      refine qp_goto 17 dX1_isDigit_13 (by decide) ?_
      exact qr_z dX1_isDigit_17 rfl nar_1 rfl rfl ⟨rfl, by simp [isDig, i32_nlt.mp c_3, i32_nlt.mp c_9, bI]⟩
set_option maxHeartbeats 4000000 in
set_option maxRecDepth 100000 in
theorem c_isCapital (G : qG) {h : qH} (x : Int32) : qMet G M_X1_isCapital [.int x] h (qI (fun v h1 => h1 = h ∧ v = bI (isCap x))) := by
  refine qMet.of (by decide) (Nat.le_of_ble_eq_true rfl) rfl ?_
  refine QP.locsE (L1 := [some (.int (x))]) rfl ?_
  refine qp_iload_n dX1_isCapital_0 rfl ?_
  refine qp_bipush (v := 65) dX1_isCapital_1 (by decide) ?_
  refine qp_icmp_lt 16 dX1_isCapital_3 (by decide) (fun c_3 => ?_) (fun c_3 => ?_)
  · refine qp_iconst (v := 0) dX1_isCapital_16 (by decide) ?_
    exact qr_z dX1_isCapital_17 rfl nar_0 rfl rfl ⟨rfl, by simp [isCap, i32_nle.mpr c_3, bI]⟩
  · refine qp_iload_n dX1_isCapital_6 rfl ?_
    refine qp_bipush (v := 90) dX1_isCapital_7 (by decide) ?_
    refine qp_icmp_gt 16 dX1_isCapital_9 (by decide) (fun c_9 => ?_) (fun c_9 => ?_)
    · refine qp_iconst (v := 0) dX1_isCapital_16 (by decide) ?_
      exact qr_z dX1_isCapital_17 rfl nar_0 rfl rfl ⟨rfl, by simp [isCap, i32_nle.mpr c_9, bI]⟩
    · refine qp_iconst (v := 1) dX1_isCapital_12 (by decide) ?_
      refine qp_goto 17 dX1_isCapital_13 (by decide) ?_
      exact qr_z dX1_isCapital_17 rfl nar_1 rfl rfl ⟨rfl, by simp [isCap, i32_nlt.mp c_3, i32_nlt.mp c_9, bI]⟩
set_option maxHeartbeats 4000000 in
set_option maxRecDepth 100000 in
theorem c_isSmall (G : qG) {h : qH} (x : Int32) : qMet G M_X1_isSmall [.int x] h (qI (fun v h1 => h1 = h ∧ v = bI (isSml x))) := by
  refine qMet.of (by decide) (Nat.le_of_ble_eq_true rfl) rfl ?_
  refine QP.locsE (L1 := [some (.int (x))]) rfl ?_
  refine qp_iload_n dX1_isSmall_0 rfl ?_
  refine qp_bipush (v := 97) dX1_isSmall_1 (by decide) ?_
  refine qp_icmp_lt 16 dX1_isSmall_3 (by decide) (fun c_3 => ?_) (fun c_3 => ?_)
  · refine qp_iconst (v := 0) dX1_isSmall_16 (by decide) ?_
    exact qr_z dX1_isSmall_17 rfl nar_0 rfl rfl ⟨rfl, by simp [isSml, i32_nle.mpr c_3, bI]⟩
  · refine qp_iload_n dX1_isSmall_6 rfl ?_
    refine qp_bipush (v := 122) dX1_isSmall_7 (by decide) ?_
    refine qp_icmp_gt 16 dX1_isSmall_9 (by decide) (fun c_9 => ?_) (fun c_9 => ?_)
    · refine qp_iconst (v := 0) dX1_isSmall_16 (by decide) ?_
      exact qr_z dX1_isSmall_17 rfl nar_0 rfl rfl ⟨rfl, by simp [isSml, i32_nle.mpr c_9, bI]⟩
    · refine qp_iconst (v := 1) dX1_isSmall_12 (by decide) ?_
      refine qp_goto 17 dX1_isSmall_13 (by decide) ?_
      exact qr_z dX1_isSmall_17 rfl nar_1 rfl rfl ⟨rfl, by simp [isSml, i32_nlt.mp c_3, i32_nlt.mp c_9, bI]⟩
set_option maxHeartbeats 4000000 in
set_option maxRecDepth 100000 in
theorem m_isDigit (G : qG) {h : qH} (x : Int32) : qMet G M_X4_isDigit [.int x] h (qI (fun v h1 => h1 = h ∧ v = bI (isDig x))) := by
  refine qMet.of (by decide) (Nat.le_of_ble_eq_true rfl) rfl ?_
  refine QP.locsE (L1 := [some (.int (x))]) rfl ?_
  refine qp_iload_n dX4_isDigit_0 rfl ?_
  refine qp_bipush (v := 48) dX4_isDigit_1 (by decide) ?_
  refine qp_icmp_lt 16 dX4_isDigit_3 (by decide) (fun c_3 => ?_) (fun c_3 => ?_)
  · refine qp_iconst (v := 0) dX4_isDigit_16 (by decide) ?_
    exact qr_z dX4_isDigit_17 rfl nar_0 rfl rfl ⟨rfl, by simp [isDig, i32_nle.mpr c_3, bI]⟩
  · refine qp_iload_n dX4_isDigit_6 rfl ?_
    refine qp_bipush (v := 57) dX4_isDigit_7 (by decide) ?_
    refine qp_icmp_gt 16 dX4_isDigit_9 (by decide) (fun c_9 => ?_) (fun c_9 => ?_)
    · refine qp_iconst (v := 0) dX4_isDigit_16 (by decide) ?_
      exact qr_z dX4_isDigit_17 rfl nar_0 rfl rfl ⟨rfl, by simp [isDig, i32_nle.mpr c_9, bI]⟩
    · refine qp_iconst (v := 1) dX4_isDigit_12 (by decide) ?_
      refine qp_goto 17 dX4_isDigit_13 (by decide) ?_
      exact qr_z dX4_isDigit_17 rfl nar_1 rfl rfl ⟨rfl, by simp [isDig, i32_nlt.mp c_3, i32_nlt.mp c_9, bI]⟩
set_option maxHeartbeats 4000000 in
set_option maxRecDepth 100000 in
theorem m_isCapital (G : qG) {h : qH} (x : Int32) : qMet G M_X4_isCapital [.int x] h (qI (fun v h1 => h1 = h ∧ v = bI (isCap x))) := by
  refine qMet.of (by decide) (Nat.le_of_ble_eq_true rfl) rfl ?_
  refine QP.locsE (L1 := [some (.int (x))]) rfl ?_
  refine qp_iload_n dX4_isCapital_0 rfl ?_
  refine qp_bipush (v := 65) dX4_isCapital_1 (by decide) ?_
  refine qp_icmp_lt 16 dX4_isCapital_3 (by decide) (fun c_3 => ?_) (fun c_3 => ?_)
  · refine qp_iconst (v := 0) dX4_isCapital_16 (by decide) ?_
    exact qr_z dX4_isCapital_17 rfl nar_0 rfl rfl ⟨rfl, by simp [isCap, i32_nle.mpr c_3, bI]⟩
  · refine qp_iload_n dX4_isCapital_6 rfl ?_
    refine qp_bipush (v := 90) dX4_isCapital_7 (by decide) ?_
    refine qp_icmp_gt 16 dX4_isCapital_9 (by decide) (fun c_9 => ?_) (fun c_9 => ?_)
    · refine qp_iconst (v := 0) dX4_isCapital_16 (by decide) ?_
      exact qr_z dX4_isCapital_17 rfl nar_0 rfl rfl ⟨rfl, by simp [isCap, i32_nle.mpr c_9, bI]⟩
    · refine qp_iconst (v := 1) dX4_isCapital_12 (by decide) ?_
      refine qp_goto 17 dX4_isCapital_13 (by decide) ?_
      exact qr_z dX4_isCapital_17 rfl nar_1 rfl rfl ⟨rfl, by simp [isCap, i32_nlt.mp c_3, i32_nlt.mp c_9, bI]⟩
set_option maxHeartbeats 4000000 in
set_option maxRecDepth 100000 in
theorem m_isSmall (G : qG) {h : qH} (x : Int32) : qMet G M_X4_isSmall [.int x] h (qI (fun v h1 => h1 = h ∧ v = bI (isSml x))) := by
  refine qMet.of (by decide) (Nat.le_of_ble_eq_true rfl) rfl ?_
  refine QP.locsE (L1 := [some (.int (x))]) rfl ?_
  refine qp_iload_n dX4_isSmall_0 rfl ?_
  refine qp_bipush (v := 97) dX4_isSmall_1 (by decide) ?_
  refine qp_icmp_lt 16 dX4_isSmall_3 (by decide) (fun c_3 => ?_) (fun c_3 => ?_)
  · refine qp_iconst (v := 0) dX4_isSmall_16 (by decide) ?_
    exact qr_z dX4_isSmall_17 rfl nar_0 rfl rfl ⟨rfl, by simp [isSml, i32_nle.mpr c_3, bI]⟩
  · refine qp_iload_n dX4_isSmall_6 rfl ?_
    refine qp_bipush (v := 122) dX4_isSmall_7 (by decide) ?_
    refine qp_icmp_gt 16 dX4_isSmall_9 (by decide) (fun c_9 => ?_) (fun c_9 => ?_)
    · refine qp_iconst (v := 0) dX4_isSmall_16 (by decide) ?_
      exact qr_z dX4_isSmall_17 rfl nar_0 rfl rfl ⟨rfl, by simp [isSml, i32_nle.mpr c_9, bI]⟩
    · refine qp_iconst (v := 1) dX4_isSmall_12 (by decide) ?_
      refine qp_goto 17 dX4_isSmall_13 (by decide) ?_
      exact qr_z dX4_isSmall_17 rfl nar_1 rfl rfl ⟨rfl, by simp [isSml, i32_nlt.mp c_3, i32_nlt.mp c_9, bI]⟩
set_option maxHeartbeats 4000000 in
set_option maxRecDepth 100000 in
theorem c_signAt (G : qG) {h : qH} {r sgn c : Nat} {lt : Int32} {f : Nat → Int32} {pp : Int32} (k : Nat) (hk : k < 2147483648) (hc : c ≤ 60) (gr : h r = some (rdCell lt sgn (nI c) pp)) (gs : h sgn = some (sgCell f)) : qMet G M_X1_signAt [.ref r, .int (nI k)] h (qI (fun v h1 => h1 = h ∧ v = Sg c f k)) := by
  refine qMet.of (by decide) (Nat.le_of_ble_eq_true rfl) rfl ?_
  refine QP.locsE (L1 := [some (.ref r), some (.int (nI k))]) rfl ?_
  refine qp_iload_n dX1_signAt_0 rfl ?_
  refine qp_if_lt 30 dX1_signAt_1 (by decide) (fun c_1 => ?_) (fun c_1 => ?_)
  · refine qp_iconst (v := -1) dX1_signAt_30 (by decide) ?_
    exact qr_i dX1_signAt_31 rfl rfl rfl ⟨rfl, absurd c_1 (nI_pos hk)⟩
  · refine qp_iload_n dX1_signAt_4 rfl ?_
    refine qp_aload_n dX1_signAt_5 rfl ?_
    refine qp_getf dX1_signAt_6 fX1_19 gr rfl ?_
    refine qp_icmp_ge 30 dX1_signAt_9 (by decide) (fun c_9 => ?_) (fun c_9 => ?_)
    · refine qp_iconst (v := -1) dX1_signAt_30 (by decide) ?_
      exact qr_i dX1_signAt_31 rfl rfl rfl ⟨rfl, by rw [nI_leI (by omega) hk] at c_9; simp only [Sg]; rw [if_neg (by omega)]⟩
    · have hkc : k < c := Nat.not_le.mp fun q => c_9 ((nI_leI (by omega) hk).mpr q)
      refine qp_iload_n dX1_signAt_12 rfl ?_
      refine qp_aload_n dX1_signAt_13 rfl ?_
      refine qp_getf dX1_signAt_14 fX1_9 gr rfl ?_
      refine qp_alen (v := 60) dX1_signAt_17 gs rfl ?_
      refine qp_icmp_ge 30 dX1_signAt_18 (by decide) (fun c_18 => ?_) (fun c_18 => ?_)
      · refine qp_iconst (v := -1) dX1_signAt_30 (by decide) ?_
        exact qr_i dX1_signAt_31 rfl rfl rfl ⟨rfl, absurd c_18 (i32_nle.mpr (nI_lt (b := 60) (by omega) (by decide)))⟩
      · refine qp_aload_n dX1_signAt_21 rfl ?_
        refine qp_getf dX1_signAt_22 fX1_9 gr rfl ?_
        refine qp_iload_n dX1_signAt_25 rfl ?_
        refine qp_ialdN (k) dX1_signAt_26 gs rfl (by omega) (by decide) ?_
        refine qp_goto 31 dX1_signAt_27 (by decide) ?_
        exact qr_i dX1_signAt_31 rfl rfl rfl ⟨rfl, by simp only [Sg]; rw [if_pos hkc]⟩
def sSpace (S : Nat → Int32) (p : Nat) : Bool × Nat := if S p = 32 then (true, p + 1) else (false, p)
/-- the reader has moved to the place q, nothing else has changed -/
def RdAt (h h1 : qH) (lt : Int32) (r sgn c : Nat) (q : Nat) : Prop := h1 r = some (rdCell lt sgn (nI c) (nI q)) ∧ ∀ b : Nat, b ≠ r → h1 b = h b
set_option maxHeartbeats 4000000 in
set_option maxRecDepth 100000 in
theorem c_readSpace (G : qG) {h : qH} {r sgn c p : Nat} {lt : Int32} {f : Nat → Int32} (nr : G.2.1 ≤ r) (hc : c ≤ 60) (hp : p ≤ 200) (gr : h r = some (rdCell lt sgn (nI c) (nI p))) (gs : h sgn = some (sgCell f)) : qMet G M_X1_readSpace [.ref r] h (qI (fun v h1 => v = bI (sSpace (Sg c f) p).1 ∧ RdAt h h1 lt r sgn c (sSpace (Sg c f) p).2)) := by
  refine qMet.of (by decide) (Nat.le_of_ble_eq_true rfl) rfl ?_
  refine QP.locsE (L1 := [some (.ref r)]) rfl ?_
  refine qp_aload_n dX1_readSpace_0 rfl ?_
  refine qp_aload_n dX1_readSpace_1 rfl ?_
  refine qp_getf dX1_readSpace_2 fX1_23 gr rfl ?_
  refine qv_Ip dX1_readSpace_5 mX1_73 (c_signAt G (p) (by omega) hc gr gs) gr rfl rfl rfl rfl rfl rfl rfl ?_
  refine qp_bipush (v := 32) dX1_readSpace_8 (by decide) ?_
  refine qp_icmp_eq 15 dX1_readSpace_10 (by decide) (fun c_10 => ?_) (fun c_10 => ?_)
  · refine qp_aload_n dX1_readSpace_15 rfl ?_
    refine qp_dup dX1_readSpace_16 rfl ?_
    refine qp_getf dX1_readSpace_17 fX1_23 gr rfl ?_
    refine qp_iconst (v := 1) dX1_readSpace_20 (by decide) ?_
    refine qp_iadd dX1_readSpace_21 ?_
    refine QP.topI (y := nI (p + 1)) (nI_1 p) ?_
    refine qk_put dX1_readSpace_22 fX1_23 gr nr rfl rfl rfl rfl rfl (fun h4 g5 o6 => ?_)
    have g7 : h4 sgn = some (.inl (0, 60, .inl (f))) := (o6 _ (ne_of_cells gs gr (by simp))).trans gs
    have g5 : h4 r = some (.inr (2, [.int (lt), .ref sgn, .int (nI c), .int (nI (p + 1))])) := g5
    refine qp_iconst (v := 1) dX1_readSpace_25 (by decide) ?_
    exact qr_z dX1_readSpace_26 rfl nar_1 rfl rfl ⟨by simp only [sSpace]; rw [if_pos c_10]; rfl, by simp only [sSpace]; rw [if_pos c_10]; exact ⟨g5, fun b hb => (o6 b hb)⟩⟩
  · refine qp_iconst (v := 0) dX1_readSpace_13 (by decide) ?_
    exact qr_z dX1_readSpace_14 rfl nar_0 rfl rfl ⟨by simp only [sSpace]; rw [if_neg c_10]; rfl, by simp only [sSpace]; rw [if_neg c_10]; exact ⟨gr, fun _ _ => rfl⟩⟩
/-- how many digits stand at p, m at most -/
def runD (S : Nat → Int32) : Nat → Nat → Nat
  | 0, _ => 0
  | m + 1, p => if isDig (S p) = true then runD S m (p + 1) + 1 else 0
theorem runD_le (S : Nat → Int32) : ∀ m p, runD S m p ≤ m
  | 0, _ => Nat.le_refl _
  | m + 1, p => by
    have := runD_le S m (p + 1)
    simp only [runD]
    split <;> omega
def sDigits (S : Nat → Int32) (p least most : Nat) : Bool × Nat := (decide (least ≤ runD S most p) && !isDig (S (p + runD S most p)), p + runD S most p)
set_option maxHeartbeats 4000000 in
set_option maxRecDepth 100000 in
theorem l_readDigits {G : qG} {h0 : qH} {r sgn c least most q : Nat} {lt : Int32} {f : Nat → Int32} {res : Bool} (nr : G.2.1 ≤ r) (hc : c ≤ 60) (hl : least ≤ 10) (hm : most ≤ 10) : ∀ (n k d p : Nat) (h : qH), most < k + n → k ≤ most → d = k → p ≤ 200 + k → h r = some (rdCell lt sgn (nI c) (nI p)) → h sgn = some (sgCell f) → (∀ b : Nat, b ≠ r → h b = h0 b) → q = p + runD (Sg c f) (most - k) p → res = (decide (least ≤ d + runD (Sg c f) (most - k) p) && !isDig (Sg c f (p + runD (Sg c f) (most - k) p))) → QP G M_X1_readDigits qTr (qMZ G M_X1_readDigits (qI (fun v h1 => v = bI res ∧ RdAt h0 h1 lt r sgn c q))) 5 [some (.ref r), some (.int (nI least)), some (.int (nI most)), some (.int (nI d)), some (.int (nI k))] [] h 0 0 := by
  intro n
  induction n with
  | zero =>
    intro k d p h h1 h2
    omega
  | succ n ih =>
    intro k d p h h1 h2 h3 hp gr gs hfr e1 e2
    refine qp_iload dX1_readDigits_5 rfl ?_
    refine qp_iload_n dX1_readDigits_7 rfl ?_
    refine qp_icmp_ge 44 dX1_readDigits_8 (by decide) (fun c_8 => ?_) (fun c_8 => ?_)
    · have hk : most ≤ k := (nI_leI (by omega) (by omega)).mp c_8
      have hz : runD (Sg c f) (most - k) p = 0 := by rw [show most - k = 0 by omega]; rfl
      rw [hz] at e1 e2
      simp only [Nat.add_zero] at e1 e2
      refine qp_iload_n dX1_readDigits_44 rfl ?_
      refine qp_iload_n dX1_readDigits_45 rfl ?_
      refine qp_icmp_lt 67 dX1_readDigits_46 (by decide) (fun c_46 => ?_) (fun c_46 => ?_)
      · refine qp_iconst (v := 0) dX1_readDigits_67 (by decide) ?_
        exact qr_z dX1_readDigits_68 rfl nar_0 rfl rfl ⟨by rw [nI_ltI (by omega) (by omega)] at c_46; rw [e2, show decide (least ≤ d) = false by simp; omega]; rfl, by rw [e1]; exact ⟨gr, hfr⟩⟩
      · refine qp_aload_n dX1_readDigits_49 rfl ?_
        refine qp_aload_n dX1_readDigits_50 rfl ?_
        refine qp_getf dX1_readDigits_51 fX1_23 gr rfl ?_
        refine qv_Ip dX1_readDigits_54 mX1_73 (c_signAt G (p) (by omega) hc gr gs) gr rfl rfl rfl rfl rfl rfl rfl ?_
        refine qs_Ip dX1_readDigits_57 mX1_111 (c_isDigit G (Sg c f (p))) rfl rfl rfl rfl rfl rfl ?_
        refine qp_if_ne 67 dX1_readDigits_60 (by decide) (fun c_60 => ?_) (fun c_60 => ?_)
        · refine qp_iconst (v := 0) dX1_readDigits_67 (by decide) ?_
          exact qr_z dX1_readDigits_68 rfl nar_0 rfl rfl ⟨by rw [bI_n0] at c_60; rw [e2, c_60]; simp [bI], by rw [e1]; exact ⟨gr, hfr⟩⟩
        · refine qp_iconst (v := 1) dX1_readDigits_63 (by decide) ?_
          refine qp_goto 68 dX1_readDigits_64 (by decide) ?_
          exact qr_z dX1_readDigits_68 rfl nar_1 rfl rfl ⟨by rw [bI_0] at c_60; rw [nI_ltI (by omega) (by omega)] at c_46; rw [e2, c_60, show decide (least ≤ d) = true by simp; omega]; rfl, by rw [e1]; exact ⟨gr, hfr⟩⟩
    · have hk : k < most := Nat.not_le.mp fun q => c_8 ((nI_leI (by omega) (by omega)).mpr q)
      refine qp_aload_n dX1_readDigits_11 rfl ?_
      refine qp_aload_n dX1_readDigits_12 rfl ?_
      refine qp_getf dX1_readDigits_13 fX1_23 gr rfl ?_
      refine qv_Ip dX1_readDigits_16 mX1_73 (c_signAt G (p) (by omega) hc gr gs) gr rfl rfl rfl rfl rfl rfl rfl ?_
      refine qs_Ip dX1_readDigits_19 mX1_111 (c_isDigit G (Sg c f (p))) rfl rfl rfl rfl rfl rfl ?_
      refine qp_if_eq 44 dX1_readDigits_22 (by decide) (fun c_22 => ?_) (fun c_22 => ?_)
      · rw [bI_0] at c_22
        have hz : runD (Sg c f) (most - k) p = 0 := by rw [show most - k = (most - (k + 1)) + 1 by omega, runD, if_neg (by rw [c_22]; decide)]
        rw [hz] at e1 e2
        simp only [Nat.add_zero] at e1 e2
        refine qp_iload_n dX1_readDigits_44 rfl ?_
        refine qp_iload_n dX1_readDigits_45 rfl ?_
        refine qp_icmp_lt 67 dX1_readDigits_46 (by decide) (fun c_46 => ?_) (fun c_46 => ?_)
        · refine qp_iconst (v := 0) dX1_readDigits_67 (by decide) ?_
          exact qr_z dX1_readDigits_68 rfl nar_0 rfl rfl ⟨by rw [nI_ltI (by omega) (by omega)] at c_46; rw [e2, show decide (least ≤ d) = false by simp; omega]; rfl, by rw [e1]; exact ⟨gr, hfr⟩⟩
        · refine qp_aload_n dX1_readDigits_49 rfl ?_
          refine qp_aload_n dX1_readDigits_50 rfl ?_
          refine qp_getf dX1_readDigits_51 fX1_23 gr rfl ?_
          refine qv_Ip dX1_readDigits_54 mX1_73 (c_signAt G (p) (by omega) hc gr gs) gr rfl rfl rfl rfl rfl rfl rfl ?_
          refine qs_Ip dX1_readDigits_57 mX1_111 (c_isDigit G (Sg c f (p))) rfl rfl rfl rfl rfl rfl ?_
          refine qp_if_ne 67 dX1_readDigits_60 (by decide) (fun c_60 => ?_) (fun c_60 => ?_)
          · refine qp_iconst (v := 0) dX1_readDigits_67 (by decide) ?_
            exact qr_z dX1_readDigits_68 rfl nar_0 rfl rfl ⟨by rw [bI_n0] at c_60; rw [e2, c_60]; simp [bI], by rw [e1]; exact ⟨gr, hfr⟩⟩
          · refine qp_iconst (v := 1) dX1_readDigits_63 (by decide) ?_
            refine qp_goto 68 dX1_readDigits_64 (by decide) ?_
            exact qr_z dX1_readDigits_68 rfl nar_1 rfl rfl ⟨by rw [bI_0] at c_60; rw [nI_ltI (by omega) (by omega)] at c_46; rw [e2, c_60, show decide (least ≤ d) = true by simp; omega]; rfl, by rw [e1]; exact ⟨gr, hfr⟩⟩
      · rw [bI_n0] at c_22
        refine qp_iinc (v := nI (d + 1)) dX1_readDigits_25 rfl (by decide) (nI_1 d) ?_
        refine QP.locsE (L1 := [some (.ref r), some (.int (nI least)), some (.int (nI most)), some (.int (nI (d + 1))), some (.int (nI k))]) rfl ?_
        refine qp_aload_n dX1_readDigits_28 rfl ?_
        refine qp_dup dX1_readDigits_29 rfl ?_
        refine qp_getf dX1_readDigits_30 fX1_23 gr rfl ?_
        refine qp_iconst (v := 1) dX1_readDigits_33 (by decide) ?_
        refine qp_iadd dX1_readDigits_34 ?_
        refine QP.topI (y := nI (p + 1)) (nI_1 p) ?_
        refine qk_put dX1_readDigits_35 fX1_23 gr nr rfl rfl rfl rfl rfl (fun h19 g20 o21 => ?_)
        have g22 : h19 sgn = some (.inl (0, 60, .inl (f))) := (o21 _ (ne_of_cells gs gr (by simp))).trans gs
        have g20 : h19 r = some (.inr (2, [.int (lt), .ref sgn, .int (nI c), .int (nI (p + 1))])) := g20
        refine qp_iinc (v := nI (k + 1)) dX1_readDigits_38 rfl (by decide) (nI_1 k) ?_
        refine QP.locsE (L1 := [some (.ref r), some (.int (nI least)), some (.int (nI most)), some (.int (nI (d + 1))), some (.int (nI (k + 1)))]) rfl ?_
        refine qp_goto 5 dX1_readDigits_41 (by decide) ?_
        have hz : runD (Sg c f) (most - k) p = runD (Sg c f) (most - (k + 1)) (p + 1) + 1 := by rw [show most - k = (most - (k + 1)) + 1 by omega, runD, if_pos c_22]
        exact ih (k + 1) (d + 1) (p + 1) h19 (by omega) (by omega) (by omega) (by omega) g20 g22 (fun b hb => (o21 b hb).trans (hfr b hb)) (by rw [e1, hz]; omega) (by rw [e2, hz, show d + (runD (Sg c f) (most - (k + 1)) (p + 1) + 1) = d + 1 + runD (Sg c f) (most - (k + 1)) (p + 1) by omega, show p + (runD (Sg c f) (most - (k + 1)) (p + 1) + 1) = p + 1 + runD (Sg c f) (most - (k + 1)) (p + 1) by omega])
set_option maxHeartbeats 4000000 in
set_option maxRecDepth 100000 in
theorem c_readDigits (G : qG) {h : qH} {r sgn c p : Nat} {lt : Int32} {f : Nat → Int32} (least most : Nat) (hl : least ≤ 10) (hm : most ≤ 10) (nr : G.2.1 ≤ r) (hc : c ≤ 60) (hp : p ≤ 200) (gr : h r = some (rdCell lt sgn (nI c) (nI p))) (gs : h sgn = some (sgCell f)) : qMet G M_X1_readDigits [.ref r, .int (nI least), .int (nI most)] h (qI (fun v h1 => v = bI (sDigits (Sg c f) p least most).1 ∧ RdAt h h1 lt r sgn c (sDigits (Sg c f) p least most).2)) := by
  refine qMet.of (by decide) (Nat.le_of_ble_eq_true rfl) rfl ?_
  refine QP.locsE (L1 := [some (.ref r), some (.int (nI least)), some (.int (nI most)), none, none]) rfl ?_
  refine qp_iconst (v := 0) dX1_readDigits_0 (by decide) ?_
  refine qp_istore_n dX1_readDigits_1 (by decide) ?_
  refine QP.locsE (L1 := [some (.ref r), some (.int (nI least)), some (.int (nI most)), some (.int (0)), none]) rfl ?_
  refine qp_iconst (v := 0) dX1_readDigits_2 (by decide) ?_
  refine qp_istore dX1_readDigits_3 (by decide) ?_
  refine QP.locsE (L1 := [some (.ref r), some (.int (nI least)), some (.int (nI most)), some (.int (0)), some (.int (0))]) rfl ?_
  exact l_readDigits nr hc hl hm (most + 1) 0 0 p h (by omega) (by omega) rfl (by omega) gr gs (fun _ _ => rfl) rfl (by rw [Nat.zero_add]; rfl)
theorem sDigits_le (S : Nat → Int32) (p l m : Nat) : (sDigits S p l m).2 ≤ p + m := Nat.add_le_add_left (runD_le S m p) p
theorem sDigits_ge (S : Nat → Int32) (p l m : Nat) : p ≤ (sDigits S p l m).2 := Nat.le_add_right _ _
theorem sDigits_run {S : Nat → Int32} {p m : Nat} (h : (sDigits S p 1 m).1 = true) : p + 1 ≤ (sDigits S p 1 m).2 := by
  simp only [sDigits, Bool.and_eq_true, decide_eq_true_eq] at h ⊢
  omega
def sNumber (S : Nat → Int32) (p least most : Nat) : Bool × Nat := if S p = 48 then (false, p) else sDigits S p least most
def sDecimals (S : Nat → Int32) (p most : Nat) : Bool × Nat := if (sDigits S p 1 most).1 = false then (false, (sDigits S p 1 most).2) else if S ((sDigits S p 1 most).2 - 1) = 48 then (false, (sDigits S p 1 most).2 - 1) else (true, (sDigits S p 1 most).2)
def sFraction (S : Nat → Int32) (p most : Nat) : Bool × Nat := if S p = 46 then sDecimals S (p + 1) most else (true, p)
def sBegins (S : Nat → Int32) (p : Nat) : Int32 := if isDig (S p) = true then 2 else if S p = 118 ∧ S (p + 1) = 46 then 3 else if isSml (S p) = true then 4 else -1
set_option maxHeartbeats 4000000 in
set_option maxRecDepth 100000 in
theorem c_readNumber (G : qG) {h : qH} {r sgn c p : Nat} {lt : Int32} {f : Nat → Int32} (least most : Nat) (hl : least ≤ 10) (hm : most ≤ 10) (nr : G.2.1 ≤ r) (hc : c ≤ 60) (hp : p ≤ 200) (gr : h r = some (rdCell lt sgn (nI c) (nI p))) (gs : h sgn = some (sgCell f)) : qMet G M_X1_readNumber [.ref r, .int (nI least), .int (nI most)] h (qI (fun v h1 => v = bI (sNumber (Sg c f) p least most).1 ∧ RdAt h h1 lt r sgn c (sNumber (Sg c f) p least most).2)) := by
  refine qMet.of (by decide) (Nat.le_of_ble_eq_true rfl) rfl ?_
  refine QP.locsE (L1 := [some (.ref r), some (.int (nI least)), some (.int (nI most))]) rfl ?_
  refine qp_aload_n dX1_readNumber_0 rfl ?_
  refine qp_aload_n dX1_readNumber_1 rfl ?_
  refine qp_getf dX1_readNumber_2 fX1_23 gr rfl ?_
  refine qv_Ip dX1_readNumber_5 mX1_73 (c_signAt G (p) (by omega) hc gr gs) gr rfl rfl rfl rfl rfl rfl rfl ?_
  refine qp_bipush (v := 48) dX1_readNumber_8 (by decide) ?_
  refine qp_icmp_eq 26 dX1_readNumber_10 (by decide) (fun c_10 => ?_) (fun c_10 => ?_)
  · refine qp_iconst (v := 0) dX1_readNumber_26 (by decide) ?_
    exact qr_z dX1_readNumber_27 rfl nar_0 rfl rfl ⟨by simp only [sNumber]; rw [if_pos c_10]; rfl, by simp only [sNumber]; rw [if_pos c_10]; exact ⟨gr, fun _ _ => rfl⟩⟩
  · refine qp_aload_n dX1_readNumber_13 rfl ?_
    refine qp_iload_n dX1_readNumber_14 rfl ?_
    refine qp_iload_n dX1_readNumber_15 rfl ?_
    refine qv_Iq dX1_readNumber_16 mX1_50 (c_readDigits G (least) (most) (by omega) (by omega) nr hc (by omega) gr gs) gr rfl rfl rfl rfl rfl rfl rfl (fun h5 p6 => ?_)
    obtain ⟨g7, o8⟩ := p6
    have g9 : h5 sgn = some (.inl (0, 60, .inl (f))) := (o8 _ (ne_of_cells gs gr (by simp))).trans gs
    have g7 : h5 r = some (.inr (2, [.int (lt), .ref sgn, .int (nI c), .int (nI ((sDigits (Sg c f) (p) (least) (most)).2))])) := g7
    refine qp_if_eq 26 dX1_readNumber_19 (by decide) (fun c_19 => ?_) (fun c_19 => ?_)
    · refine qp_iconst (v := 0) dX1_readNumber_26 (by decide) ?_
      exact qr_z dX1_readNumber_27 rfl nar_0 rfl rfl ⟨by rw [bI_0] at c_19; simp only [sNumber]; rw [if_neg c_10, c_19]; rfl, by simp only [sNumber]; rw [if_neg c_10]; exact ⟨g7, fun b hb => (o8 b hb)⟩⟩
    · refine qp_iconst (v := 1) dX1_readNumber_22 (by decide) ?_
      refine qp_goto 27 dX1_readNumber_23 (by decide) ?_
      exact qr_z dX1_readNumber_27 rfl nar_1 rfl rfl ⟨by rw [bI_n0] at c_19; simp only [sNumber]; rw [if_neg c_10, c_19]; rfl, by simp only [sNumber]; rw [if_neg c_10]; exact ⟨g7, fun b hb => (o8 b hb)⟩⟩
set_option maxHeartbeats 4000000 in
set_option maxRecDepth 100000 in
theorem c_readDecimals (G : qG) {h : qH} {r sgn c p : Nat} {lt : Int32} {f : Nat → Int32} (most : Nat) (hm : most ≤ 10) (nr : G.2.1 ≤ r) (hc : c ≤ 60) (hp : p ≤ 200) (gr : h r = some (rdCell lt sgn (nI c) (nI p))) (gs : h sgn = some (sgCell f)) : qMet G M_X1_readDecimals [.ref r, .int (nI most)] h (qI (fun v h1 => v = bI (sDecimals (Sg c f) p most).1 ∧ RdAt h h1 lt r sgn c (sDecimals (Sg c f) p most).2)) := by
  refine qMet.of (by decide) (Nat.le_of_ble_eq_true rfl) rfl ?_
  refine QP.locsE (L1 := [some (.ref r), some (.int (nI most))]) rfl ?_
  refine qp_aload_n dX1_readDecimals_0 rfl ?_
  refine qp_iconst (v := 1) dX1_readDecimals_1 (by decide) ?_
  refine qp_iload_n dX1_readDecimals_2 rfl ?_
  refine qv_Iq dX1_readDecimals_3 mX1_50 (c_readDigits G (1) (most) (by omega) (by omega) nr hc (by omega) gr gs) gr rfl rfl rfl rfl rfl rfl rfl (fun h2 p3 => ?_)
  obtain ⟨g4, o5⟩ := p3
  have g6 : h2 sgn = some (.inl (0, 60, .inl (f))) := (o5 _ (ne_of_cells gs gr (by simp))).trans gs
  have g4 : h2 r = some (.inr (2, [.int (lt), .ref sgn, .int (nI c), .int (nI ((sDigits (Sg c f) (p) (1) (most)).2))])) := g4
  refine qp_if_ne 11 dX1_readDecimals_6 (by decide) (fun c_6 => ?_) (fun c_6 => ?_)
  · rw [bI_n0] at c_6
    have hge := sDigits_run c_6
    have hle := sDigits_le (Sg c f) p 1 most
    refine qp_aload_n dX1_readDecimals_11 rfl ?_
    refine qp_aload_n dX1_readDecimals_12 rfl ?_
    refine qp_getf dX1_readDecimals_13 fX1_23 g4 rfl ?_
    refine qp_iconst (v := 1) dX1_readDecimals_16 (by decide) ?_
    refine qp_isub dX1_readDecimals_17 ?_
    refine QP.topI (y := nI ((sDigits (Sg c f) (p) (1) (most)).2 - 1)) (by rw [show (sDigits (Sg c f) (p) (1) (most)).2 = ((sDigits (Sg c f) (p) (1) (most)).2 - 1) + 1 by omega]; exact nI_pred _) ?_
    refine qv_Ip dX1_readDecimals_18 mX1_73 (c_signAt G ((sDigits (Sg c f) (p) (1) (most)).2 - 1) (by omega) hc g4 g6) g4 rfl rfl rfl rfl rfl rfl rfl ?_
    refine qp_bipush (v := 48) dX1_readDecimals_21 (by decide) ?_
    refine qp_icmp_ne 38 dX1_readDecimals_23 (by decide) (fun c_23 => ?_) (fun c_23 => ?_)
    · refine qp_iconst (v := 1) dX1_readDecimals_38 (by decide) ?_
      exact qr_z dX1_readDecimals_39 rfl nar_1 rfl rfl ⟨by simp only [sDecimals]; rw [if_neg (by rw [c_6]; decide), if_neg c_23]; rfl, by simp only [sDecimals]; rw [if_neg (by rw [c_6]; decide), if_neg c_23]; exact ⟨g4, fun b hb => (o5 b hb)⟩⟩
    · refine qp_aload_n dX1_readDecimals_26 rfl ?_
      refine qp_dup dX1_readDecimals_27 rfl ?_
      refine qp_getf dX1_readDecimals_28 fX1_23 g4 rfl ?_
      refine qp_iconst (v := 1) dX1_readDecimals_31 (by decide) ?_
      refine qp_isub dX1_readDecimals_32 ?_
      refine QP.topI (y := nI ((sDigits (Sg c f) (p) (1) (most)).2 - 1)) (by rw [show (sDigits (Sg c f) (p) (1) (most)).2 = ((sDigits (Sg c f) (p) (1) (most)).2 - 1) + 1 by omega]; exact nI_pred _) ?_
      refine qk_put dX1_readDecimals_33 fX1_23 g4 nr rfl rfl rfl rfl rfl (fun h10 g11 o12 => ?_)
      have g13 : h10 sgn = some (.inl (0, 60, .inl (f))) := (o12 _ (ne_of_cells g6 g4 (by simp))).trans g6
      have g11 : h10 r = some (.inr (2, [.int (lt), .ref sgn, .int (nI c), .int (nI ((sDigits (Sg c f) (p) (1) (most)).2 - 1))])) := g11
      refine qp_iconst (v := 0) dX1_readDecimals_36 (by decide) ?_
      exact qr_z dX1_readDecimals_37 rfl nar_0 rfl rfl ⟨by simp only [sDecimals]; rw [if_neg (by rw [c_6]; decide), if_pos c_23]; rfl, by simp only [sDecimals]; rw [if_neg (by rw [c_6]; decide), if_pos c_23]; exact ⟨g11, fun b hb => ((o12 b hb).trans (o5 b hb))⟩⟩
  · rw [bI_0] at c_6
    refine qp_iconst (v := 0) dX1_readDecimals_9 (by decide) ?_
    exact qr_z dX1_readDecimals_10 rfl nar_0 rfl rfl ⟨by simp only [sDecimals]; rw [if_pos c_6]; rfl, by simp only [sDecimals]; rw [if_pos c_6]; exact ⟨g4, fun b hb => (o5 b hb)⟩⟩
set_option maxHeartbeats 4000000 in
set_option maxRecDepth 100000 in
theorem c_readFraction (G : qG) {h : qH} {r sgn c p : Nat} {lt : Int32} {f : Nat → Int32} (most : Nat) (hm : most ≤ 10) (nr : G.2.1 ≤ r) (hc : c ≤ 60) (hp : p ≤ 150) (gr : h r = some (rdCell lt sgn (nI c) (nI p))) (gs : h sgn = some (sgCell f)) : qMet G M_X1_readFraction [.ref r, .int (nI most)] h (qI (fun v h1 => v = bI (sFraction (Sg c f) p most).1 ∧ RdAt h h1 lt r sgn c (sFraction (Sg c f) p most).2)) := by
  refine qMet.of (by decide) (Nat.le_of_ble_eq_true rfl) rfl ?_
  refine QP.locsE (L1 := [some (.ref r), some (.int (nI most))]) rfl ?_
  refine qp_aload_n dX1_readFraction_0 rfl ?_
  refine qp_aload_n dX1_readFraction_1 rfl ?_
  refine qp_getf dX1_readFraction_2 fX1_23 gr rfl ?_
  refine qv_Ip dX1_readFraction_5 mX1_73 (c_signAt G (p) (by omega) hc gr gs) gr rfl rfl rfl rfl rfl rfl rfl ?_
  refine qp_bipush (v := 46) dX1_readFraction_8 (by decide) ?_
  refine qp_icmp_eq 15 dX1_readFraction_10 (by decide) (fun c_10 => ?_) (fun c_10 => ?_)
  · refine qp_aload_n dX1_readFraction_15 rfl ?_
    refine qp_dup dX1_readFraction_16 rfl ?_
    refine qp_getf dX1_readFraction_17 fX1_23 gr rfl ?_
    refine qp_iconst (v := 1) dX1_readFraction_20 (by decide) ?_
    refine qp_iadd dX1_readFraction_21 ?_
    refine QP.topI (y := nI (p + 1)) (nI_1 p) ?_
    refine qk_put dX1_readFraction_22 fX1_23 gr nr rfl rfl rfl rfl rfl (fun h4 g5 o6 => ?_)
    have g7 : h4 sgn = some (.inl (0, 60, .inl (f))) := (o6 _ (ne_of_cells gs gr (by simp))).trans gs
    have g5 : h4 r = some (.inr (2, [.int (lt), .ref sgn, .int (nI c), .int (nI (p + 1))])) := g5
    refine qp_aload_n dX1_readFraction_25 rfl ?_
    refine qp_iload_n dX1_readFraction_26 rfl ?_
    refine qv_Iq dX1_readFraction_27 mX1_86 (c_readDecimals G (most) (by omega) nr hc (by omega) g5 g7) g5 rfl rfl rfl rfl rfl rfl rfl (fun h9 p10 => ?_)
    obtain ⟨g11, o12⟩ := p10
    have g13 : h9 sgn = some (.inl (0, 60, .inl (f))) := (o12 _ (ne_of_cells g7 g5 (by simp))).trans g7
    have g11 : h9 r = some (.inr (2, [.int (lt), .ref sgn, .int (nI c), .int (nI ((sDecimals (Sg c f) (p + 1) (most)).2))])) := g11
    exact qr_z dX1_readFraction_30 rfl (bI_nar _) rfl rfl ⟨by simp only [sFraction]; rw [if_pos c_10], by simp only [sFraction]; rw [if_pos c_10]; exact ⟨g11, fun b hb => ((o12 b hb).trans (o6 b hb))⟩⟩
  · refine qp_iconst (v := 1) dX1_readFraction_13 (by decide) ?_
    exact qr_z dX1_readFraction_14 rfl nar_1 rfl rfl ⟨by simp only [sFraction]; rw [if_neg c_10]; rfl, by simp only [sFraction]; rw [if_neg c_10]; exact ⟨gr, fun _ _ => rfl⟩⟩
set_option maxHeartbeats 4000000 in
set_option maxRecDepth 100000 in
theorem c_partThatBegins (G : qG) {h : qH} {r sgn c p : Nat} {lt : Int32} {f : Nat → Int32} (hc : c ≤ 60) (hp : p ≤ 200) (gr : h r = some (rdCell lt sgn (nI c) (nI p))) (gs : h sgn = some (sgCell f)) : qMet G M_X1_partThatBegins [.ref r] h (qI (fun v h1 => h1 = h ∧ v = sBegins (Sg c f) p)) := by
  refine qMet.of (by decide) (Nat.le_of_ble_eq_true rfl) rfl ?_
  refine QP.locsE (L1 := [some (.ref r), none]) rfl ?_
  refine qp_aload_n dX1_partThatBegins_0 rfl ?_
  refine qp_aload_n dX1_partThatBegins_1 rfl ?_
  refine qp_getf dX1_partThatBegins_2 fX1_23 gr rfl ?_
  refine qv_Ip dX1_partThatBegins_5 mX1_73 (c_signAt G (p) (by omega) hc gr gs) gr rfl rfl rfl rfl rfl rfl rfl ?_
  refine qp_istore_n dX1_partThatBegins_8 (by decide) ?_
  refine QP.locsE (L1 := [some (.ref r), some (.int (Sg c f (p)))]) rfl ?_
  refine qp_iload_n dX1_partThatBegins_9 rfl ?_
  refine qs_Ip dX1_partThatBegins_10 mX1_111 (c_isDigit G (Sg c f (p))) rfl rfl rfl rfl rfl rfl ?_
  refine qp_if_eq 18 dX1_partThatBegins_13 (by decide) (fun c_13 => ?_) (fun c_13 => ?_)
  · refine qp_iload_n dX1_partThatBegins_18 rfl ?_
    refine qp_bipush (v := 118) dX1_partThatBegins_19 (by decide) ?_
    refine qp_icmp_ne 41 dX1_partThatBegins_21 (by decide) (fun c_21 => ?_) (fun c_21 => ?_)
    · refine qp_iload_n dX1_partThatBegins_41 rfl ?_
      refine qs_Ip dX1_partThatBegins_42 mX1_114 (c_isSmall G (Sg c f (p))) rfl rfl rfl rfl rfl rfl ?_
      refine qp_if_eq 52 dX1_partThatBegins_45 (by decide) (fun c_45 => ?_) (fun c_45 => ?_)
      · refine qp_iconst (v := -1) dX1_partThatBegins_52 (by decide) ?_
        exact qr_i dX1_partThatBegins_53 rfl rfl rfl ⟨rfl, by rw [bI_0] at c_13 c_45; simp only [sBegins]; rw [if_neg (by rw [c_13]; decide), if_neg (fun q => c_21 q.1), if_neg (by rw [c_45]; decide)]⟩
      · refine qp_iconst (v := 4) dX1_partThatBegins_48 (by decide) ?_
        refine qp_goto 53 dX1_partThatBegins_49 (by decide) ?_
        exact qr_i dX1_partThatBegins_53 rfl rfl rfl ⟨rfl, by rw [bI_0] at c_13; rw [bI_n0] at c_45; simp only [sBegins]; rw [if_neg (by rw [c_13]; decide), if_neg (fun q => c_21 q.1), if_pos c_45]⟩
    · refine qp_aload_n dX1_partThatBegins_24 rfl ?_
      refine qp_aload_n dX1_partThatBegins_25 rfl ?_
      refine qp_getf dX1_partThatBegins_26 fX1_23 gr rfl ?_
      refine qp_iconst (v := 1) dX1_partThatBegins_29 (by decide) ?_
      refine qp_iadd dX1_partThatBegins_30 ?_
      refine QP.topI (y := nI (p + 1)) (nI_1 p) ?_
      refine qv_Ip dX1_partThatBegins_31 mX1_73 (c_signAt G (p + 1) (by omega) hc gr gs) gr rfl rfl rfl rfl rfl rfl rfl ?_
      refine qp_bipush (v := 46) dX1_partThatBegins_34 (by decide) ?_
      refine qp_icmp_ne 41 dX1_partThatBegins_36 (by decide) (fun c_36 => ?_) (fun c_36 => ?_)
      · refine qp_iload_n dX1_partThatBegins_41 rfl ?_
        refine qs_Ip dX1_partThatBegins_42 mX1_114 (c_isSmall G (Sg c f (p))) rfl rfl rfl rfl rfl rfl ?_
        refine qp_if_eq 52 dX1_partThatBegins_45 (by decide) (fun c_45 => ?_) (fun c_45 => ?_)
        · refine qp_iconst (v := -1) dX1_partThatBegins_52 (by decide) ?_
          exact qr_i dX1_partThatBegins_53 rfl rfl rfl ⟨rfl, by rw [bI_0] at c_13 c_45; simp only [sBegins]; rw [if_neg (by rw [c_13]; decide), if_neg (fun q => c_36 q.2), if_neg (by rw [c_45]; decide)]⟩
        · refine qp_iconst (v := 4) dX1_partThatBegins_48 (by decide) ?_
          refine qp_goto 53 dX1_partThatBegins_49 (by decide) ?_
          exact qr_i dX1_partThatBegins_53 rfl rfl rfl ⟨rfl, by rw [bI_0] at c_13; rw [bI_n0] at c_45; simp only [sBegins]; rw [if_neg (by rw [c_13]; decide), if_neg (fun q => c_36 q.2), if_pos c_45]⟩
      · refine qp_iconst (v := 3) dX1_partThatBegins_39 (by decide) ?_
        exact qr_i dX1_partThatBegins_40 rfl rfl rfl ⟨rfl, by rw [bI_0] at c_13; simp only [sBegins]; rw [if_neg (by rw [c_13]; decide), if_pos ⟨c_21, c_36⟩]⟩
  · refine qp_iconst (v := 2) dX1_partThatBegins_16 (by decide) ?_
    exact qr_i dX1_partThatBegins_17 rfl rfl rfl ⟨rfl, by rw [bI_n0] at c_13; simp only [sBegins]; rw [if_pos c_13]⟩
/-- the digits from a up to b, filled up with zeros, after k of them -/
def sFill (S : Nat → Int32) (a b : Nat) : Nat → Int64
  | 0 => 0
  | k + 1 => sFill S a b k * 10 + (if a + k < b then S (a + k) - 48 else (0 : Int32)).toInt64
set_option maxHeartbeats 4000000 in
set_option maxRecDepth 100000 in
theorem l_filledUp {G : qG} {h : qH} {r sgn c a b width : Nat} {lt pp : Int32} {f : Nat → Int32} (ha : a ≤ 400) (hb : b ≤ 400) (hw : width ≤ 20) (hc : c ≤ 60) (gr : h r = some (rdCell lt sgn (nI c) pp)) (gs : h sgn = some (sgCell f)) : ∀ (n k : Nat), width < k + n → k ≤ width → QP G M_X1_filledUp qTr (qMZ G M_X1_filledUp (qJ (fun v h1 => h1 = h ∧ v = sFill (Sg c f) a b width))) 6 [some (.ref r), some (.int (nI a)), some (.int (nI b)), some (.int (nI width)), some (.long (sFill (Sg c f) a b k)), none, some (.int (nI k)), none] [] h 0 0 := by
  intro n
  induction n with
  | zero =>
    intro k h1 h2
    omega
  | succ n ih =>
    intro k h1 h2
    refine qp_iload dX1_filledUp_6 rfl ?_
    refine qp_iload_n dX1_filledUp_8 rfl ?_
    refine qp_icmp_ge 55 dX1_filledUp_9 (by decide) (fun c_9 => ?_) (fun c_9 => ?_)
    · have hk : width ≤ k := (nI_leI (by omega) (by omega)).mp c_9
      refine qp_lload dX1_filledUp_55 rfl ?_
      exact qr_l dX1_filledUp_57 rfl rfl rfl ⟨rfl, by rw [show k = width by omega]⟩
    · have hk : k < width := Nat.not_le.mp fun q => c_9 ((nI_leI (by omega) (by omega)).mpr q)
      refine qp_iload_n dX1_filledUp_12 rfl ?_
      refine qp_iload dX1_filledUp_13 rfl ?_
      refine qp_iadd dX1_filledUp_15 ?_
      refine QP.topI (y := nI (a + k)) (nI_add a k) ?_
      refine qp_iload_n dX1_filledUp_16 rfl ?_
      refine qp_icmp_ge 34 dX1_filledUp_17 (by decide) (fun c_17 => ?_) (fun c_17 => ?_)
      · rw [nI_leI (by omega) (by omega)] at c_17
        refine qp_iconst (v := 0) dX1_filledUp_34 (by decide) ?_
        refine qp_istore dX1_filledUp_35 (by decide) ?_
        refine QP.locsE (L1 := [some (.ref r), some (.int (nI a)), some (.int (nI b)), some (.int (nI width)), some (.long (sFill (Sg c f) a b k)), none, some (.int (nI k)), some (.int (0))]) rfl ?_
        refine qp_lload dX1_filledUp_37 rfl ?_
        refine qp_ldc2 dX1_filledUp_39 klX1_132 ?_
        refine qp_lmul dX1_filledUp_42 ?_
        refine qp_iload dX1_filledUp_43 rfl ?_
        refine qp_i2l dX1_filledUp_45 ?_
        refine qp_ladd dX1_filledUp_46 ?_
        refine QP.topJ (y := sFill (Sg c f) a b (k + 1)) (by simp only [sFill]; rw [if_neg (by omega)]) ?_
        refine qp_lstore dX1_filledUp_47 (by decide) ?_
        refine QP.locsE (L1 := [some (.ref r), some (.int (nI a)), some (.int (nI b)), some (.int (nI width)), some (.long (sFill (Sg c f) a b (k + 1))), none, some (.int (nI k)), some (.int (0))]) rfl ?_
        refine qp_iinc (v := nI (k + 1)) dX1_filledUp_49 rfl (by decide) (nI_1 k) ?_
        refine QP.locsE (L1 := [some (.ref r), some (.int (nI a)), some (.int (nI b)), some (.int (nI width)), some (.long (sFill (Sg c f) a b (k + 1))), none, some (.int (nI (k + 1))), some (.int (0))]) rfl ?_
        refine qp_goto 6 dX1_filledUp_52 (by decide) ?_
        refine QP.forget 7 ?_
        exact ih (k + 1) (by omega) (by omega)
      · rw [nI_leI (by omega) (by omega)] at c_17
        refine qp_aload_n dX1_filledUp_20 rfl ?_
        refine qp_iload_n dX1_filledUp_21 rfl ?_
        refine qp_iload dX1_filledUp_22 rfl ?_
        refine qp_iadd dX1_filledUp_24 ?_
        refine QP.topI (y := nI (a + k)) (nI_add a k) ?_
        refine qv_Ip dX1_filledUp_25 mX1_73 (c_signAt G (a + k) (by omega) hc gr gs) gr rfl rfl rfl rfl rfl rfl rfl ?_
        refine qp_bipush (v := 48) dX1_filledUp_28 (by decide) ?_
        refine qp_isub dX1_filledUp_30 ?_
        refine qp_goto 35 dX1_filledUp_31 (by decide) ?_
        refine qp_istore dX1_filledUp_35 (by decide) ?_
        refine QP.locsE (L1 := [some (.ref r), some (.int (nI a)), some (.int (nI b)), some (.int (nI width)), some (.long (sFill (Sg c f) a b k)), none, some (.int (nI k)), some (.int ((Sg c f (a + k)) - (48)))]) rfl ?_
        refine qp_lload dX1_filledUp_37 rfl ?_
        refine qp_ldc2 dX1_filledUp_39 klX1_132 ?_
        refine qp_lmul dX1_filledUp_42 ?_
        refine qp_iload dX1_filledUp_43 rfl ?_
        refine qp_i2l dX1_filledUp_45 ?_
        refine qp_ladd dX1_filledUp_46 ?_
        refine QP.topJ (y := sFill (Sg c f) a b (k + 1)) (by simp only [sFill]; rw [if_pos (by omega)]) ?_
        refine qp_lstore dX1_filledUp_47 (by decide) ?_
        refine QP.locsE (L1 := [some (.ref r), some (.int (nI a)), some (.int (nI b)), some (.int (nI width)), some (.long (sFill (Sg c f) a b (k + 1))), none, some (.int (nI k)), some (.int ((Sg c f (a + k)) - (48)))]) rfl ?_
        refine qp_iinc (v := nI (k + 1)) dX1_filledUp_49 rfl (by decide) (nI_1 k) ?_
        refine QP.locsE (L1 := [some (.ref r), some (.int (nI a)), some (.int (nI b)), some (.int (nI width)), some (.long (sFill (Sg c f) a b (k + 1))), none, some (.int (nI (k + 1))), some (.int ((Sg c f (a + k)) - (48)))]) rfl ?_
        refine qp_goto 6 dX1_filledUp_52 (by decide) ?_
        refine QP.forget 7 ?_
        exact ih (k + 1) (by omega) (by omega)
set_option maxHeartbeats 4000000 in
set_option maxRecDepth 100000 in
theorem c_filledUp (G : qG) {h : qH} {r sgn c : Nat} {lt pp : Int32} {f : Nat → Int32} (a b width : Nat) (ha : a ≤ 400) (hb : b ≤ 400) (hw : width ≤ 20) (hc : c ≤ 60) (gr : h r = some (rdCell lt sgn (nI c) pp)) (gs : h sgn = some (sgCell f)) : qMet G M_X1_filledUp [.ref r, .int (nI a), .int (nI b), .int (nI width)] h (qJ (fun v h1 => h1 = h ∧ v = sFill (Sg c f) a b width)) := by
  refine qMet.of (by decide) (Nat.le_of_ble_eq_true rfl) rfl ?_
  refine QP.locsE (L1 := [some (.ref r), some (.int (nI a)), some (.int (nI b)), some (.int (nI width)), none, none, none, none]) rfl ?_
  refine qp_lconst (v := 0) dX1_filledUp_0 (by decide) ?_
  refine qp_lstore dX1_filledUp_1 (by decide) ?_
  refine QP.locsE (L1 := [some (.ref r), some (.int (nI a)), some (.int (nI b)), some (.int (nI width)), some (.long (0)), none, none, none]) rfl ?_
  refine qp_iconst (v := 0) dX1_filledUp_3 (by decide) ?_
  refine qp_istore dX1_filledUp_4 (by decide) ?_
  refine QP.locsE (L1 := [some (.ref r), some (.int (nI a)), some (.int (nI b)), some (.int (nI width)), some (.long (0)), none, some (.int (0)), none]) rfl ?_
  exact l_filledUp ha hb hw hc gr gs (width + 1) 0 (by omega) (by omega)
set_option maxHeartbeats 4000000 in
set_option maxRecDepth 100000 in
theorem c_place (G : qG) {h : qH} {r sgn c : Nat} {lt pp : Int32} (gr : h r = some (rdCell lt sgn (nI c) pp)) : qMet G M_X1_place [.ref r] h (qI (fun v h1 => h1 = h ∧ v = pp)) := by
  refine qMet.of (by decide) (Nat.le_of_ble_eq_true rfl) rfl ?_
  refine QP.locsE (L1 := [some (.ref r)]) rfl ?_
  refine qp_aload_n dX1_place_0 rfl ?_
  refine qp_getf dX1_place_1 fX1_23 gr rfl ?_
  exact qr_i dX1_place_4 rfl rfl rfl ⟨rfl, rfl⟩
set_option maxHeartbeats 4000000 in
set_option maxRecDepth 100000 in
theorem c_forget (G : qG) {h : qH} {r sgn c : Nat} {lt pp : Int32} (nr : G.2.1 ≤ r) (gr : h r = some (rdCell lt sgn (nI c) pp)) : qMet G M_X1_forget [.ref r] h (qV (fun h1 => h1 r = some (rdCell lt sgn 0 pp) ∧ ∀ b : Nat, b ≠ r → h1 b = h b)) := by
  refine qMet.of (by decide) (Nat.le_of_ble_eq_true rfl) rfl ?_
  refine QP.locsE (L1 := [some (.ref r)]) rfl ?_
  refine qp_aload_n dX1_forget_0 rfl ?_
  refine qp_iconst (v := 0) dX1_forget_1 (by decide) ?_
  refine qk_put dX1_forget_2 fX1_19 gr nr rfl rfl rfl rfl rfl (fun h1 g2 o3 => ?_)
  have g2 : h1 r = some (.inr (2, [.int (lt), .ref sgn, .int (0), .int (pp)])) := g2
  exact qr_v dX1_forget_5 rfl rfl rfl ⟨g2, fun b hb => (o3 b hb)⟩
set_option maxHeartbeats 4000000 in
set_option maxRecDepth 100000 in
theorem c_collect (G : qG) {h : qH} {r sgn c : Nat} {lt pp : Int32} {f : Nat → Int32} (x : Int32) (nr : G.2.1 ≤ r) (ns : G.2.1 ≤ sgn) (hc : c < 60) (gr : h r = some (rdCell lt sgn (nI c) pp)) (gs : h sgn = some (sgCell f)) : qMet G M_X1_collect [.ref r, .int x] h (qV (fun h1 => h1 r = some (rdCell lt sgn (nI (c + 1)) pp) ∧ h1 sgn = some (sgCell (upd f c x)) ∧ ∀ b : Nat, b ≠ r → b ≠ sgn → h1 b = h b)) := by
  refine qMet.of (by decide) (Nat.le_of_ble_eq_true rfl) rfl ?_
  refine QP.locsE (L1 := [some (.ref r), some (.int (x))]) rfl ?_
  refine qp_aload_n dX1_collect_0 rfl ?_
  refine qp_getf dX1_collect_1 fX1_19 gr rfl ?_
  refine qp_aload_n dX1_collect_4 rfl ?_
  refine qp_getf dX1_collect_5 fX1_9 gr rfl ?_
  refine qp_alen (v := 60) dX1_collect_8 gs rfl ?_
  refine qp_icmp_ge 32 dX1_collect_9 (by decide) (fun c_9 => absurd c_9 (i32_nle.mpr (nI_lt (b := 60) hc (by decide)))) (fun c_9 => ?_)
  refine qp_aload_n dX1_collect_12 rfl ?_
  refine qp_getf dX1_collect_13 fX1_9 gr rfl ?_
  refine qp_aload_n dX1_collect_16 rfl ?_
  refine qp_getf dX1_collect_17 fX1_19 gr rfl ?_
  refine qp_iload_n dX1_collect_20 rfl ?_
  refine qk_iast (c) dX1_collect_21 gs ns rfl hc (by decide) (fun h1 g2 o3 => ?_)
  have g4 : h1 r = some (.inr (2, [.int (lt), .ref sgn, .int (nI c), .int (pp)])) := (o3 _ (ne_of_cells gr gs (by simp))).trans gr
  have g2 : h1 sgn = some (.inl (0, 60, .inl (upd (f) (c) (x)))) := g2
  refine qp_aload_n dX1_collect_22 rfl ?_
  refine qp_dup dX1_collect_23 rfl ?_
  refine qp_getf dX1_collect_24 fX1_19 g4 rfl ?_
  refine qp_iconst (v := 1) dX1_collect_27 (by decide) ?_
  refine qp_iadd dX1_collect_28 ?_
  refine QP.topI (y := nI (c + 1)) (nI_1 c) ?_
  refine qk_put dX1_collect_29 fX1_19 g4 nr rfl rfl rfl rfl rfl (fun h5 g6 o7 => ?_)
  have g8 : h5 sgn = some (.inl (0, 60, .inl (upd (f) (c) (x)))) := (o7 _ (ne_of_cells g2 g4 (by simp))).trans g2
  have g6 : h5 r = some (.inr (2, [.int (lt), .ref sgn, .int (nI (c + 1)), .int (pp)])) := g6
  exact qr_v dX1_collect_32 rfl rfl rfl ⟨g6, g8, fun b hb hb2 => ((o7 b hb).trans (o3 b hb2))⟩
set_option maxHeartbeats 4000000 in
set_option maxRecDepth 100000 in
theorem c_collectFull (G : qG) {h : qH} {r sgn c : Nat} {lt pp : Int32} {f : Nat → Int32} (x : Int32) (hc : c = 60) (gr : h r = some (rdCell lt sgn (nI c) pp)) (gs : h sgn = some (sgCell f)) : qMet G M_X1_collect [.ref r, .int x] h (qV (fun h1 => h1 = h)) := by
  refine qMet.of (by decide) (Nat.le_of_ble_eq_true rfl) rfl ?_
  refine QP.locsE (L1 := [some (.ref r), some (.int (x))]) rfl ?_
  refine qp_aload_n dX1_collect_0 rfl ?_
  refine qp_getf dX1_collect_1 fX1_19 gr rfl ?_
  refine qp_aload_n dX1_collect_4 rfl ?_
  refine qp_getf dX1_collect_5 fX1_9 gr rfl ?_
  refine qp_alen (v := 60) dX1_collect_8 gs rfl ?_
  refine qp_icmp_ge 32 dX1_collect_9 (by decide) (fun c_9 => ?_) (fun c_9 => absurd ((nI_leI (a := 60) (by decide) (by omega)).mpr (by omega)) c_9)
  exact qr_v dX1_collect_32 rfl rfl rfl rfl
set_option maxHeartbeats 4000000 in
set_option maxRecDepth 100000 in
theorem c_rdInit (G : qG) {h : qH} {r : Nat} (lb : Bool) (nr : G.2.1 ≤ r) (gr : h r = some (.inr (2, [.int 0, .null, .int 0, .int 0]))) : qMet G M_X1_init [.ref r, .int (bI lb)] h (qV (fun h1 => ∃ sgn : Nat, G.2.1 ≤ sgn ∧ h sgn = none ∧ h1 r = some (rdCell (bI lb) sgn 0 0) ∧ h1 sgn = some (sgCell (fun _ => 0)) ∧ ∀ b : Nat, b ≠ r → b ≠ sgn → h1 b = h b)) := by
  refine qMet.of (by decide) (Nat.le_of_ble_eq_true rfl) rfl ?_
  refine QP.locsE (L1 := [some (.ref r), some (.int (bI lb))]) rfl ?_
  refine qp_aload_n dX1_init_0 rfl ?_
  refine qp_objInit dX1_init_1 oiX1_3 oi_in oi_cd (Nat.le_of_ble_eq_true rfl) (Nat.le_of_ble_eq_true rfl) ?_
  refine qp_aload_n dX1_init_4 rfl ?_
  refine qp_bipush (v := 60) dX1_init_5 (by decide) ?_
  refine qk_newaI 60 dX1_init_7 acI (by decide) (by decide) (by decide) rfl rfl (fun sgn h1 n4 z5 g2 o3 => ?_)
  have z6 : h sgn = none := z5
  have g7 : h1 r = some (.inr (2, [.int (0), .null, .int (0), .int (0)])) := (o3 _ (ne_of_none gr z5)).trans gr
  have g2 : h1 sgn = some (.inl (0, 60, .inl (fun _ => 0))) := g2
  refine qk_putF dX1_init_9 ffX1_9 g7 nr rfl rfl rfl rfl rfl rfl rfl (fun h8 g9 o10 => ?_)
  have g11 : h8 sgn = some (.inl (0, 60, .inl (fun _ => 0))) := (o10 _ (ne_of_cells g2 g7 (by simp))).trans g2
  have g9 : h8 r = some (.inr (2, [.int (0), .ref sgn, .int (0), .int (0)])) := g9
  refine qp_aload_n dX1_init_12 rfl ?_
  refine qp_iload_n dX1_init_13 rfl ?_
  refine qk_putF dX1_init_14 ffX1_15 g9 nr rfl rfl rfl rfl rfl (bI_nar lb) (by cases lb <;> rfl) (fun h12 g13 o14 => ?_)
  have g15 : h12 sgn = some (.inl (0, 60, .inl (fun _ => 0))) := (o14 _ (ne_of_cells g11 g9 (by simp))).trans g11
  have g13 : h12 r = some (.inr (2, [.int (bI lb), .ref sgn, .int (0), .int (0)])) := g13
  exact qr_v dX1_init_17 rfl rfl rfl ⟨sgn, n4, z6, g13, g15, fun b hb hb2 => (((o14 b hb).trans (o10 b hb)).trans (o3 b hb2))⟩
