theorem QP.forget {G : qG} {M : qM} {E : qX} {Z : qZ} {pc : Nat} {L : List (Option Value)} {st : List Value} {h : qH} {cn sn : Nat} (i : Nat) (k : QP G M E Z pc (L.set i none) st h cn sn) : QP G M E Z pc L st h cn sn := by
  refine QP.locs (fun j v hj => ?_) k
  by_cases hji : j = i
  · subst hji
    have hl : j < L.length := by
      have := (List.getElem?_eq_some_iff.mp hj).1
      simpa using this
    rw [List.getElem?_set_self hl] at hj
    cases hj
  · rw [List.getElem?_set_ne (Ne.symm hji)] at hj
    exact hj
abbrev shCell (nb rc : Nat) (c : Int32) : qE := .inr (3, [.ref nb, .ref rc, .int c])
abbrev nbCell (N : Nat → Option Nat) : qE := .inl (3, 60, .inr (.inr (.inr (.inr N))))
abbrev rcCell (R : Nat → Int32) : qE := .inl (0, 60, .inl R)
/-- the places below c hold call numbers -/
def ShOk (h : qH) (c : Nat) (N : Nat → Option Nat) (X : Nat → CNv) : Prop := ∀ i, i < c → ∃ a ln, N i = some a ∧ h a = some (cnCell (X i) ln)
def sHas (c : Nat) (p : Int32) : Bool := decide (0 ≤ p.toInt ∧ p.toInt < c)
theorem sHas_in {c : Nat} {p : Int32} (h : sHas c p = true) (hc : c ≤ 60) : vp_in p 60 := by
  simp only [sHas, decide_eq_true_eq] at h
  rw [vp_in_iff]
  omega
theorem sHas_nI {c k : Nat} (h : k < c) (hc : c ≤ 60) : sHas c (nI k) = true := by
  simp only [sHas, decide_eq_true_eq]
  rw [nI_toInt (by omega)]
  omega
theorem sHas_out {c k : Nat} (h : c ≤ k) (hk : k < 2147483648) : sHas c (nI k) = false := by
  simp only [sHas, decide_eq_false_iff_not]
  rw [nI_toInt (by omega)]
  omega
theorem i32_lt0 {p : Int32} : p < 0 ↔ p.toInt < 0 := by rw [Int32.lt_iff_toInt_lt, Int32.toInt_zero]
theorem i32_nIle {p : Int32} {c : Nat} (hc : c < 2147483648) : nI c ≤ p ↔ (c : Int) ≤ p.toInt := by rw [Int32.le_iff_toInt_le, nI_toInt hc]
theorem i32_60le {p : Int32} : (60 : Int32) ≤ p ↔ 60 ≤ p.toInt := by rw [Int32.le_iff_toInt_le]; exact Iff.rfl
set_option maxHeartbeats 4000000 in
set_option maxRecDepth 100000 in
theorem c_has (G : qG) {h : qH} {k0 nb rc c : Nat} (p : Int32) (hc : c ≤ 60) (gk : h k0 = some (shCell nb rc (nI c))) : qMet G M_X2_has [.ref k0, .int p] h (qI (fun v h1 => h1 = h ∧ v = bI (sHas c p))) := by
  refine qMet.of (by decide) (Nat.le_of_ble_eq_true rfl) rfl ?_
  refine QP.locsE (L1 := [some (.ref k0), some (.int (p))]) rfl ?_
  refine qp_iload_n dX2_has_0 rfl ?_
  refine qp_if_lt 22 dX2_has_1 (by decide) (fun c_1 => ?_) (fun c_1 => ?_)
  · refine qp_iconst (v := 0) dX2_has_22 (by decide) ?_
    exact qr_z dX2_has_23 rfl nar_0 rfl rfl ⟨rfl, by rw [i32_lt0] at c_1; rw [show sHas c p = false by simp only [sHas, decide_eq_false_iff_not]; omega]; rfl⟩
  · refine qp_iload_n dX2_has_4 rfl ?_
    refine qp_aload_n dX2_has_5 rfl ?_
    refine qp_getf dX2_has_6 fX2_21 gk rfl ?_
    refine qp_icmp_ge 22 dX2_has_9 (by decide) (fun c_9 => ?_) (fun c_9 => ?_)
    · refine qp_iconst (v := 0) dX2_has_22 (by decide) ?_
      exact qr_z dX2_has_23 rfl nar_0 rfl rfl ⟨rfl, by rw [i32_nIle (by omega)] at c_9; rw [show sHas c p = false by simp only [sHas, decide_eq_false_iff_not]; omega]; rfl⟩
    · refine qp_iload_n dX2_has_12 rfl ?_
      refine qp_bipush (v := 60) dX2_has_13 (by decide) ?_
      refine qp_icmp_ge 22 dX2_has_15 (by decide) (fun c_15 => ?_) (fun c_15 => ?_)
      · refine qp_iconst (v := 0) dX2_has_22 (by decide) ?_
        exact qr_z dX2_has_23 rfl nar_0 rfl rfl ⟨rfl, by rw [i32_60le] at c_15; rw [show sHas c p = false by simp only [sHas, decide_eq_false_iff_not]; omega]; rfl⟩
      · refine qp_iconst (v := 1) dX2_has_18 (by decide) ?_
        refine qp_goto 23 dX2_has_19 (by decide) ?_
        exact qr_z dX2_has_23 rfl nar_1 rfl rfl ⟨rfl, by rw [i32_lt0] at c_1; rw [i32_nIle (by omega)] at c_9; rw [show sHas c p = true by simp only [sHas, decide_eq_true_eq]; omega]; rfl⟩
def sNumAt (c : Nat) (N : Nat → Option Nat) (p : Int32) : Option Nat := if sHas c p = true then N p.toNatClampNeg else none
set_option maxHeartbeats 4000000 in
set_option maxRecDepth 100000 in
theorem c_numberAt (G : qG) {h : qH} {k0 nb rc c : Nat} {N : Nat → Option Nat} (p : Int32) (hc : c ≤ 60) (gk : h k0 = some (shCell nb rc (nI c))) (gn : h nb = some (nbCell N)) : qMet G M_X2_numberAt [.ref k0, .int p] h (qA (fun v h1 => h1 = h ∧ v = sNumAt c N p)) := by
  refine qMet.of (by decide) (Nat.le_of_ble_eq_true rfl) rfl ?_
  refine QP.locsE (L1 := [some (.ref k0), some (.int (p))]) rfl ?_
  refine qp_aload_n dX2_numberAt_0 rfl ?_
  refine qp_iload_n dX2_numberAt_1 rfl ?_
  refine qv_Ip dX2_numberAt_2 mX2_25 (c_has G (p) hc gk) gk rfl rfl rfl rfl rfl rfl rfl ?_
  refine qp_if_eq 17 dX2_numberAt_5 (by decide) (fun c_5 => ?_) (fun c_5 => ?_)
  · rw [bI_0] at c_5
    refine qp_null dX2_numberAt_17 ?_
    exact qr_a (v := none) dX2_numberAt_18 rfl rfl rfl ⟨rfl, by simp only [sNumAt]; rw [if_neg (by rw [c_5]; decide)]⟩
  · rw [bI_n0] at c_5
    refine qp_aload_n dX2_numberAt_8 rfl ?_
    refine qp_getf dX2_numberAt_9 fX2_11 gk rfl ?_
    refine qp_iload_n dX2_numberAt_12 rfl ?_
    refine qp_aald dX2_numberAt_13 gn (sHas_in c_5 hc) ?_
    refine qp_goto 18 dX2_numberAt_14 (by decide) ?_
    exact qr_a (v := N (Int32.toNatClampNeg (p))) dX2_numberAt_18 rfl rfl rfl ⟨rfl, by simp only [sNumAt]; rw [if_pos c_5]⟩
theorem c_numberAtN (G : qG) {h : qH} {k0 nb rc c : Nat} {N : Nat → Option Nat} {a : Nat} (k : Nat) (hk : k < c) (hN : N k = some a) (hc : c ≤ 60) (gk : h k0 = some (shCell nb rc (nI c))) (gn : h nb = some (nbCell N)) : qMet G M_X2_numberAt [.ref k0, .int (nI k)] h (qA (fun v h1 => h1 = h ∧ v = some a)) := by
  refine (c_numberAt G (nI k) hc gk gn).mono (fun r h1 ⟨v, e, h2, h3⟩ => ⟨v, e, h2, ?_⟩)
  rw [h3, sNumAt, if_pos (sHas_nI hk hc), nI_clamp (by omega), hN]
def sRecAt (c : Nat) (R : Nat → Int32) (p : Int32) : Int32 := if sHas c p = true then R p.toNatClampNeg else -1
set_option maxHeartbeats 4000000 in
set_option maxRecDepth 100000 in
theorem c_recordAt (G : qG) {h : qH} {k0 nb rc c : Nat} {R : Nat → Int32} (p : Int32) (hc : c ≤ 60) (gk : h k0 = some (shCell nb rc (nI c))) (gr : h rc = some (rcCell R)) : qMet G M_X2_recordAt [.ref k0, .int p] h (qI (fun v h1 => h1 = h ∧ v = sRecAt c R p)) := by
  refine qMet.of (by decide) (Nat.le_of_ble_eq_true rfl) rfl ?_
  refine QP.locsE (L1 := [some (.ref k0), some (.int (p))]) rfl ?_
  refine qp_aload_n dX2_recordAt_0 rfl ?_
  refine qp_iload_n dX2_recordAt_1 rfl ?_
  refine qv_Ip dX2_recordAt_2 mX2_25 (c_has G (p) hc gk) gk rfl rfl rfl rfl rfl rfl rfl ?_
  refine qp_if_eq 17 dX2_recordAt_5 (by decide) (fun c_5 => ?_) (fun c_5 => ?_)
  · rw [bI_0] at c_5
    refine qp_iconst (v := -1) dX2_recordAt_17 (by decide) ?_
    exact qr_i dX2_recordAt_18 rfl rfl rfl ⟨rfl, by simp only [sRecAt]; rw [if_neg (by rw [c_5]; decide)]⟩
  · rw [bI_n0] at c_5
    refine qp_aload_n dX2_recordAt_8 rfl ?_
    refine qp_getf dX2_recordAt_9 fX2_17 gk rfl ?_
    refine qp_iload_n dX2_recordAt_12 rfl ?_
    refine qp_iald dX2_recordAt_13 gr (sHas_in c_5 hc) ?_
    refine qp_goto 18 dX2_recordAt_14 (by decide) ?_
    exact qr_i dX2_recordAt_18 rfl rfl rfl ⟨rfl, by simp only [sRecAt]; rw [if_pos c_5]⟩
def cntB (X : Nat → CNv) (y : CNv) : Nat → Nat
  | 0 => 0
  | k + 1 => cntB X y k + if sOrder (X k) y < 0 then 1 else 0
theorem cntB_le (X : Nat → CNv) (y : CNv) : ∀ k, cntB X y k ≤ k
  | 0 => Nat.le_refl _
  | k + 1 => by
    have := cntB_le X y k
    simp only [cntB]
    split <;> omega
set_option maxHeartbeats 4000000 in
set_option maxRecDepth 100000 in
theorem l_countBefore {G : qG} {h : qH} {k0 nb rc c : Nat} {N : Nat → Option Nat} {X : Nat → CNv} {a ln : Nat} {y : CNv} (hc : c ≤ 60) (gk : h k0 = some (shCell nb rc (nI c))) (gn : h nb = some (nbCell N)) (hok : ShOk h c N X) (ga : h a = some (cnCell y ln)) : ∀ (n k : Nat), c < k + n → k ≤ c → QP G M_X2_countBefore qTr (qMZ G M_X2_countBefore (qI (fun v h1 => h1 = h ∧ v = nI (cntB X y c)))) 4 [some (.ref k0), some (.ref a), some (.int (nI (cntB X y k))), some (.int (nI k)), none] [] h 0 0 := by
  intro n
  induction n with
  | zero =>
    intro k h1 h2
    omega
  | succ n ih =>
    intro k h1 h2
    refine qp_iload_n dX2_countBefore_4 rfl ?_
    refine qp_aload_n dX2_countBefore_5 rfl ?_
    refine qp_getf dX2_countBefore_6 fX2_21 gk rfl ?_
    refine qp_icmp_ge 42 dX2_countBefore_9 (by decide) (fun c_9 => ?_) (fun c_9 => ?_)
    · have hk : c ≤ k := (nI_leI (by omega) (by omega)).mp c_9
      refine qp_iload_n dX2_countBefore_42 rfl ?_
      exact qr_i dX2_countBefore_43 rfl rfl rfl ⟨rfl, by rw [show k = c by omega]⟩
    · have hk : k < c := Nat.not_le.mp fun q => c_9 ((nI_leI (by omega) (by omega)).mpr q)
      obtain ⟨a1, ln1, hN, ha1⟩ := hok k hk
      refine qp_aload_n dX2_countBefore_12 rfl ?_
      refine qp_iload_n dX2_countBefore_13 rfl ?_
      refine qv_Ap dX2_countBefore_14 mX2_29 (c_numberAtN G k hk hN hc gk gn) gk rfl rfl rfl rfl rfl rfl rfl ?_
      refine qp_astore dX2_countBefore_17 (by decide) ?_
      refine QP.locsE (L1 := [some (.ref k0), some (.ref a), some (.int (nI (cntB X y k))), some (.int (nI k)), some (.ref a1)]) rfl ?_
      refine qp_aload dX2_countBefore_19 rfl ?_
      refine qp_ifnull dX2_countBefore_21 ?_
      refine qp_aload dX2_countBefore_24 rfl ?_
      refine qp_aload_n dX2_countBefore_26 rfl ?_
      refine qs_Ip dX2_countBefore_27 mX2_33 (c_order G ha1 ga) rfl rfl rfl rfl rfl rfl ?_
      refine qp_if_ge 36 dX2_countBefore_30 (by decide) (fun c_30 => ?_) (fun c_30 => ?_)
      · refine qp_iinc (v := nI (k + 1)) dX2_countBefore_36 rfl (by decide) (nI_1 k) ?_
        refine QP.locsE (L1 := [some (.ref k0), some (.ref a), some (.int (nI (cntB X y k))), some (.int (nI (k + 1))), some (.ref a1)]) rfl ?_
        refine qp_goto 4 dX2_countBefore_39 (by decide) ?_
        refine QP.forget 4 ?_
        have hs : cntB X y (k + 1) = cntB X y k := by simp only [cntB]; rw [if_neg (i32_nlt.mpr c_30), Nat.add_zero]
        rw [← hs]
        exact ih (k + 1) (by omega) (by omega)
      · refine qp_iinc (v := nI (cntB X y k + 1)) dX2_countBefore_33 rfl (by decide) (nI_1 _) ?_
        refine QP.locsE (L1 := [some (.ref k0), some (.ref a), some (.int (nI (cntB X y k + 1))), some (.int (nI k)), some (.ref a1)]) rfl ?_
        refine qp_iinc (v := nI (k + 1)) dX2_countBefore_36 rfl (by decide) (nI_1 k) ?_
        refine QP.locsE (L1 := [some (.ref k0), some (.ref a), some (.int (nI (cntB X y k + 1))), some (.int (nI (k + 1))), some (.ref a1)]) rfl ?_
        refine qp_goto 4 dX2_countBefore_39 (by decide) ?_
        refine QP.forget 4 ?_
        have hs : cntB X y (k + 1) = cntB X y k + 1 := by simp only [cntB]; rw [if_pos (i32_nle.mp c_30)]
        rw [← hs]
        exact ih (k + 1) (by omega) (by omega)
set_option maxHeartbeats 4000000 in
set_option maxRecDepth 100000 in
theorem c_countBefore (G : qG) {h : qH} {k0 nb rc c : Nat} {N : Nat → Option Nat} {X : Nat → CNv} {a ln : Nat} {y : CNv} (hc : c ≤ 60) (gk : h k0 = some (shCell nb rc (nI c))) (gn : h nb = some (nbCell N)) (hok : ShOk h c N X) (ga : h a = some (cnCell y ln)) : qMet G M_X2_countBefore [.ref k0, .ref a] h (qI (fun v h1 => h1 = h ∧ v = nI (cntB X y c))) := by
  refine qMet.of (by decide) (Nat.le_of_ble_eq_true rfl) rfl ?_
  refine QP.locsE (L1 := [some (.ref k0), some (.ref a), none, none, none]) rfl ?_
  refine qp_iconst (v := 0) dX2_countBefore_0 (by decide) ?_
  refine qp_istore_n dX2_countBefore_1 (by decide) ?_
  refine QP.locsE (L1 := [some (.ref k0), some (.ref a), some (.int (0)), none, none]) rfl ?_
  refine qp_iconst (v := 0) dX2_countBefore_2 (by decide) ?_
  refine qp_istore_n dX2_countBefore_3 (by decide) ?_
  refine QP.locsE (L1 := [some (.ref k0), some (.ref a), some (.int (0)), some (.int (0)), none]) rfl ?_
  exact l_countBefore hc gk gn hok ga (c + 1) 0 (by omega) (by omega)
def sSame (c : Nat) (X : Nat → CNv) (y : CNv) (k : Nat) : Bool := decide (k < c) && decide (sOrder (X k) y = 0)
set_option maxHeartbeats 4000000 in
set_option maxRecDepth 100000 in
theorem c_isSameAt (G : qG) {h : qH} {k0 nb rc c : Nat} {N : Nat → Option Nat} {X : Nat → CNv} {a ln : Nat} {y : CNv} (k : Nat) (hk60 : k ≤ 60) (hc : c ≤ 60) (gk : h k0 = some (shCell nb rc (nI c))) (gn : h nb = some (nbCell N)) (hok : ShOk h c N X) (ga : h a = some (cnCell y ln)) : qMet G M_X2_isSameAt [.ref k0, .int (nI k), .ref a] h (qI (fun v h1 => h1 = h ∧ v = bI (sSame c X y k))) := by
  refine qMet.of (by decide) (Nat.le_of_ble_eq_true rfl) rfl ?_
  rcases Nat.lt_or_ge k c with hk | hk
  · obtain ⟨a1, ln1, hN, ha1⟩ := hok k hk
    refine QP.locsE (L1 := [some (.ref k0), some (.int (nI k)), some (.ref a), none]) rfl ?_
    refine qp_aload_n dX2_isSameAt_0 rfl ?_
    refine qp_iload_n dX2_isSameAt_1 rfl ?_
    refine qv_Ap dX2_isSameAt_2 mX2_29 (c_numberAtN G k hk hN hc gk gn) gk rfl rfl rfl rfl rfl rfl rfl ?_
    refine qp_astore_n dX2_isSameAt_5 (by decide) ?_
    refine QP.locsE (L1 := [some (.ref k0), some (.int (nI k)), some (.ref a), some (.ref a1)]) rfl ?_
    refine qp_aload_n dX2_isSameAt_6 rfl ?_
    refine qp_ifnull dX2_isSameAt_7 ?_
    refine qp_aload_n dX2_isSameAt_10 rfl ?_
    refine qp_aload_n dX2_isSameAt_11 rfl ?_
    refine qs_Ip dX2_isSameAt_12 mX2_33 (c_order G ha1 ga) rfl rfl rfl rfl rfl rfl ?_
    refine qp_if_ne 22 dX2_isSameAt_15 (by decide) (fun c_15 => ?_) (fun c_15 => ?_)
    · refine qp_iconst (v := 0) dX2_isSameAt_22 (by decide) ?_
      exact qr_z dX2_isSameAt_23 rfl nar_0 rfl rfl ⟨rfl, by simp [sSame, hk, c_15, bI]⟩
    · refine qp_iconst (v := 1) dX2_isSameAt_18 (by decide) ?_
      refine qp_goto 23 dX2_isSameAt_19 (by decide) ?_
      exact qr_z dX2_isSameAt_23 rfl nar_1 rfl rfl ⟨rfl, by simp [sSame, hk, c_15, bI]⟩
  · skip
    refine QP.locsE (L1 := [some (.ref k0), some (.int (nI k)), some (.ref a), none]) rfl ?_
    refine qp_aload_n dX2_isSameAt_0 rfl ?_
    refine qp_iload_n dX2_isSameAt_1 rfl ?_
    refine qv_Ap dX2_isSameAt_2 mX2_29 ((c_numberAt G (nI k) hc gk gn).mono (Q' := qA (fun v h1 => h1 = h ∧ v = none)) (fun r h1 ⟨v, e, h2, h3⟩ => ⟨v, e, h2, by rw [h3, sNumAt, sHas_out hk (by omega)]; rfl⟩)) gk rfl rfl rfl rfl rfl rfl rfl ?_
    refine qp_astore_nN dX2_isSameAt_5 (by decide) ?_
    refine QP.locsE (L1 := [some (.ref k0), some (.int (nI k)), some (.ref a), some (.null)]) rfl ?_
    refine qp_aload_nN dX2_isSameAt_6 rfl ?_
    refine qp_ifnullN 22 dX2_isSameAt_7 (by decide) ?_
    refine qp_iconst (v := 0) dX2_isSameAt_22 (by decide) ?_
    exact qr_z dX2_isSameAt_23 rfl nar_0 rfl rfl ⟨rfl, by simp [sSame, Nat.not_lt.mpr hk, bI]⟩
def sFirst (R : Nat → Int32) (rec : Int32) : Nat → Nat → Int32
  | 0, _ => -1
  | n + 1, k => if R k = rec then nI k else sFirst R rec n (k + 1)
set_option maxHeartbeats 4000000 in
set_option maxRecDepth 100000 in
theorem l_firstWith {G : qG} {h : qH} {k0 nb rc c : Nat} {R : Nat → Int32} {rec r : Int32} (hc : c ≤ 60) (gk : h k0 = some (shCell nb rc (nI c))) (gr : h rc = some (rcCell R)) : ∀ (n k : Nat), c < k + n → k ≤ c → r = sFirst R rec (c - k) k → QP G M_X2_firstWith qTr (qMZ G M_X2_firstWith (qI (fun v h1 => h1 = h ∧ v = r))) 2 [some (.ref k0), some (.int rec), some (.int (nI k))] [] h 0 0 := by
  intro n
  induction n with
  | zero =>
    intro k h1 h2
    omega
  | succ n ih =>
    intro k h1 h2 hr
    refine qp_iload_n dX2_firstWith_2 rfl ?_
    refine qp_aload_n dX2_firstWith_3 rfl ?_
    refine qp_getf dX2_firstWith_4 fX2_21 gk rfl ?_
    refine qp_icmp_ge 28 dX2_firstWith_7 (by decide) (fun c_7 => ?_) (fun c_7 => ?_)
    · have hk : c ≤ k := (nI_leI (by omega) (by omega)).mp c_7
      refine qp_iconst (v := -1) dX2_firstWith_28 (by decide) ?_
      exact qr_i dX2_firstWith_29 rfl rfl rfl ⟨rfl, by rw [hr, show c - k = 0 by omega]; rfl⟩
    · have hk : k < c := Nat.not_le.mp fun q => c_7 ((nI_leI (by omega) (by omega)).mpr q)
      refine qp_aload_n dX2_firstWith_10 rfl ?_
      refine qp_getf dX2_firstWith_11 fX2_17 gk rfl ?_
      refine qp_iload_n dX2_firstWith_14 rfl ?_
      refine qp_ialdN (k) dX2_firstWith_15 gr rfl (by omega) (by decide) ?_
      refine qp_iload_n dX2_firstWith_16 rfl ?_
      refine qp_icmp_ne 22 dX2_firstWith_17 (by decide) (fun c_17 => ?_) (fun c_17 => ?_)
      · refine qp_iinc (v := nI (k + 1)) dX2_firstWith_22 rfl (by decide) (nI_1 k) ?_
        refine QP.locsE (L1 := [some (.ref k0), some (.int (rec)), some (.int (nI (k + 1)))]) rfl ?_
        refine qp_goto 2 dX2_firstWith_25 (by decide) ?_
        refine ih (k + 1) (by omega) (by omega) ?_
        rw [hr, show c - k = (c - (k + 1)) + 1 by omega, sFirst, if_neg c_17]
      · refine qp_iload_n dX2_firstWith_20 rfl ?_
        exact qr_i dX2_firstWith_21 rfl rfl rfl ⟨rfl, by rw [hr, show c - k = (c - (k + 1)) + 1 by omega, sFirst, if_pos c_17]⟩
set_option maxHeartbeats 4000000 in
set_option maxRecDepth 100000 in
theorem c_firstWith (G : qG) {h : qH} {k0 nb rc c : Nat} {R : Nat → Int32} (rec : Int32) (hc : c ≤ 60) (gk : h k0 = some (shCell nb rc (nI c))) (gr : h rc = some (rcCell R)) : qMet G M_X2_firstWith [.ref k0, .int rec] h (qI (fun v h1 => h1 = h ∧ v = sFirst R rec c 0)) := by
  refine qMet.of (by decide) (Nat.le_of_ble_eq_true rfl) rfl ?_
  refine QP.locsE (L1 := [some (.ref k0), some (.int (rec)), none]) rfl ?_
  refine qp_iconst (v := 0) dX2_firstWith_0 (by decide) ?_
  refine qp_istore_n dX2_firstWith_1 (by decide) ?_
  refine QP.locsE (L1 := [some (.ref k0), some (.int (rec)), some (.int (0))]) rfl ?_
  exact l_firstWith hc gk gr (c + 1) 0 (by omega) (by omega) rfl
def sAny (p : Nat → Bool) : Nat → Nat → Bool
  | 0, _ => false
  | n + 1, k => p k || sAny p n (k + 1)
def sCutAt (X : Nat → CNv) (y : CNv) (cut : Int32) (k : Nat) : Bool := sHasClass (X k) y && (decide ((X k).cap = y.cap) && decide ((X k).cut = cut))
set_option maxHeartbeats 4000000 in
set_option maxRecDepth 100000 in
theorem l_hasCutter {G : qG} {h : qH} {k0 nb rc c : Nat} {N : Nat → Option Nat} {X : Nat → CNv} {a ln : Nat} {y : CNv} {cut : Int32} {r : Bool} (hc : c ≤ 60) (gk : h k0 = some (shCell nb rc (nI c))) (gn : h nb = some (nbCell N)) (hok : ShOk h c N X) (ga : h a = some (cnCell y ln)) : ∀ (n k : Nat), c < k + n → k ≤ c → r = sAny (sCutAt X y cut) (c - k) k → QP G M_X2_hasCutter qTr (qMZ G M_X2_hasCutter (qI (fun v h1 => h1 = h ∧ v = bI r))) 2 [some (.ref k0), some (.ref a), some (.int cut), some (.int (nI k)), none] [] h 0 0 := by
  intro n
  induction n with
  | zero =>
    intro k h1 h2
    omega
  | succ n ih =>
    intro k h1 h2 hr
    refine qp_iload_n dX2_hasCutter_2 rfl ?_
    refine qp_aload_n dX2_hasCutter_3 rfl ?_
    refine qp_getf dX2_hasCutter_4 fX2_21 gk rfl ?_
    refine qp_icmp_ge 60 dX2_hasCutter_7 (by decide) (fun c_7 => ?_) (fun c_7 => ?_)
    · have hk : c ≤ k := (nI_leI (by omega) (by omega)).mp c_7
      refine qp_iconst (v := 0) dX2_hasCutter_60 (by decide) ?_
      exact qr_z dX2_hasCutter_61 rfl nar_0 rfl rfl ⟨rfl, by rw [hr, show c - k = 0 by omega]; rfl⟩
    · have hk : k < c := Nat.not_le.mp fun q => c_7 ((nI_leI (by omega) (by omega)).mpr q)
      obtain ⟨a1, ln1, hN, ha1⟩ := hok k hk
      refine qp_aload_n dX2_hasCutter_10 rfl ?_
      refine qp_iload_n dX2_hasCutter_11 rfl ?_
      refine qv_Ap dX2_hasCutter_12 mX2_29 (c_numberAtN G k hk hN hc gk gn) gk rfl rfl rfl rfl rfl rfl rfl ?_
      refine qp_astore dX2_hasCutter_15 (by decide) ?_
      refine QP.locsE (L1 := [some (.ref k0), some (.ref a), some (.int (cut)), some (.int (nI k)), some (.ref a1)]) rfl ?_
      refine qp_aload dX2_hasCutter_17 rfl ?_
      refine qp_ifnull dX2_hasCutter_19 ?_
      refine qp_aload dX2_hasCutter_22 rfl ?_
      refine qp_aload_n dX2_hasCutter_24 rfl ?_
      refine qv_Ip dX2_hasCutter_25 mX2_37 (c_hasClassOf G ha1 ga) ha1 rfl rfl rfl rfl rfl rfl rfl ?_
      refine qp_if_eq 54 dX2_hasCutter_28 (by decide) (fun c_28 => ?_) (fun c_28 => ?_)
      · rw [bI_0] at c_28
        refine qp_iinc (v := nI (k + 1)) dX2_hasCutter_54 rfl (by decide) (nI_1 k) ?_
        refine QP.locsE (L1 := [some (.ref k0), some (.ref a), some (.int (cut)), some (.int (nI (k + 1))), some (.ref a1)]) rfl ?_
        refine qp_goto 2 dX2_hasCutter_57 (by decide) ?_
        refine QP.forget 4 ?_
        refine ih (k + 1) (by omega) (by omega) ?_
        rw [hr, show c - k = (c - (k + 1)) + 1 by omega, sAny, show sCutAt X y cut k = false by simp [sCutAt, c_28], Bool.false_or]
      · rw [bI_n0] at c_28
        refine qp_aload dX2_hasCutter_31 rfl ?_
        refine qp_getf dX2_hasCutter_33 fX2_41 ha1 rfl ?_
        refine qp_aload_n dX2_hasCutter_36 rfl ?_
        refine qp_getf dX2_hasCutter_37 fX2_41 ga rfl ?_
        refine qp_icmp_ne 54 dX2_hasCutter_40 (by decide) (fun c_40 => ?_) (fun c_40 => ?_)
        · refine qp_iinc (v := nI (k + 1)) dX2_hasCutter_54 rfl (by decide) (nI_1 k) ?_
          refine QP.locsE (L1 := [some (.ref k0), some (.ref a), some (.int (cut)), some (.int (nI (k + 1))), some (.ref a1)]) rfl ?_
          refine qp_goto 2 dX2_hasCutter_57 (by decide) ?_
          refine QP.forget 4 ?_
          refine ih (k + 1) (by omega) (by omega) ?_
          rw [hr, show c - k = (c - (k + 1)) + 1 by omega, sAny, show sCutAt X y cut k = false by simp [sCutAt, c_40], Bool.false_or]
        · refine qp_aload dX2_hasCutter_43 rfl ?_
          refine qp_getf dX2_hasCutter_45 fX2_44 ha1 rfl ?_
          refine qp_iload_n dX2_hasCutter_48 rfl ?_
          refine qp_icmp_ne 54 dX2_hasCutter_49 (by decide) (fun c_49 => ?_) (fun c_49 => ?_)
          · refine qp_iinc (v := nI (k + 1)) dX2_hasCutter_54 rfl (by decide) (nI_1 k) ?_
            refine QP.locsE (L1 := [some (.ref k0), some (.ref a), some (.int (cut)), some (.int (nI (k + 1))), some (.ref a1)]) rfl ?_
            refine qp_goto 2 dX2_hasCutter_57 (by decide) ?_
            refine QP.forget 4 ?_
            refine ih (k + 1) (by omega) (by omega) ?_
            rw [hr, show c - k = (c - (k + 1)) + 1 by omega, sAny, show sCutAt X y cut k = false by simp [sCutAt, c_49], Bool.false_or]
          · refine qp_iconst (v := 1) dX2_hasCutter_52 (by decide) ?_
            exact qr_z dX2_hasCutter_53 rfl nar_1 rfl rfl ⟨rfl, by rw [hr, show c - k = (c - (k + 1)) + 1 by omega, sAny, show sCutAt X y cut k = true by simp [sCutAt, c_28, c_40, c_49]]; rfl⟩
set_option maxHeartbeats 4000000 in
set_option maxRecDepth 100000 in
theorem c_hasCutter (G : qG) {h : qH} {k0 nb rc c : Nat} {N : Nat → Option Nat} {X : Nat → CNv} {a ln : Nat} {y : CNv} (cut : Int32) (hc : c ≤ 60) (gk : h k0 = some (shCell nb rc (nI c))) (gn : h nb = some (nbCell N)) (hok : ShOk h c N X) (ga : h a = some (cnCell y ln)) : qMet G M_X2_hasCutter [.ref k0, .ref a, .int cut] h (qI (fun v h1 => h1 = h ∧ v = bI (sAny (sCutAt X y cut) c 0))) := by
  refine qMet.of (by decide) (Nat.le_of_ble_eq_true rfl) rfl ?_
  refine QP.locsE (L1 := [some (.ref k0), some (.ref a), some (.int (cut)), none, none]) rfl ?_
  refine qp_iconst (v := 0) dX2_hasCutter_0 (by decide) ?_
  refine qp_istore_n dX2_hasCutter_1 (by decide) ?_
  refine QP.locsE (L1 := [some (.ref k0), some (.ref a), some (.int (cut)), some (.int (0)), none]) rfl ?_
  exact l_hasCutter hc gk gn hok ga (c + 1) 0 (by omega) (by omega) rfl
