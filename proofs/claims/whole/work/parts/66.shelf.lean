/-! ===== the shelf ===== -/
theorem mLex_v (A B : Nat → Int32) : ∀ t k, mLex A B t k = 0 ∨ mLex A B t k = -1 ∨ mLex A B t k = 1
  | 0, _ => Or.inl rfl
  | t + 1, k => by
    rw [mLex]
    split
    · exact mLex_v A B t (k + 1)
    · split
      · exact Or.inr (Or.inl rfl)
      · exact Or.inr (Or.inr rfl)
theorem mLex_0 (A B : Nat → Int32) : ∀ t k, mLex A B t k = 0 ↔ ∀ i, k ≤ i → i < k + t → A i = B i
  | 0, k => ⟨fun _ i h1 h2 => absurd h1 (by omega), fun _ => rfl⟩
  | t + 1, k => by
    rw [mLex]
    by_cases h : A k = B k
    · rw [if_pos h, mLex_0 A B t (k + 1)]
      constructor
      · intro q i h1 h2
        by_cases e : i = k
        · rw [e]; exact h
        · exact q i (by omega) (by omega)
      · intro q i h1 h2
        exact q i (by omega) (by omega)
    · rw [if_neg h]
      constructor
      · intro q
        split at q
        · exact absurd q (by decide)
        · exact absurd q (by decide)
      · intro q
        exact absurd (q k (by omega) (by omega)) h
theorem mLex_sw (A B : Nat → Int32) : ∀ t k, mLex B A t k = -(mLex A B t k)
  | 0, _ => by rw [mLex, mLex]; rfl
  | t + 1, k => by
    rw [mLex, mLex]
    by_cases h : A k = B k
    · rw [if_pos h, if_pos h.symm, mLex_sw A B t (k + 1)]
    · rw [if_neg h, if_neg (fun q => h q.symm)]
      by_cases h2 : A k < B k
      · have : ¬ B k < A k := by rw [Int32.lt_iff_toInt_lt] at h2 ⊢; omega
        rw [if_pos h2, if_neg this]
        rfl
      · have : B k < A k := by
          rw [Int32.lt_iff_toInt_lt] at h2 ⊢
          have : ¬ (A k).toInt = (B k).toInt := fun q => h (Int32.toInt_inj.mp q)
          omega
        rw [if_neg h2, if_pos this]
theorem mLex_tr (A B C : Nat → Int32) : ∀ t k, mLex A B t k = -1 → mLex B C t k = -1 → mLex A C t k = -1
  | 0, _, h, _ => absurd h (by rw [mLex]; decide)
  | t + 1, k, h1, h2 => by
    rw [mLex] at h1 h2 ⊢
    by_cases e1 : A k = B k
    · rw [if_pos e1] at h1
      by_cases e2 : B k = C k
      · rw [if_pos e2] at h2
        rw [if_pos (e1.trans e2)]
        exact mLex_tr A B C t (k + 1) h1 h2
      · rw [if_neg e2] at h2
        rw [e1, if_neg e2]
        exact h2
    · rw [if_neg e1] at h1
      have l1 : A k < B k := by
        by_cases q : A k < B k
        · exact q
        · rw [if_neg q] at h1; exact absurd h1 (by decide)
      by_cases e2 : B k = C k
      · rw [← e2, if_neg e1, if_pos l1]
      · rw [if_neg e2] at h2
        have l2 : B k < C k := by
          by_cases q : B k < C k
          · exact q
          · rw [if_neg q] at h2; exact absurd h2 (by decide)
        have l3 : A k < C k := Int32.lt_trans l1 l2
        rw [if_neg (fun q => by rw [q] at l3; exact Int32.lt_irrefl l3), if_pos l3]
theorem mLex_eq {A B C : Nat → Int32} {t k : Nat} (h : mLex A B t k = 0) : mLex A C t k = mLex B C t k := by
  have e := (mLex_0 A B t k).mp h
  clear h
  induction t generalizing k with
  | zero => rfl
  | succ t ih =>
    rw [mLex, mLex, e k (by omega) (by omega), ih (fun i h1 h2 => e i (by omega) (by omega))]
/-- a call number and a row of it -/
def RelX (e w : Nat) (x : CNv) (A : Nat → Int32) : Prop := ∃ fl a, Rel e w x fl a ∧ RowN A a
theorem RelX.ord {e w : Nat} (hw : w ≤ 9) {x y : CNv} {A B : Nat → Int32} (hx : RelX e w x A) (hy : RelX e w y B) : sOrder x y = mLex A B 34 0 := by
  obtain ⟨f1, a, h1, h2⟩ := hx
  obtain ⟨f2, b, h3, h4⟩ := hy
  exact rel_order hw h1 h3 h2 h4
theorem RelX.row {e w : Nat} {x : CNv} {A B : Nat → Int32} (hx : RelX e w x A) (h : ∀ i, i < 40 → B i = A i) : RelX e w x B := by
  obtain ⟨f1, a, h1, h2⟩ := hx
  exact ⟨f1, a, h1, fun i hi => by rw [h i hi]; exact h2 i hi⟩
/-- the shelf: a row for each call number, strictly in order -/
def ShR (e w c : Nat) (X : Nat → CNv) (H : Nat → Int32) : Prop := (∀ i, i < c → RelX e w (X i) (mRow H i)) ∧ ∀ i j, i < j → j < c → mLex (mRow H i) (mRow H j) 34 0 = -1
theorem neg1_lt (x : Int32) (h : x = 0 ∨ x = -1 ∨ x = 1) : (x < 0 ↔ x = -1) ∧ (0 < -x ↔ x = -1) ∧ (0 < x ↔ x = 1) := by
  rcases h with rfl | rfl | rfl <;> decide
theorem cnt_all {X : Nat → CNv} {y : CNv} : ∀ n, (∀ k, k < n → sOrder (X k) y < 0) → cntB X y n = n
  | 0, _ => rfl
  | n + 1, h => by rw [cntB, cnt_all n (fun k hk => h k (by omega)), if_pos (h n (by omega))]
theorem cnt_none {X : Nat → CNv} {y : CNv} (n : Nat) : ∀ t, (∀ k, n ≤ k → k < n + t → ¬ sOrder (X k) y < 0) → cntB X y (n + t) = cntB X y n
  | 0, _ => rfl
  | t + 1, h => by rw [← Nat.add_assoc, cntB, cnt_none n t (fun k h1 h2 => h k h1 (by omega)), if_neg (h (n + t) (by omega) (by omega)), Nat.add_zero]
theorem place_eq {X : Nat → CNv} {y : CNv} {O : Nat → Int32} {c : Nat} (hO : ∀ k, k < c → (0 < O k ↔ sOrder (X k) y < 0)) (hm : ∀ i j, i < j → j < c → sOrder (X j) y < 0 → sOrder (X i) y < 0) : ∀ t n, n + t = c → (∀ k, k < n → sOrder (X k) y < 0) → mPlace O t n = cntB X y c ∧ cntB X y c ≤ c ∧ (∀ k, k < cntB X y c → sOrder (X k) y < 0) ∧ (∀ k, cntB X y c ≤ k → k < c → ¬ sOrder (X k) y < 0)
  | 0, n, h, ha => by
    obtain rfl : n = c := by omega
    rw [mPlace, cnt_all n ha]
    exact ⟨rfl, Nat.le_refl _, ha, fun k h1 h2 => absurd h1 (by omega)⟩
  | t + 1, n, h, ha => by
    rw [mPlace]
    by_cases q : sOrder (X n) y < 0
    · rw [if_pos ((hO n (by omega)).mpr q)]
      exact place_eq hO hm t (n + 1) (by omega) (fun k hk => by
        by_cases e : k = n
        · rw [e]; exact q
        · exact ha k (by omega))
    · have hn : ∀ k, n ≤ k → k < n + (t + 1) → ¬ sOrder (X k) y < 0 := fun k h1 h2 => by
        by_cases e : k = n
        · rw [e]; exact q
        · exact fun z => q (hm n k (by omega) (by omega) z)
      have : cntB X y c = n := by rw [← h, cnt_none n (t + 1) hn, cnt_all n ha]
      rw [if_neg (fun z => q ((hO n (by omega)).mp z)), this]
      exact ⟨rfl, by omega, ha, fun k h1 h2 => hn k h1 (by omega)⟩
theorem sh_place {e w c : Nat} (hw : w ≤ 9) {X : Nat → CNv} {H : Nat → Int32} (hs : ShR e w c X H) {y : CNv} {A : Nat → Int32} (hy : RelX e w y A) : mPlace (fun n => mLex A (mRow H n) 34 0) c 0 = cntB X y c ∧ cntB X y c ≤ c ∧ (∀ k, k < cntB X y c → mLex (mRow H k) A 34 0 = -1) ∧ (∀ k, cntB X y c ≤ k → k < c → ¬ mLex (mRow H k) A 34 0 = -1) := by
  have o : ∀ k, k < c → sOrder (X k) y = mLex (mRow H k) A 34 0 := fun k hk => (hs.1 k hk).ord hw hy
  have o1 : ∀ k, k < c → (sOrder (X k) y < 0 ↔ mLex (mRow H k) A 34 0 = -1) := fun k hk => by rw [o k hk]; exact (neg1_lt _ (mLex_v _ _ _ _)).1
  obtain ⟨h1, h2, h3, h4⟩ := place_eq (X := X) (y := y) (O := fun n => mLex A (mRow H n) 34 0) (c := c) (fun k hk => by
      show 0 < mLex A (mRow H k) 34 0 ↔ _
      rw [o1 k hk, mLex_sw (mRow H k) A]
      exact (neg1_lt _ (mLex_v _ _ _ _)).2.1) (fun i j h1 h2 h3 => by
      rw [o1 j h2] at h3
      rw [o1 i (by omega)]
      exact mLex_tr _ _ _ _ _ (hs.2 i j h1 h2) h3) c 0 (by omega) (fun k hk => absurd hk (by omega))
  exact ⟨h1, h2, fun k hk => (o1 k (by omega)).mp (h3 k hk), fun k hk hc z => h4 k hk hc ((o1 k hc).mpr z)⟩
theorem sh_same {e w c : Nat} (hw : w ≤ 9) {X : Nat → CNv} {H : Nat → Int32} (hs : ShR e w c X H) {y : CNv} {A : Nat → Int32} (hy : RelX e w y A) (k : Nat) : sSame c X y k = true ↔ k < c ∧ mLex A (mRow H k) 34 0 = 0 := by
  rw [sSame, Bool.and_eq_true, decide_eq_true_eq, decide_eq_true_eq]
  refine and_congr_right (fun hk => ?_)
  rw [(hs.1 k hk).ord hw hy, mLex_0, mLex_0]
  exact ⟨fun q i h1 h2 => (q i h1 h2).symm, fun q i h1 h2 => (q i h1 h2).symm⟩
theorem row_put {H A : Nat → Int32} {j c : Nat} (hj : j ≤ c) {i k : Nat} (hk : k < 40) (hi : i ≤ c) : mRow (cpR (shUI H j c 0) j A 40) i k = insF (mRow H) j c A i k := by
  rw [mRow, cpR, insF]
  by_cases q : i = j
  · subst q
    rw [if_pos (by omega), if_pos rfl]
    exact congrArg A (by omega)
  · rw [if_neg (by omega), if_neg q, shUI]
    by_cases q2 : j < i ∧ i ≤ c
    · rw [if_pos q2, if_pos (by omega), mRow]
      exact congrArg H (by omega)
    · rw [if_neg q2, if_neg (by omega), mRow]
theorem sh_put {e w c : Nat} (hw : w ≤ 9) {X : Nat → CNv} {H : Nat → Int32} (hs : ShR e w c X H) {y : CNv} {A : Nat → Int32} (hy : RelX e w y A) (hn : sSame c X y (cntB X y c) = false) : ShR e w (c + 1) (insF X (cntB X y c) c y) (cpR (shUI H (cntB X y c) c 0) (cntB X y c) A 40) := by
  obtain ⟨-, hj, hb, ha⟩ := sh_place hw hs hy
  have hns : ∀ k, cntB X y c ≤ k → k < c → mLex A (mRow H k) 34 0 = -1 := fun k h1 h2 => by
    have q1 := ha (cntB X y c) (Nat.le_refl _) (by omega)
    have q2 : ¬ mLex A (mRow H (cntB X y c)) 34 0 = 0 := fun q => by
      have := (sh_same hw hs hy (cntB X y c)).mpr ⟨by omega, q⟩
      rw [hn] at this
      cases this
    have q3 : mLex A (mRow H (cntB X y c)) 34 0 = -1 := by
      rcases mLex_v A (mRow H (cntB X y c)) 34 0 with r | r | r
      · exact absurd r q2
      · exact r
      · rw [mLex_sw A, r] at q1
        exact absurd rfl q1
    by_cases q : k = cntB X y c
    · rw [q]; exact q3
    · exact mLex_tr _ _ _ _ _ q3 (hs.2 _ k (by omega) h2)
  generalize cntB X y c = j at hj hb ha hns
  have hrow : ∀ i, i ≤ c → ∀ k, k < 40 → mRow (cpR (shUI H j c 0) j A 40) i k = insF (mRow H) j c A i k := fun i hi k hk => row_put hj hk hi
  have lex : ∀ i i', i ≤ c → i' ≤ c → mLex (mRow (cpR (shUI H j c 0) j A 40) i) (mRow (cpR (shUI H j c 0) j A 40) i') 34 0 = mLex (insF (mRow H) j c A i) (insF (mRow H) j c A i') 34 0 := fun i i' hi hi' => by
    rw [mLex_eq ((mLex_0 _ (insF (mRow H) j c A i) 34 0).mpr (fun k _ hk => hrow i hi k (by omega)))]
    rw [mLex_sw, mLex_eq ((mLex_0 _ (insF (mRow H) j c A i') 34 0).mpr (fun k _ hk => hrow i' hi' k (by omega))), ← mLex_sw]
  refine ⟨fun i hi => ?_, fun i i' h1 h2 => ?_⟩
  · refine RelX.row (A := insF (mRow H) j c A i) ?_ (hrow i (by omega))
    rw [insF, insF]
    by_cases q : i = j
    · rw [if_pos q, if_pos q]; exact hy
    · rw [if_neg q, if_neg q]
      by_cases q2 : j < i ∧ i ≤ c
      · rw [if_pos q2, if_pos q2]; exact hs.1 _ (by omega)
      · rw [if_neg q2, if_neg q2]; exact hs.1 _ (by omega)
  · rw [lex i i' (by omega) (by omega), insF, insF]
    by_cases q : i = j
    · rw [if_pos q, if_neg (by omega), if_pos (by omega)]
      exact hns _ (by omega) (by omega)
    · rw [if_neg q]
      by_cases q2 : j < i ∧ i ≤ c
      · rw [if_pos q2, if_neg (by omega), if_pos (by omega)]
        exact hs.2 _ _ (by omega) (by omega)
      · rw [if_neg q2]
        by_cases q3 : i' = j
        · rw [if_pos q3]; exact hb i (by omega)
        · rw [if_neg q3]
          by_cases q4 : j < i' ∧ i' ≤ c
          · rw [if_pos q4]
            exact hs.2 _ _ (by omega) (by omega)
          · rw [if_neg q4]
            exact hs.2 _ _ (by omega) (by omega)
theorem sh_take {e w c j : Nat} {X : Nat → CNv} {H : Nat → Int32} (hs : ShR e w (c + 1) X H) (hj : j ≤ c) : ShR e w c (shD X j c) (shDI H j c 0) := by
  have hrow : ∀ i, i < c → ∀ k, k < 40 → mRow (shDI H j c 0) i k = mRow H (if j ≤ i then i + 1 else i) k := fun i hi k hk => by
    rw [mRow, shDI, mRow]
    by_cases q : j ≤ i
    · rw [if_pos (by omega), if_pos q]
      exact congrArg H (by omega)
    · rw [if_neg (by omega), if_neg q]
  have lex : ∀ i i', i < c → i' < c → mLex (mRow (shDI H j c 0) i) (mRow (shDI H j c 0) i') 34 0 = mLex (mRow H (if j ≤ i then i + 1 else i)) (mRow H (if j ≤ i' then i' + 1 else i')) 34 0 := fun i i' hi hi' => by
    rw [mLex_eq ((mLex_0 _ (mRow H (if j ≤ i then i + 1 else i)) 34 0).mpr (fun k _ hk => hrow i hi k (by omega)))]
    rw [mLex_sw, mLex_eq ((mLex_0 _ (mRow H (if j ≤ i' then i' + 1 else i')) 34 0).mpr (fun k _ hk => hrow i' hi' k (by omega))), ← mLex_sw]
  refine ⟨fun i hi => RelX.row (A := mRow H (if j ≤ i then i + 1 else i)) ?_ (hrow i hi), fun i i' h1 h2 => ?_⟩
  · rw [shD]
    by_cases q : j ≤ i
    · rw [if_pos ⟨q, hi⟩, if_pos q]; exact hs.1 _ (by omega)
    · rw [if_neg (by omega), if_neg q]; exact hs.1 _ (by omega)
  · rw [lex i i' (by omega) h2]
    apply hs.2
    · split <;> split <;> omega
    · split <;> omega
theorem has_nat {c : Nat} {p : Int32} (h : sHas c p = true) : ∃ j, j < c ∧ p.toInt = (j : Int) ∧ p.toNatClampNeg = j := by
  rw [sHas, decide_eq_true_eq] at h
  have e : p.toNatClampNeg = p.toInt.toNat := rfl
  exact ⟨p.toInt.toNat, by omega, by omega, e⟩
theorem sh_compare {e w c : Nat} (hw : w ≤ 9) {X : Nat → CNv} {H : Nat → Int32} (hs : ShR e w c X H) (a b : Int32) : sCompare c X a b = mCompare c a b := by
  rw [sCompare, mCompare]
  by_cases h : sHas c a = true ∧ sHas c b = true
  · rw [if_pos h, if_pos h]
    obtain ⟨i, h1, h2, h3⟩ := has_nat h.1
    obtain ⟨j, h4, h5, h6⟩ := has_nat h.2
    have k1 : a < b ↔ i < j := by rw [Int32.lt_iff_toInt_lt, h2, h5]; omega
    have k2 : b < a ↔ j < i := by rw [Int32.lt_iff_toInt_lt, h2, h5]; omega
    rw [h3, h6, (hs.1 i h1).ord hw (hs.1 j h4)]
    simp only [k1, k2]
    rcases (show i < j ∨ i = j ∨ j < i by omega) with q | q | q
    · rw [if_pos q, hs.2 i j q h4]
    · rw [if_neg (by omega), if_neg (by omega), q]
      exact (mLex_0 _ _ _ _).mpr (fun _ _ _ => rfl)
    · rw [if_neg (by omega), if_pos q, mLex_sw, hs.2 j i q h1]
      rfl
  · rw [if_neg h, if_neg h]
theorem ans_lex (A B : Nat → Int32) : ∀ t k, mAns A B t k = if 0 < mLex B A t k then 0 else 1
  | 0, _ => rfl
  | t + 1, k => by
    rw [mAns, mLex]
    by_cases h : A k = B k
    · rw [if_pos h, if_pos h.symm, ans_lex A B t (k + 1)]
    · rw [if_neg h, if_neg (show ¬ B k = A k from fun q => h q.symm)]
      by_cases h2 : B k < A k
      · rw [if_pos h2, if_pos h2, if_neg (by decide)]
      · rw [if_neg h2, if_neg h2, if_pos (by decide)]
theorem first_cases (R : Nat → Int32) (rec : Int32) : ∀ n k, (sFirst R rec n k = -1 ∧ ∀ i, k ≤ i → i < k + n → ¬ R i = rec) ∨ ∃ j, k ≤ j ∧ j < k + n ∧ sFirst R rec n k = nI j ∧ R j = rec ∧ ∀ i, k ≤ i → i < j → ¬ R i = rec
  | 0, k => Or.inl ⟨rfl, fun i h1 h2 => absurd h1 (by omega)⟩
  | n + 1, k => by
    rw [sFirst]
    by_cases h : R k = rec
    · rw [if_pos h]
      exact Or.inr ⟨k, by omega, by omega, rfl, h, fun i h1 h2 => absurd h1 (by omega)⟩
    · rw [if_neg h]
      rcases first_cases R rec n (k + 1) with ⟨h1, h2⟩ | ⟨j, h1, h2, h3, h4, h5⟩
      · refine Or.inl ⟨h1, fun i h3 h4 => ?_⟩
        by_cases e : i = k
        · rw [e]; exact h
        · exact h2 i (by omega) (by omega)
      · refine Or.inr ⟨j, by omega, by omega, h3, h4, fun i h6 h7 => ?_⟩
        by_cases e : i = k
        · rw [e]; exact h
        · exact h5 i (by omega) h7
