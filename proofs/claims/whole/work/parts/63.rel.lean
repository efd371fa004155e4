/-! ===== a call number and its row ===== -/
def dcN (v : Nat) : Nat := if 999 < v then 4 else if 99 < v then 3 else if 9 < v then 2 else 1
def ln3 (a : Nat → Nat) : List Nat := if 0 < a 26 then [rn a 8 26] else []
def ln2 (a : Nat → Nat) : List Nat := (if 0 < a 24 then [2 + dcN (a 24) + (if 0 < a 25 then 1 else 0)] else []) ++ ln3 a
def ln1 (a : Nat → Nat) : List Nat := (if 0 < a 23 then [4] else []) ++ ln2 a
def ln0 (a : Nat → Nat) : List Nat := (a 37 - rn a 3 0) :: (1 + rn a 6 17) :: ln1 a
def lnL (e : Nat) (a : Nat → Nat) : List Nat := if e = 0 then rn a 3 0 :: ln0 a else ln0 a
def Rel (e w : Nat) (x : CNv) (fl : Nat → Int32) (a : Nat → Nat) : Prop := RelO e w x a ∧ x.cc = nI (rn a 3 0) ∧ x.cutn = nI (rn a 6 17) ∧ x.markn = nI (rn a 8 26) ∧ x.lc = nI (lnL e a).length ∧ (∀ i, i < (lnL e a).length → fl i = nI ((lnL e a).getD i 0)) ∧ a 34 + (1 - e) = (lnL e a).length ∧ (0 < rn a 3 0 ↔ e = 0) ∧ (∀ i, i < 40 → a i < 2 ^ 31) ∧ a 37 < 1000 ∧ rn a 3 0 ≤ a 37 ∧ 0 < rn a 6 17
theorem ln3_l (a : Nat → Nat) : (ln3 a).length ≤ 1 := by rw [ln3]; split <;> simp
theorem ln2_l (a : Nat → Nat) : (ln2 a).length ≤ 2 := by
  have := ln3_l a
  rw [ln2, List.length_append]
  split <;> simp <;> omega
theorem ln1_l (a : Nat → Nat) : (ln1 a).length ≤ 3 := by
  have := ln2_l a
  rw [ln1, List.length_append]
  split <;> simp <;> omega
theorem lnL_l (e : Nat) (a : Nat → Nat) : (lnL e a).length ≤ 6 := by
  have := ln1_l a
  rw [lnL]
  split <;> simp [ln0] <;> omega
theorem rel_count {e w : Nat} {x : CNv} {fl : Nat → Int32} {a : Nat → Nat} (h : Rel e w x fl a) : sPartCount x = nI (a 34) := by
  obtain ⟨-, h1, -, -, h2, -, h3, h4, -⟩ := h
  have hl := rn_le a 3 0
  have hL := lnL_l e a
  rw [sPartCount, h1, h2]
  by_cases q : 0 < rn a 3 0
  · have he := h4.mp q
    rw [if_pos (show 0 < nI (rn a 3 0) from (nI_ltI (a := 0) (by omega) (by omega)).mpr q), ← h3, he]
    exact nI_pred _
  · have he : ¬ e = 0 := fun z => q (h4.mpr z)
    rw [if_neg (show ¬ 0 < nI (rn a 3 0) from fun z => q ((nI_ltI (a := 0) (by omega) (by omega)).mp z)), ← h3]
    exact congrArg nI (by omega)
def sp (L : List Nat) (j : Nat) : Int32 := if j < L.length then nI (L.getD j 0) else -1
theorem sp_cons (x : Nat) (L : List Nat) (j : Nat) : sp (x :: L) j = if j = 0 then nI x else sp L (j - 1) := by
  cases j with
  | zero => simp [sp]
  | succ j => simp [sp]
theorem sp_nil (j : Nat) : sp [] j = -1 := by simp [sp]
theorem nI0 {j : Nat} (h : j < 2 ^ 31) : nI j = 0 ↔ j = 0 := nI_eq (b := 0) h (by decide)
theorem nI_m {j k : Nat} (h : k ≤ j) (hk : k < 2 ^ 31) : nI j + (-(nI k)) = nI (j - k) := by
  rw [← pk_sub h, Int32.sub_eq_add_neg]
theorem sp_3 {A : Nat → Int32} {a : Nat → Nat} (hA : RowN A a) (hb : ∀ i, i < 40 → a i < 2 ^ 31) {j : Nat} (hj : j < 2 ^ 31) : s137 A (nI j) = sp (ln3 a) j := by
  have e : 0 < A 26 ↔ 0 < a 26 := by rw [hA 26 (by omega)]; exact nI_ltI (a := 0) (by omega) (hb 26 (by omega))
  rw [s137, ln3, runP_rn hA hb 8 26 (by omega)]
  by_cases h1 : 0 < a 26
  · rw [if_pos h1, sp_cons, sp_nil]
    by_cases h2 : j = 0
    · rw [if_pos ⟨e.mpr h1, (nI0 hj).mpr h2⟩, if_pos h2]
    · rw [if_neg (fun q => h2 ((nI0 hj).mp q.2)), if_neg h2]
  · rw [if_neg h1, if_neg (fun q => h1 (e.mp q.1)), sp_nil]
theorem sp_2 {A : Nat → Int32} {a : Nat → Nat} (hA : RowN A a) (hb : ∀ i, i < 40 → a i < 2 ^ 31) {j : Nat} (hj : j < 2 ^ 31) : s91 A (nI j) = sp (ln2 a) j := by
  have e : 0 < A 24 ↔ 0 < a 24 := by rw [hA 24 (by omega)]; exact nI_ltI (a := 0) (by omega) (hb 24 (by omega))
  have e5 : 0 < A 25 ↔ 0 < a 25 := by rw [hA 25 (by omega)]; exact nI_ltI (a := 0) (by omega) (hb 25 (by omega))
  rw [s91, ln2]
  by_cases h1 : 0 < a 24
  · rw [if_pos h1, if_pos (e.mpr h1), List.singleton_append, sp_cons]
    by_cases h2 : j = 0
    · rw [if_pos ((nI0 hj).mpr h2), if_pos h2]
      have d : mDec (A 24) = nI (dcN (a 24)) := by
        rw [hA 24 (by omega), mDec, dcN]
        have q := hb 24 (by omega)
        have k1 : (999 : Int32) < nI (a 24) ↔ 999 < a 24 := nI_ltI (a := 999) (by omega) q
        have k2 : (99 : Int32) < nI (a 24) ↔ 99 < a 24 := nI_ltI (a := 99) (by omega) q
        have k3 : (9 : Int32) < nI (a 24) ↔ 9 < a 24 := nI_ltI (a := 9) (by omega) q
        simp only [k1, k2, k3]
        split
        · rfl
        · split
          · rfl
          · split <;> rfl
      have t : (if 0 < A 25 then (1 : Int32) else 0) = nI (if 0 < a 25 then 1 else 0) := by
        simp only [e5]
        split <;> rfl
      rw [d, t, show (2 : Int32) = nI 2 from rfl, nI_add, nI_add]
    · rw [if_neg (fun q => h2 ((nI0 hj).mp q)), if_neg h2, ← sp_3 hA hb (by omega)]
      exact congrArg (s137 A) (nI_m (k := 1) (by omega) (by omega))
  · rw [if_neg h1, if_neg (fun q => h1 (e.mp q)), List.nil_append, sp_3 hA hb hj]
theorem sp_1 {A : Nat → Int32} {a : Nat → Nat} (hA : RowN A a) (hb : ∀ i, i < 40 → a i < 2 ^ 31) {j : Nat} (hj : j < 2 ^ 31) : s72 A (nI j) = sp (ln1 a) j := by
  have e : 0 < A 23 ↔ 0 < a 23 := by rw [hA 23 (by omega)]; exact nI_ltI (a := 0) (by omega) (hb 23 (by omega))
  rw [s72, ln1]
  by_cases h1 : 0 < a 23
  · rw [if_pos h1, if_pos (e.mpr h1), List.singleton_append, sp_cons]
    by_cases h2 : j = 0
    · rw [if_pos ((nI0 hj).mpr h2), if_pos h2]; rfl
    · rw [if_neg (fun q => h2 ((nI0 hj).mp q)), if_neg h2, ← sp_2 hA hb (by omega)]
      exact congrArg (s91 A) (nI_m (k := 1) (by omega) (by omega))
  · rw [if_neg h1, if_neg (fun q => h1 (e.mp q)), List.nil_append, sp_2 hA hb hj]
theorem sp_0 {A : Nat → Int32} {a : Nat → Nat} (hA : RowN A a) (hb : ∀ i, i < 40 → a i < 2 ^ 31) (h37 : rn a 3 0 ≤ a 37) {j : Nat} (hj : j < 2 ^ 31) : s40 A (nI j) = sp (ln0 a) j := by
  rw [s40, ln0, sp_cons, sp_cons, runP_rn hA hb 3 0 (by omega), runP_rn hA hb 6 17 (by omega), hA 37 (by omega)]
  by_cases h2 : j = 0
  · rw [if_pos ((nI0 hj).mpr h2), if_pos h2, pk_sub h37]
  · rw [if_neg (fun q => h2 ((nI0 hj).mp q)), if_neg h2]
    by_cases h3 : j = 1
    · rw [if_pos (show nI j = 1 by rw [h3]; rfl), if_pos (by omega), show (1 : Int32) = nI 1 from rfl, nI_add]
    · rw [if_neg (show ¬ nI j = 1 from fun q => h3 ((nI_eq (b := 1) hj (by decide)).mp q)), if_neg (by omega), ← sp_1 hA hb (by omega)]
      exact congrArg (s72 A) (nI_m (k := 2) (by omega) (by omega))
theorem line_sp {e w : Nat} {x : CNv} {fl : Nat → Int32} {a : Nat → Nat} (h : Rel e w x fl a) {j : Nat} (hj : j < 2 ^ 31) : sLineAt x.lc fl (nI j) = sp (lnL e a) j := by
  obtain ⟨-, -, -, -, h2, h3, -⟩ := h
  have hL := lnL_l e a
  rw [sLineAt, sp, h2]
  have k1 : (0 : Int32) ≤ nI j ↔ 0 ≤ j := nI_leI (a := 0) (by omega) hj
  have k2 : nI j < nI (lnL e a).length ↔ j < (lnL e a).length := nI_ltI hj (by omega)
  have k3 : nI j < (6 : Int32) ↔ j < 6 := nI_ltI (b := 6) hj (by omega)
  simp only [k1, k2, k3]
  by_cases q : j < (lnL e a).length
  · rw [if_pos ⟨by omega, q, by omega⟩, if_pos q, nI_clamp hj, h3 j q]
  · rw [if_neg (fun z => q z.2.1), if_neg q]
theorem rel_spine {e w : Nat} {x : CNv} {fl : Nat → Int32} {a : Nat → Nat} {A : Nat → Int32} (he : e ≤ 1) (h : Rel e w x fl a) (hA : RowN A a) (i : Int32) : sLineAt x.lc fl i = if e = 0 then mSpine1 A i else mSpine0 A i := by
  have hb := h.2.2.2.2.2.2.2.2.1
  have h37 := h.2.2.2.2.2.2.2.2.2.2.1
  by_cases hi : i < 0
  · have : sLineAt x.lc fl i = -1 := by rw [sLineAt, if_neg (fun q => absurd q.1 (i32_nle.mpr hi))]
    rw [this, mSpine1, mSpine0, if_pos hi, if_pos hi]
    split <;> rfl
  · obtain ⟨j, hj, rfl⟩ := nI_of hi
    rw [line_sp h hj, lnL, mSpine1, mSpine0, if_neg hi, if_neg hi]
    by_cases he0 : e = 0
    · rw [if_pos he0, if_pos he0, sp_cons, runP_rn hA hb 3 0 (by omega)]
      by_cases h2 : j = 0
      · rw [if_pos h2, if_pos ((nI0 hj).mpr h2)]
      · rw [if_neg h2, if_neg (fun q => h2 ((nI0 hj).mp q)), ← sp_0 hA hb h37 (by omega)]
        exact (congrArg (s40 A) (nI_m (k := 1) (by omega) (by omega))).symm
    · rw [if_neg he0, if_neg he0, sp_0 hA hb h37 hj]
theorem rel_letter {e w : Nat} {x : CNv} {fl : Nat → Int32} {a : Nat → Nat} {A : Nat → Int32} (h : Rel e w x fl a) (hA : RowN A a) (i : Int32) : sCapitalAt x i = mLetter A i := by
  obtain ⟨⟨h1, -, h3, -, -, -, -, -, ⟨hok, -⟩⟩, h4, -, -, -, -, -, -, hb, -⟩ := h
  have hl := rn_le a 3 0
  rw [sCapitalAt, mLetter, h1, h3, h4, runP_rn hA hb 3 0 (by omega), hA 16 (by omega)]
  by_cases hi : i < 0
  · rw [if_pos hi, if_pos hi]
  · rw [if_neg hi, if_neg hi]
    by_cases h2 : nI (rn a 3 0) < i
    · rw [if_pos h2, if_pos h2]
    · rw [if_neg h2, if_neg h2]
      by_cases h5 : i = nI (rn a 3 0)
      · rw [if_pos h5, if_pos h5]
      · rw [if_neg h5, if_neg h5]
        obtain ⟨j, hj, rfl⟩ := nI_of hi
        have hj3 : j < rn a 3 0 := by
          have q1 := (nI_leI hj (by omega)).mp (i32_nlt.mp h2)
          have q2 : ¬ j = rn a 3 0 := fun q => h5 (by rw [q])
          omega
        have b0 := hok 0 (by omega) (by omega)
        have b1 := hok 1 (by omega) (by omega)
        have b2 := hok 2 (by omega) (by omega)
        have ev : v8 a 3 0 = a 0 * 65536 + a 1 * 256 + a 2 := by simp [v8]; omega
        have hv : v8 a 3 0 < 2 ^ 31 := by rw [ev]; omega
        rw [nI_clamp hj, hA j (by omega)]
        rcases (show j = 0 ∨ j = 1 ∨ j = 2 by omega) with rfl | rfl | rfl
        · rw [pk_shrN hv ((8 * (2 - nI 0)) &&& 31) 16 (by decide), pk_andN (by omega) 8 (by decide), ev]
          exact congrArg nI (by omega)
        · rw [pk_shrN hv ((8 * (2 - nI 1)) &&& 31) 8 (by decide), pk_andN (by omega) 8 (by decide), ev]
          exact congrArg nI (by omega)
        · rw [pk_shrN hv ((8 * (2 - nI 2)) &&& 31) 0 (by decide), pk_andN (by omega) 8 (by decide), ev]
          exact congrArg nI (by omega)
theorem can_b {a : Nat → Nat} : ∀ n k, Can a n k → ∀ i, k ≤ i → i < k + n → a i ≤ 10
  | 0, _, _, _, h1, h2 => absurd h2 (by omega)
  | n + 1, k, h, i, h1, h2 => by
    by_cases q : i = k
    · rw [q]; exact h.1
    · exact can_b n (k + 1) h.2.2.2 i (by omega) (by omega)
theorem rel_part0 {x : CNv} {fl : Nat → Int32} {a : Nat → Nat} {A : Nat → Int32} (h : Rel 1 9 x fl a) (hA : RowN A a) {j : Nat} (hj : j ≤ 4) : sPart x j = mPart0 A j := by
  obtain ⟨⟨-, h2, -, h4, h5, h6, -, -, -, hr3, hc9, -, -, hc6, -⟩, -, -, h9, -, -, -, -, hb, -⟩ := h
  have l9 := vL_lt 6 17 hc6
  rcases (show j = 0 ∨ j = 1 ∨ j = 2 ∨ j = 3 ∨ j = 4 by omega) with rfl | rfl | rfl | rfl | rfl
  · simp only [sPart, mPart0, if_true]
    rw [h2, mVal_vL 9 (fun j hj => ⟨hA _ (by omega), can_b 9 4 hc9 _ (by omega) (by omega)⟩), hA 3 (by omega), show (1 : Int32) = nI 1 from rfl, pk_sub hr3.1, nI_l (by omega), show (1000000000 : Int64) = lN (10 ^ 9) from rfl, lN_mul, lN_add]
  · simp only [sPart, mPart0, show ¬ (1 : Nat) = 0 by decide, if_false, if_true]
    rw [h4, mVal_vL 6 (fun j hj => ⟨hA _ (by omega), can_b 6 17 hc6 _ (by omega) (by omega)⟩), nI_l (by omega)]
  · simp only [sPart, mPart0, show ¬ (2 : Nat) = 0 by decide, show ¬ (2 : Nat) = 1 by decide, if_false, if_true]
    rw [h5, hA 23 (by omega)]
  · simp only [sPart, mPart0, show ¬ (3 : Nat) = 0 by decide, show ¬ (3 : Nat) = 1 by decide, show ¬ (3 : Nat) = 2 by decide, if_false, if_true]
    rw [h6, hA 24 (by omega)]
  · simp only [sPart, mPart0, show ¬ (4 : Nat) = 0 by decide, show ¬ (4 : Nat) = 1 by decide, show ¬ (4 : Nat) = 2 by decide, show ¬ (4 : Nat) = 3 by decide, if_false]
    rw [h9, runP_rn hA hb 8 26 (by omega)]
theorem rel_part1 {x : CNv} {fl : Nat → Int32} {a : Nat → Nat} {A : Nat → Int32} (h : Rel 0 4 x fl a) (hA : RowN A a) {j : Nat} (hj : j ≤ 4) : sPart x j = mPart1 A j := by
  obtain ⟨⟨-, h2, -, h4, h5, h6, -, -, -, hr3, hc9, -, -, hc6, -⟩, -, -, h9, -, -, -, -, hb, -⟩ := h
  have l9 := vL_lt 6 17 hc6
  rcases (show j = 0 ∨ j = 1 ∨ j = 2 ∨ j = 3 ∨ j = 4 by omega) with rfl | rfl | rfl | rfl | rfl
  · simp only [sPart, mPart1, if_true]
    rw [h2, mVal_vL 4 (fun j hj => ⟨hA _ (by omega), can_b 4 4 hc9 _ (by omega) (by omega)⟩), hA 3 (by omega), nI_l (by omega), show (10000 : Int64) = lN (10 ^ 4) from rfl, lN_mul, lN_add]
    rfl
  · simp only [sPart, mPart1, show ¬ (1 : Nat) = 0 by decide, if_false, if_true]
    rw [h4, mVal_vL 6 (fun j hj => ⟨hA _ (by omega), can_b 6 17 hc6 _ (by omega) (by omega)⟩), nI_l (by omega)]
  · simp only [sPart, mPart1, show ¬ (2 : Nat) = 0 by decide, show ¬ (2 : Nat) = 1 by decide, if_false, if_true]
    rw [h5, hA 23 (by omega)]
  · simp only [sPart, mPart1, show ¬ (3 : Nat) = 0 by decide, show ¬ (3 : Nat) = 1 by decide, show ¬ (3 : Nat) = 2 by decide, if_false, if_true]
    rw [h6, hA 24 (by omega)]
  · simp only [sPart, mPart1, show ¬ (4 : Nat) = 0 by decide, show ¬ (4 : Nat) = 1 by decide, show ¬ (4 : Nat) = 2 by decide, show ¬ (4 : Nat) = 3 by decide, if_false]
    rw [h9, runP_rn hA hb 8 26 (by omega)]
theorem rel_order {e w : Nat} (hw : w ≤ 9) {x y : CNv} {fl fl' : Nat → Int32} {a b : Nat → Nat} {A B : Nat → Int32} (hx : Rel e w x fl a) (hy : Rel e w y fl' b) (hA : RowN A a) (hB : RowN B b) : sOrder x y = mLex A B 34 0 := by
  rw [order_lex hw hx.1 hy.1, mLex_n (M := 40) hA hB hx.2.2.2.2.2.2.2.2.1 hy.2.2.2.2.2.2.2.2.1 34 0 (by omega)]
