/-! ===== reading: the class's outcome against the reference's ===== -/
theorem nI_of0 {x : Int32} (h : 0 ≤ x.toInt) : x = nI x.toInt.toNat := by
  have hx := Int32.toInt_lt x
  exact Int32.toInt_inj.mp (by rw [nI_toInt (by omega)]; omega)
theorem dig_nI {x : Int32} (h : isDig x = true) : ∃ d, d ≤ 9 ∧ x = nI (48 + d) := by
  simp only [isDig, Bool.and_eq_true, decide_eq_true_eq] at h
  have h1 := Int32.le_iff_toInt_le.mp h.1
  have h2 := Int32.le_iff_toInt_le.mp h.2
  rw [show (48 : Int32).toInt = 48 from rfl] at h1
  rw [show (57 : Int32).toInt = 57 from rfl] at h2
  refine ⟨x.toInt.toNat - 48, by omega, ?_⟩
  rw [show 48 + (x.toInt.toNat - 48) = x.toInt.toNat by omega]
  exact nI_of0 (by omega)
theorem cap_nI {x : Int32} (h : isCap x = true) : ∃ d, 65 ≤ d ∧ d ≤ 90 ∧ x = nI d := by
  simp only [isCap, Bool.and_eq_true, decide_eq_true_eq] at h
  have h1 := Int32.le_iff_toInt_le.mp h.1
  have h2 := Int32.le_iff_toInt_le.mp h.2
  rw [show (65 : Int32).toInt = 65 from rfl] at h1
  rw [show (90 : Int32).toInt = 90 from rfl] at h2
  exact ⟨x.toInt.toNat, by omega, by omega, nI_of0 (by omega)⟩
theorem sml_nI {x : Int32} (h : isSml x = true) : ∃ d, 97 ≤ d ∧ d ≤ 122 ∧ x = nI d := by
  simp only [isSml, Bool.and_eq_true, decide_eq_true_eq] at h
  have h1 := Int32.le_iff_toInt_le.mp h.1
  have h2 := Int32.le_iff_toInt_le.mp h.2
  rw [show (97 : Int32).toInt = 97 from rfl] at h1
  rw [show (122 : Int32).toInt = 122 from rfl] at h2
  exact ⟨x.toInt.toNat, by omega, by omega, nI_of0 (by omega)⟩
/-- a sign's number; a digit's -/
def cN (x : Int32) : Nat := x.toInt.toNat
def dD (x : Int32) : Nat := x.toInt.toNat - 48
theorem cN_nI {n : Nat} (h : n < 2 ^ 31) : cN (nI n) = n := by rw [cN, nI_toInt h]; omega
theorem dig_dD {x : Int32} (h : isDig x = true) : dD x ≤ 9 ∧ x = nI (48 + dD x) := by
  obtain ⟨d, h1, rfl⟩ := dig_nI h
  have e : dD (nI (48 + d)) = d := by rw [dD, nI_toInt (by omega)]; omega
  rw [e]
  exact ⟨h1, rfl⟩
theorem dig_dD0 {x : Int32} (h : isDig x = true) (h0 : ¬ x = 48) : 1 ≤ dD x := by
  obtain ⟨h1, h2⟩ := dig_dD h
  rcases Nat.eq_zero_or_pos (dD x) with q | q
  · rw [q] at h2
    exact absurd h2 h0
  · exact q
theorem sml_cN {x : Int32} (h : isSml x = true) : 97 ≤ cN x ∧ cN x ≤ 122 ∧ x = nI (cN x) := by
  obtain ⟨d, h1, h2, rfl⟩ := sml_nI h
  rw [cN_nI (by omega)]
  exact ⟨h1, h2, rfl⟩
theorem cap_cN {x : Int32} (h : isCap x = true) : 65 ≤ cN x ∧ cN x ≤ 90 ∧ x = nI (cN x) := by
  obtain ⟨d, h1, h2, rfl⟩ := cap_nI h
  rw [cN_nI (by omega)]
  exact ⟨h1, h2, rfl⟩
-- runs
theorem runD_in (S : Nat → Int32) : ∀ m p j, j < runD S m p → isDig (S (p + j)) = true
  | 0, _, _, h => absurd h (Nat.not_lt_zero _)
  | m + 1, p, j, h => by
    rw [runD] at h
    by_cases hd : isDig (S p) = true
    · rw [if_pos hd] at h
      cases j with
      | zero => exact hd
      | succ j =>
        rw [show p + (j + 1) = p + 1 + j by omega]
        exact runD_in S m (p + 1) j (by omega)
    · rw [if_neg hd] at h
      exact absurd h (Nat.not_lt_zero _)
theorem runD_end (S : Nat → Int32) : ∀ m p, runD S m p < m → isDig (S (p + runD S m p)) = false
  | 0, _, h => absurd h (Nat.not_lt_zero _)
  | m + 1, p, h => by
    rw [runD] at h ⊢
    by_cases hd : isDig (S p) = true
    · rw [if_pos hd] at h ⊢
      rw [show p + (runD S m (p + 1) + 1) = p + 1 + runD S m (p + 1) by omega]
      exact runD_end S m (p + 1) (by omega)
    · rw [if_neg hd]
      exact Bool.eq_false_iff.mpr hd
theorem runP_in (pr : Int32 → Bool) (S : Nat → Int32) : ∀ m p j, j < runP pr S m p → pr (S (p + j)) = true
  | 0, _, _, h => absurd h (Nat.not_lt_zero _)
  | m + 1, p, j, h => by
    rw [runP] at h
    by_cases hd : pr (S p) = true
    · rw [if_pos hd] at h
      cases j with
      | zero => exact hd
      | succ j =>
        rw [show p + (j + 1) = p + 1 + j by omega]
        exact runP_in pr S m (p + 1) j (by omega)
    · rw [if_neg hd] at h
      exact absurd h (Nat.not_lt_zero _)
theorem runP_end (pr : Int32 → Bool) (S : Nat → Int32) : ∀ m p, runP pr S m p < m → pr (S (p + runP pr S m p)) = false
  | 0, _, h => absurd h (Nat.not_lt_zero _)
  | m + 1, p, h => by
    rw [runP] at h ⊢
    by_cases hd : pr (S p) = true
    · rw [if_pos hd] at h ⊢
      rw [show p + (runP pr S m (p + 1) + 1) = p + 1 + runP pr S m (p + 1) by omega]
      exact runP_end pr S m (p + 1) (by omega)
    · rw [if_neg hd]
      exact Bool.eq_false_iff.mpr hd
/-- digits as a number -/
def dv (S : Nat → Int32) (p : Nat) : Nat → Nat
  | 0 => 0
  | n + 1 => 10 * dv S p n + dD (S (p + n))
theorem dv_lt {S : Nat → Int32} {p : Nat} : ∀ n, (∀ j, j < n → isDig (S (p + j)) = true) → dv S p n < 10 ^ n
  | 0, _ => Nat.one_pos
  | n + 1, h => by
    have h1 := dv_lt n (fun j hj => h j (by omega))
    have h2 := (dig_dD (h n (by omega))).1
    rw [dv, Nat.pow_succ]
    omega
theorem dv_ge {S : Nat → Int32} {p : Nat} (h0 : 1 ≤ dD (S p)) : ∀ n, 10 ^ n ≤ dv S p (n + 1)
  | 0 => by rw [dv, dv, Nat.add_zero, Nat.pow_zero]; omega
  | n + 1 => by
    have h1 := dv_ge h0 n
    rw [dv, Nat.pow_succ]
    omega
theorem sVal_dv {S : Nat → Int32} {p : Nat} : ∀ n, (∀ j, j < n → isDig (S (p + j)) = true) → sVal S p n = nI (dv S p n)
  | 0, _ => rfl
  | n + 1, h => by
    rw [sVal, sVal_dv n (fun j hj => h j (by omega)), dv]
    have e := (dig_dD (h n (by omega))).2
    rw [e, show (10 : Int32) = nI 10 from rfl, pk_mul, nI_add, show (48 : Int32) = nI 48 from rfl, pk_sub (by omega)]
    have e2 : dD (nI (48 + dD (S (p + n)))) = dD (S (p + n)) := by rw [← e]
    rw [e2]
    exact congrArg nI (by omega)
theorem sFill_dv {S : Nat → Int32} {a b : Nat} : ∀ n, (∀ j, j < n → isDig (S (a + j)) = true ∧ a + j < b) → sFill S a b n = lN (dv S a n)
  | 0, _ => rfl
  | n + 1, h => by
    obtain ⟨h1, h2⟩ := h n (by omega)
    rw [sFill, sFill_dv n (fun j hj => h j (by omega)), dv, if_pos h2]
    obtain ⟨h3, h4⟩ := dig_dD h1
    have e2 : S (a + n) - 48 = nI (dD (S (a + n))) := by
      conv => lhs; rw [h4]
      rw [show (48 : Int32) = nI 48 from rfl, pk_sub (by omega)]
      exact congrArg nI (by omega)
    rw [e2, nI_l (by omega), show (10 : Int64) = lN 10 from rfl, lN_mul, lN_add]
    exact congrArg lN (by omega)
theorem sFill_0 {S : Nat → Int32} {a b : Nat} (h : b ≤ a) : ∀ n, sFill S a b n = 0
  | 0 => rfl
  | n + 1 => by
    rw [sFill, sFill_0 h n, if_neg (by omega)]
    decide
-- a row's parts as numbers, by the right end
theorem vL_r (a : Nat → Nat) : ∀ n k, vL a (n + 1) k = vL a n k * 10 + (a (k + n) - 1)
  | 0, k => by simp [vL]
  | n + 1, k => by
    rw [vL, vL_r a n (k + 1), vL, Nat.pow_succ, show k + 1 + n = k + (n + 1) by omega, Nat.add_mul, Nat.mul_assoc]
    omega
theorem v8_r (a : Nat → Nat) : ∀ n k, v8 a (n + 1) k = v8 a n k * 256 + a (k + n)
  | 0, k => by simp [v8]
  | n + 1, k => by
    rw [v8, v8_r a n (k + 1), v8, Nat.pow_succ, show k + 1 + n = k + (n + 1) by omega, Nat.add_mul, Nat.mul_assoc]
    omega
theorem sFill_vL {S : Nat → Int32} {a : Nat → Nat} {p b fr : Nat} : ∀ n, (∀ j, j < n → if p + j < b then isDig (S (p + j)) = true ∧ a (fr + j) = dD (S (p + j)) + 1 else a (fr + j) = 0) → sFill S p b n = lN (vL a n fr)
  | 0, _ => rfl
  | n + 1, h => by
    have h1 := h n (by omega)
    rw [sFill, sFill_vL n (fun j hj => h j (by omega)), vL_r]
    by_cases hb : p + n < b
    · rw [if_pos hb] at h1 ⊢
      obtain ⟨h3, h4⟩ := dig_dD h1.1
      have e2 : S (p + n) - 48 = nI (dD (S (p + n))) := by
        conv => lhs; rw [h4]
        rw [show (48 : Int32) = nI 48 from rfl, pk_sub (by omega)]
        exact congrArg nI (by omega)
      rw [e2, nI_l (by omega), h1.2, show (10 : Int64) = lN 10 from rfl, lN_mul, lN_add]
      exact congrArg lN (by omega)
    · rw [if_neg hb] at h1 ⊢
      rw [h1, show (10 : Int64) = lN 10 from rfl, lN_mul, show Int32.toInt64 0 = lN 0 from rfl, lN_add]
theorem mVal_vL {A : Nat → Int32} {a : Nat → Nat} {fr : Nat} : ∀ n, (∀ j, j < n → A (fr + j) = nI (a (fr + j)) ∧ a (fr + j) ≤ 10) → mVal A fr n = lN (vL a n fr)
  | 0, _ => rfl
  | n + 1, h => by
    obtain ⟨h1, h2⟩ := h n (by omega)
    rw [mVal, mVal_vL n (fun j hj => h j (by omega)), vL_r, h1]
    have e : (if 0 < nI (a (fr + n)) then nI (a (fr + n)) - 1 else (0 : Int32)) = nI (a (fr + n) - 1) := by
      by_cases h0 : 0 < a (fr + n)
      · rw [if_pos (show 0 < nI (a (fr + n)) from (nI_ltI (a := 0) (by omega) (by omega)).mpr h0), show (1 : Int32) = nI 1 from rfl, pk_sub (by omega)]
      · rw [if_neg (show ¬ 0 < nI (a (fr + n)) from fun q => h0 ((nI_ltI (a := 0) (by omega) (by omega)).mp q))]
        exact congrArg nI (show 0 = a (fr + n) - 1 by omega)
    rw [e, nI_l (by omega), show (10 : Int64) = lN 10 from rfl, lN_mul, lN_add]
    exact congrArg lN (by omega)
theorem can_set {a : Nat → Nat} : ∀ n fr r, r ≤ n → (∀ j, j < r → 1 ≤ a (fr + j) ∧ a (fr + j) ≤ 10) → (∀ j, r ≤ j → j < n → a (fr + j) = 0) → (0 < r → 2 ≤ a (fr + r - 1)) → Can a n fr
  | 0, _, _, _, _, _, _ => trivial
  | n + 1, fr, 0, _, _, h2, _ => by
    have z : ∀ i, fr ≤ i → i < fr + (n + 1) → a i = 0 := fun i h3 h4 => by
      have := h2 (i - fr) (by omega) (by omega)
      rwa [show fr + (i - fr) = i by omega] at this
    refine ⟨by rw [z fr (by omega) (by omega)]; omega, fun _ => z, fun h => absurd h (by rw [z fr (by omega) (by omega)]; decide), ?_⟩
    exact can_set n (fr + 1) 0 (by omega) (fun j hj => absurd hj (Nat.not_lt_zero j)) (fun j h3 h4 => z _ (by omega) (by omega)) (fun h => absurd h (Nat.lt_irrefl 0))
  | n + 1, fr, r + 1, h0, h1, h2, h3 => by
    have c : Can a n (fr + 1) := can_set n (fr + 1) r (by omega) (fun j hj => by have := h1 (j + 1) (by omega); rwa [show fr + (j + 1) = fr + 1 + j by omega] at this) (fun j h4 h5 => by have := h2 (j + 1) (by omega) (by omega); rwa [show fr + (j + 1) = fr + 1 + j by omega] at this) (fun h => by have := h3 (by omega); rwa [show fr + (r + 1) - 1 = fr + 1 + r - 1 by omega] at this)
    have k0 := h1 0 (by omega)
    rw [Nat.add_zero] at k0
    refine ⟨k0.2, fun h => by omega, fun h => ?_, c⟩
    cases r with
    | zero =>
      have := h3 (by omega)
      rw [show fr + (0 + 1) - 1 = fr by omega] at this
      omega
    | succ r =>
      cases n with
      | zero => omega
      | succ n =>
        have k1 := h1 1 (by omega)
        exact vL_pos c (by omega)
