/-! ===== letters as a number; rows of numbers ===== -/
theorem sh8 (x : Nat) : lN x <<< (Int32.toInt64 8 &&& 63) = lN (x * 256) := by
  rw [show (Int32.toInt64 8 &&& 63) = 8 by decide]
  apply Int64.toBitVec_inj.mp
  rw [Int64.toBitVec_shiftLeft]
  apply BitVec.eq_of_toNat_eq
  rw [BitVec.shiftLeft_eq', BitVec.toNat_shiftLeft]
  rw [show ((Int64.toBitVec 8).smod 64).toNat = 8 by decide]
  show (x % 2 ^ 64) <<< 8 % 2 ^ 64 = (x * 256) % 2 ^ 64
  rw [Nat.shiftLeft_eq]
  omega
theorem nor8 {x y : Nat} (hy : y < 256) : x * 256 ||| y = x * 256 + y := by
  have := Nat.shiftLeft_add_eq_or_of_lt (i := 8) (b := y) hy x
  rw [Nat.shiftLeft_eq] at this
  exact this.symm
theorem lN_tn {n : Nat} (h : n < 2 ^ 64) : (lN n).toBitVec.toNat = n := Nat.mod_eq_of_lt h
set_option maxRecDepth 100000 in
theorem or8 {x y : Nat} (hy : y < 256) (hx : x * 256 + y < 2 ^ 63) : lN (x * 256) ||| lN y = lN (x * 256 + y) := by
  apply Int64.toBitVec_inj.mp
  rw [Int64.toBitVec_or]
  apply BitVec.eq_of_toNat_eq
  rw [BitVec.toNat_or, lN_tn (by omega), lN_tn (by omega), lN_tn (by omega)]
  exact nor8 hy
theorem sh8i {x : Nat} (h : x * 256 < 2 ^ 32) : nI x <<< ((8 : Int32) &&& 31) = nI (x * 256) := pk_shlN ((8 : Int32) &&& 31) 8 (by decide) h
set_option maxRecDepth 100000 in
theorem or8i {x y : Nat} (hy : y < 256) (hx : x * 256 + y < 2 ^ 31) : nI (x * 256) ||| nI y = nI (x * 256 + y) := by
  apply Int32.toBitVec_inj.mp
  rw [Int32.toBitVec_or]
  apply BitVec.eq_of_toNat_eq
  rw [BitVec.toNat_or, pk_tn (by omega), pk_tn (by omega), pk_tn (by omega)]
  exact nor8 hy
set_option maxRecDepth 100000 in
theorem mkS_eq {S : Nat → Int32} {p r : Nat} {a : Nat → Nat} (hr : runP isSml S 8 p = r) (ha : ∀ j, j < 8 → a (26 + j) = if j < r then cN (S (p + j)) else 0) : ∀ j, j ≤ 8 → mkS S p j = (lN (v8 a j 26), p + min j r)
  | 0, _ => by rw [mkS, v8, Nat.zero_min]; rfl
  | j + 1, hj => by
    have ih := mkS_eq hr ha j (by omega)
    have hb : ∀ i, 26 ≤ i → i < 26 + (j + 1) → a i < 128 := fun i h1 h2 => by
      have := ha (i - 26) (by omega)
      rw [show 26 + (i - 26) = i by omega] at this
      rw [this]
      by_cases q : i - 26 < r
      · rw [if_pos q]
        have := sml_cN (runP_in isSml S 8 p (i - 26) (by omega))
        omega
      · rw [if_neg q]; omega
    have hlt := v8_lt' (n := j) hb
    have hp : 256 ^ j ≤ 256 ^ 7 := Nat.pow_le_pow_right (by decide) (by omega)
    have haj := ha j (by omega)
    rw [mkS, ih]
    rw [v8_r] at hlt ⊢
    by_cases hjr : j < r
    · rw [if_pos hjr] at haj
      have hs := runP_in isSml S 8 p j (by omega)
      have hc := sml_cN hs
      rw [if_pos ⟨by show p + min j r = p + j; omega, by show isSml (S (p + min j r)) = true; rw [show min j r = j by omega]; exact hs⟩]
      show ((lN (v8 a j 26) <<< (Int32.toInt64 8 &&& 63)) ||| (S (p + min j r)).toInt64, p + min j r + 1) = _
      rw [show min j r = j by omega, show min (j + 1) r = j + 1 by omega, sh8, haj]
      have e : (S (p + j)).toInt64 = lN (cN (S (p + j))) := by
        conv => lhs; rw [hc.2.2]
        exact nI_l (by omega)
      rw [e, or8 (by omega) (by rw [haj] at hlt; omega)]
      rfl
    · rw [if_neg hjr] at haj
      have hn : ¬ (p + min j r = p + j ∧ isSml (S (p + min j r)) = true) := fun q => by
        have hjr2 : j = r := by have := q.1; omega
        have := runP_end isSml S 8 p (by omega)
        rw [hr] at this
        have q2 := q.2
        rw [show min j r = r by omega, this] at q2
        cases q2
      rw [if_neg hn]
      show (lN (v8 a j 26) <<< (Int32.toInt64 8 &&& 63), p + min j r) = _
      rw [sh8, haj, show min j r = r by omega, show min (j + 1) r = r by omega]
      rfl
set_option maxRecDepth 100000 in
theorem ltS_eq {S : Nat → Int32} {p r : Nat} {a : Nat → Nat} (hr : runP isCap S 3 p = r) (ha : ∀ j, j < 3 → a (0 + j) = if j < r then cN (S (p + j)) else 0) : ∀ j, j ≤ 3 → ltS S p j = (nI (v8 a j 0), p + min j r)
  | 0, _ => by rw [ltS, v8, Nat.zero_min]; rfl
  | j + 1, hj => by
    have ih := ltS_eq hr ha j (by omega)
    have hb : ∀ i, 0 ≤ i → i < 0 + (j + 1) → a i < 128 := fun i h1 h2 => by
      have := ha i (by omega)
      rw [Nat.zero_add] at this
      rw [this]
      by_cases q : i < r
      · rw [if_pos q]
        have := cap_cN (runP_in isCap S 3 p i (by omega))
        omega
      · rw [if_neg q]; omega
    have hlt := v8_lt' (n := j) hb
    have hp : 256 ^ j ≤ 256 ^ 2 := Nat.pow_le_pow_right (by decide) (by omega)
    have haj := ha j (by omega)
    rw [ltS, ih]
    rw [v8_r] at hlt ⊢
    by_cases hjr : j < r
    · rw [if_pos hjr] at haj
      have hs := runP_in isCap S 3 p j (by omega)
      have hc := cap_cN hs
      rw [if_pos ⟨by show p + min j r = p + j; omega, by show isCap (S (p + min j r)) = true; rw [show min j r = j by omega]; exact hs⟩]
      show ((nI (v8 a j 0) <<< ((8 : Int32) &&& 31)) ||| S (p + min j r), p + min j r + 1) = _
      rw [show min j r = j by omega, show min (j + 1) r = j + 1 by omega, sh8i (by omega), haj]
      have e : S (p + j) = nI (cN (S (p + j))) := hc.2.2
      rw [haj] at hlt
      have e2 : nI (v8 a j 0 * 256) ||| S (p + j) = nI (v8 a j 0 * 256 + cN (S (p + j))) := by
        conv => lhs; rw [e]
        exact or8i (by omega) (by omega)
      rw [e2]
      rfl
    · rw [if_neg hjr] at haj
      have hn : ¬ (p + min j r = p + j ∧ isCap (S (p + min j r)) = true) := fun q => by
        have hjr2 : j = r := by have := q.1; omega
        have := runP_end isCap S 3 p (by omega)
        rw [hr] at this
        have q2 := q.2
        rw [show min j r = r by omega, this] at q2
        cases q2
      rw [if_neg hn]
      show (nI (v8 a j 0) <<< ((8 : Int32) &&& 31), p + min j r) = _
      rw [sh8i (by omega), haj, show min j r = r by omega, show min (j + 1) r = r by omega]
      rfl
-- rows of numbers
def RowN (A : Nat → Int32) (a : Nat → Nat) : Prop := ∀ i, i < 40 → A i = nI (a i)
def uN (a : Nat → Nat) (i v : Nat) : Nat → Nat := fun j => if j = i then v else a j
theorem uN_s (a : Nat → Nat) (i v : Nat) : uN a i v i = v := if_pos rfl
theorem uN_n {a : Nat → Nat} {i v j : Nat} (h : j ≠ i) : uN a i v j = a j := if_neg h
/-- the n signs from p on stand in a row from fr on -/
def sN (a : Nat → Nat) (fr : Nat) (f : Nat → Nat) (n : Nat) : Nat → Nat := fun i => if fr ≤ i ∧ i < fr + n then f (i - fr) else a i
theorem sN_in {a : Nat → Nat} {fr : Nat} {f : Nat → Nat} {n i : Nat} (h1 : fr ≤ i) (h2 : i < fr + n) : sN a fr f n i = f (i - fr) := if_pos ⟨h1, h2⟩
theorem sN_out {a : Nat → Nat} {fr : Nat} {f : Nat → Nat} {n i : Nat} (h : i < fr ∨ fr + n ≤ i) : sN a fr f n i = a i := if_neg (by omega)
theorem RowN.upd {A : Nat → Int32} {a : Nat → Nat} (h : RowN A a) {i v : Nat} {x : Int32} (hx : x = nI v) : RowN (upd A i x) (uN a i v) := by
  intro j hj
  by_cases q : j = i
  · subst q; rw [pk_us, uN_s, hx]
  · rw [pk_un q, uN_n q, h j hj]
def rn (a : Nat → Nat) : Nat → Nat → Nat
  | 0, _ => 0
  | m + 1, p => if 0 < a p then rn a m (p + 1) + 1 else 0
theorem rn_le (a : Nat → Nat) : ∀ m p, rn a m p ≤ m
  | 0, _ => Nat.le_refl 0
  | m + 1, p => by
    have := rn_le a m (p + 1)
    rw [rn]
    split <;> omega
theorem runP_rn {A : Nat → Int32} {a : Nat → Nat} (h : RowN A a) (hb : ∀ i, i < 40 → a i < 2 ^ 31) : ∀ m p, p + m ≤ 40 → runP pos32 A m p = rn a m p
  | 0, _, _ => rfl
  | m + 1, p, hp => by
    have e : pos32 (A p) = true ↔ 0 < a p := by
      rw [h p (by omega), pos32, decide_eq_true_eq]
      exact nI_ltI (a := 0) (by omega) (hb p (by omega))
    rw [runP, rn, runP_rn h hb m (p + 1) (by omega)]
    simp only [e]
theorem rn_c {a b : Nat → Nat} : ∀ m p, (∀ i, p ≤ i → i < p + m → a i = b i) → rn a m p = rn b m p
  | 0, _, _ => rfl
  | m + 1, p, h => by rw [rn, rn, h p (by omega) (by omega), rn_c m (p + 1) (fun i h1 h2 => h i (by omega) (by omega))]
theorem vL_c {a b : Nat → Nat} : ∀ m p, (∀ i, p ≤ i → i < p + m → a i = b i) → vL a m p = vL b m p
  | 0, _, _ => rfl
  | m + 1, p, h => by rw [vL, vL, h p (by omega) (by omega), vL_c m (p + 1) (fun i h1 h2 => h i (by omega) (by omega))]
theorem v8_c {a b : Nat → Nat} : ∀ m p, (∀ i, p ≤ i → i < p + m → a i = b i) → v8 a m p = v8 b m p
  | 0, _, _ => rfl
  | m + 1, p, h => by rw [v8, v8, h p (by omega) (by omega), v8_c m (p + 1) (fun i h1 h2 => h i (by omega) (by omega))]
theorem can_c {a b : Nat → Nat} : ∀ m p, (∀ i, p ≤ i → i < p + m → a i = b i) → Can a m p → Can b m p
  | 0, _, _, _ => trivial
  | m + 1, p, h, c => by
    have e := h p (by omega) (by omega)
    have h' : ∀ i, p + 1 ≤ i → i < p + 1 + m → a i = b i := fun i h1 h2 => h i (by omega) (by omega)
    refine ⟨by rw [← e]; exact c.1, fun q i h1 h2 => by rw [← h i h1 h2]; exact c.2.1 (by rw [e]; exact q) i h1 h2, fun q => by rw [← vL_c m (p + 1) h']; exact c.2.2.1 (by rw [e]; exact q), can_c m (p + 1) h' c.2.2.2⟩
theorem rn_set {a : Nat → Nat} : ∀ m p r, r ≤ m → (∀ j, j < r → 0 < a (p + j)) → (r < m → a (p + r) = 0) → rn a m p = r
  | 0, _, r, h, _, _ => by rw [rn]; omega
  | m + 1, p, 0, _, _, h => by
    have := h (by omega)
    rw [Nat.add_zero] at this
    rw [rn, if_neg (by omega)]
  | m + 1, p, r + 1, h0, h1, h2 => by
    have := h1 0 (by omega)
    rw [Nat.add_zero] at this
    rw [rn, if_pos this, rn_set m (p + 1) r (by omega) (fun j hj => by rw [show p + 1 + j = p + (j + 1) by omega]; exact h1 _ (by omega)) (fun h => by rw [show p + 1 + r = p + (r + 1) by omega]; exact h2 (by omega))]
theorem rn_0 {a : Nat → Nat} {m p : Nat} (h : a p = 0) : rn a m p = 0 := by
  cases m with
  | zero => rfl
  | succ m => rw [rn, if_neg (by omega)]
