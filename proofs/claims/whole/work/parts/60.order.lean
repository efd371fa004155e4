/-! ===== the order of call numbers: fields against rows ===== -/
def cmpN (x y : Nat) : Int32 := if x = y then 0 else if x < y then -1 else 1
theorem lN_toI {n : Nat} (h : n < 2 ^ 63) : (lN n).toInt = (n : Int) := lg_ofNat_toInt h
theorem sSide_lN {x y : Nat} (hx : x < 2 ^ 63) (hy : y < 2 ^ 63) : sSide (lN x) (lN y) = cmpN x y := by
  have e : lN x = lN y ↔ x = y := by rw [← Int64.toInt_inj, lN_toI hx, lN_toI hy]; omega
  have l : lN x < lN y ↔ x < y := by rw [Int64.lt_iff_toInt_lt, lN_toI hx, lN_toI hy]; omega
  simp only [sSide, cmpN, e, l]
theorem sSide_nI {x y : Nat} (hx : x < 2 ^ 31) (hy : y < 2 ^ 31) : sSide (nI x).toInt64 (nI y).toInt64 = cmpN x y := by
  rw [nI_l hx, nI_l hy, sSide_lN (by omega) (by omega)]
def lexN (a b : Nat → Nat) : Nat → Nat → Int32
  | 0, _ => 0
  | t + 1, k => if a k = b k then lexN a b t (k + 1) else if a k < b k then -1 else 1
theorem mLex_n {A B : Nat → Int32} {a b : Nat → Nat} {M : Nat} (hA : ∀ i, i < M → A i = nI (a i)) (hB : ∀ i, i < M → B i = nI (b i)) (ha : ∀ i, i < M → a i < 2 ^ 31) (hb : ∀ i, i < M → b i < 2 ^ 31) : ∀ t k, k + t ≤ M → mLex A B t k = lexN a b t k
  | 0, _, _ => rfl
  | t + 1, k, h => by
    have e : A k = B k ↔ a k = b k := by rw [hA k (by omega), hB k (by omega), nI_eq (ha k (by omega)) (hb k (by omega))]
    have l : A k < B k ↔ a k < b k := by rw [hA k (by omega), hB k (by omega), nI_ltI (ha k (by omega)) (hb k (by omega))]
    simp only [mLex, lexN, e, l, mLex_n hA hB ha hb t (k + 1) (by omega)]
theorem lexN_app (a b : Nat → Nat) : ∀ m n k, lexN a b (m + n) k = sThen (lexN a b m k) (lexN a b n (k + m))
  | 0, n, k => by rw [Nat.zero_add, lexN, sThen, if_pos rfl, Nat.add_zero]
  | m + 1, n, k => by
    rw [show m + 1 + n = (m + n) + 1 by omega, lexN, lexN]
    by_cases h : a k = b k
    · rw [if_pos h, if_pos h, lexN_app a b m n (k + 1), show k + 1 + m = k + (m + 1) by omega]
    · rw [if_neg h, if_neg h]
      by_cases h2 : a k < b k
      · rw [if_pos h2]; rfl
      · rw [if_neg h2]; rfl
theorem lexN_1 (a b : Nat → Nat) (k : Nat) : lexN a b 1 k = cmpN (a k) (b k) := by
  rw [lexN, lexN, cmpN]
theorem lexN_0 {a b : Nat → Nat} : ∀ n k, (∀ i, k ≤ i → i < k + n → a i = b i) → lexN a b n k = 0
  | 0, _, _ => rfl
  | n + 1, k, h => by
    rw [lexN, if_pos (h k (by omega) (by omega))]
    exact lexN_0 n (k + 1) (fun i h1 h2 => h i (by omega) (by omega))
theorem cmp_step {P u v x y : Nat} (hx : x < P) (hy : y < P) : cmpN (u * P + x) (v * P + y) = if u = v then cmpN x y else if u < v then -1 else 1 := by
  by_cases h : u = v
  · subst h
    rw [if_pos rfl]
    have e : u * P + x = u * P + y ↔ x = y := by omega
    have l : u * P + x < u * P + y ↔ x < y := by omega
    simp only [cmpN, e, l]
  · rw [if_neg h]
    by_cases h2 : u < v
    · rw [if_pos h2]
      have : u * P + x < v * P + y := by
        have := Nat.mul_le_mul_right P (show u + 1 ≤ v from h2)
        rw [Nat.succ_mul] at this
        omega
      rw [cmpN, if_neg (by omega), if_pos this]
    · rw [if_neg h2]
      have : v * P + y < u * P + x := by
        have := Nat.mul_le_mul_right P (show v + 1 ≤ u by omega)
        rw [Nat.succ_mul] at this
        omega
      rw [cmpN, if_neg (by omega), if_neg (by omega)]
theorem cmp_then {P u v x y : Nat} (hx : x < P) (hy : y < P) : cmpN (u * P + x) (v * P + y) = sThen (cmpN u v) (cmpN x y) := by
  rw [cmp_step hx hy]
  by_cases h : u = v
  · have e : cmpN u v = 0 := by rw [cmpN, if_pos h]
    rw [if_pos h, e, sThen, if_pos rfl]
  · rw [if_neg h]
    by_cases h2 : u < v
    · have e : cmpN u v = -1 := by rw [cmpN, if_neg h, if_pos h2]
      rw [if_pos h2, e]; rfl
    · have e : cmpN u v = 1 := by rw [cmpN, if_neg h, if_neg h2]
      rw [if_neg h2, e]; rfl
/-- bytes as a number -/
def v8 (a : Nat → Nat) : Nat → Nat → Nat
  | 0, _ => 0
  | n + 1, k => a k * 256 ^ n + v8 a n (k + 1)
theorem v8_lt {a : Nat → Nat} : ∀ n k, (∀ i, k ≤ i → i < k + n → a i < 128) → v8 a n k < 256 ^ n
  | 0, _, _ => Nat.one_pos
  | n + 1, k, h => by
    have h1 := v8_lt n (k + 1) (fun i h1 h2 => h i (by omega) (by omega))
    have h2 := Nat.mul_le_mul_right (256 ^ n) (show a k ≤ 127 by have := h k (by omega) (by omega); omega)
    rw [v8, Nat.pow_succ]
    omega
theorem v8_lt' {a : Nat → Nat} {n k : Nat} (h : ∀ i, k ≤ i → i < k + (n + 1) → a i < 128) : v8 a (n + 1) k < 128 * 256 ^ n := by
  have h1 := v8_lt n (k + 1) (fun i h1 h2 => h i (by omega) (by omega))
  have h2 := Nat.mul_le_mul_right (256 ^ n) (show a k ≤ 127 by have := h k (by omega) (by omega); omega)
  rw [v8]
  omega
theorem lex_v8 {a b : Nat → Nat} : ∀ n k, (∀ i, k ≤ i → i < k + n → a i < 128) → (∀ i, k ≤ i → i < k + n → b i < 128) → lexN a b n k = cmpN (v8 a n k) (v8 b n k)
  | 0, _, _, _ => rfl
  | n + 1, k, ha, hb => by
    have ha' : ∀ i, k + 1 ≤ i → i < k + 1 + n → a i < 128 := fun i h1 h2 => ha i (by omega) (by omega)
    have hb' : ∀ i, k + 1 ≤ i → i < k + 1 + n → b i < 128 := fun i h1 h2 => hb i (by omega) (by omega)
    rw [lexN, v8, v8, cmp_step (v8_lt n (k + 1) ha') (v8_lt n (k + 1) hb'), lex_v8 n (k + 1) ha' hb']
/-- digits, one more each, as a number -/
def vL (a : Nat → Nat) : Nat → Nat → Nat
  | 0, _ => 0
  | n + 1, k => (a k - 1) * 10 ^ n + vL a n (k + 1)
/-- digits, none behind the last, the last of which is not 0 -/
def Can (a : Nat → Nat) : Nat → Nat → Prop
  | 0, _ => True
  | n + 1, k => a k ≤ 10 ∧ (a k = 0 → ∀ i, k ≤ i → i < k + (n + 1) → a i = 0) ∧ (a k = 1 → 0 < vL a n (k + 1)) ∧ Can a n (k + 1)
theorem vL_lt {a : Nat → Nat} : ∀ n k, Can a n k → vL a n k < 10 ^ n
  | 0, _, _ => Nat.one_pos
  | n + 1, k, h => by
    have h1 := vL_lt n (k + 1) h.2.2.2
    have h2 := Nat.mul_le_mul_right (10 ^ n) (show a k - 1 ≤ 9 by have := h.1; omega)
    rw [vL, Nat.pow_succ]
    omega
theorem vL_0 {a : Nat → Nat} : ∀ n k, (∀ i, k ≤ i → i < k + n → a i = 0) → vL a n k = 0
  | 0, _, _ => rfl
  | n + 1, k, h => by rw [vL, h k (by omega) (by omega), vL_0 n (k + 1) (fun i h1 h2 => h i (by omega) (by omega))]; omega
theorem vL_pos {a : Nat → Nat} {n k : Nat} (h : Can a (n + 1) k) (h0 : 0 < a k) : 0 < vL a (n + 1) k := by
  rw [vL]
  by_cases h1 : a k = 1
  · have := h.2.2.1 h1
    omega
  · have := Nat.mul_le_mul_right (10 ^ n) (show 1 ≤ a k - 1 by omega)
    have : 0 < 10 ^ n := Nat.pow_pos (by decide)
    omega
theorem lex_can {a b : Nat → Nat} : ∀ n k, Can a n k → Can b n k → lexN a b n k = cmpN (vL a n k) (vL b n k)
  | 0, _, _, _ => rfl
  | n + 1, k, ha, hb => by
    have la := vL_lt n (k + 1) ha.2.2.2
    have lb := vL_lt n (k + 1) hb.2.2.2
    rw [lexN]
    by_cases h : a k = b k
    · rw [if_pos h, vL, vL, cmp_step la lb, if_pos (by rw [h]), lex_can n (k + 1) ha.2.2.2 hb.2.2.2]
    · rw [if_neg h]
      by_cases a0 : a k = 0
      · have z := vL_0 (n + 1) k (ha.2.1 a0)
        have p := vL_pos hb (by omega)
        rw [if_pos (by omega), z, cmpN, if_neg (by omega), if_pos p]
      · by_cases b0 : b k = 0
        · have z := vL_0 (n + 1) k (hb.2.1 b0)
          have p := vL_pos ha (by omega)
          rw [if_neg (by omega), z, cmpN, if_neg (by omega), if_neg (by omega)]
        · have e : a k < b k ↔ a k - 1 < b k - 1 := by omega
          have e3 : ¬ a k - 1 = b k - 1 := by omega
          rw [vL, vL, cmp_step la lb, if_neg e3]
          simp only [e]
/-- the row of a call number: e = 1 in the first scheme, w digits behind the point -/
def RowOk (e w : Nat) (a : Nat → Nat) : Prop := (∀ i, 0 ≤ i → i < 0 + 3 → a i < 128) ∧ (e ≤ a 3 ∧ a 3 ≤ 10000) ∧ Can a w 4 ∧ (∀ i, 4 + w ≤ i → i < 16 → a i = 0) ∧ a 16 < 128 ∧ Can a 6 17 ∧ a 23 < 10000 ∧ a 24 < 10000 ∧ a 25 < 128 ∧ ∀ i, 26 ≤ i → i < 26 + 8 → a i < 128
def RelO (e w : Nat) (x : CNv) (a : Nat → Nat) : Prop := x.cl = nI (v8 a 3 0) ∧ x.cd = lN ((a 3 - e) * 10 ^ w + vL a w 4) ∧ x.cap = nI (a 16) ∧ x.cut = nI (vL a 6 17) ∧ x.year = nI (a 23) ∧ x.vol = nI (a 24) ∧ x.voll = nI (a 25) ∧ x.mark = lN (v8 a 8 26) ∧ RowOk e w a
theorem order_lex {e w : Nat} (hw : w ≤ 9) {x y : CNv} {a b : Nat → Nat} (hx : RelO e w x a) (hy : RelO e w y b) : sOrder x y = lexN a b 34 0 := by
  obtain ⟨x1, x2, x3, x4, x5, x6, x7, x8, a1, a2, a3, a4, a5, a6, a7, a8, a9, a10⟩ := hx
  obtain ⟨y1, y2, y3, y4, y5, y6, y7, y8, b1, b2, b3, b4, b5, b6, b7, b8, b9, b10⟩ := hy
  have p9 : 10 ^ w ≤ 10 ^ 9 := Nat.pow_le_pow_right (by decide) hw
  have la := vL_lt w 4 a3
  have lb := vL_lt w 4 b3
  have l6a := vL_lt 6 17 a6
  have l6b := vL_lt 6 17 b6
  have l3a := v8_lt 3 0 a1
  have l3b := v8_lt 3 0 b1
  have l8a := v8_lt' (n := 7) a10
  have l8b := v8_lt' (n := 7) b10
  have big : ∀ t u : Nat, t ≤ 10000 → u < 10 ^ w → t * 10 ^ w + u < 2 ^ 63 := fun t u h1 h2 => by
    have := Nat.mul_le_mul h1 p9
    omega
  have gcd : lexN a b 13 3 = cmpN ((a 3 - e) * 10 ^ w + vL a w 4) ((b 3 - e) * 10 ^ w + vL b w 4) := by
    rw [show 13 = (1 + w) + (12 - w) by omega, lexN_app, lexN_app, lexN_0 (a := a) (b := b) (12 - w) _ (fun i h1 h2 => by rw [a4 i (by omega) (by omega), b4 i (by omega) (by omega)]), lexN_1, lex_can w (3 + 1) a3 b3, cmp_then la lb]
    have e2 : cmpN (a 3) (b 3) = cmpN (a 3 - e) (b 3 - e) := by
      have q1 : a 3 = b 3 ↔ a 3 - e = b 3 - e := by omega
      have q2 : a 3 < b 3 ↔ a 3 - e < b 3 - e := by omega
      simp only [cmpN, q1, q2]
    rw [e2]
    generalize sThen (cmpN (a 3 - e) (b 3 - e)) (cmpN (vL a w (3 + 1)) (vL b w (3 + 1))) = z
    rw [sThen]
    by_cases hz : z = 0
    · rw [if_pos hz, hz]
    · rw [if_neg hz]
  rw [show (34 : Nat) = 3 + 13 + 1 + 6 + 1 + 1 + 1 + 8 from rfl, lexN_app, lexN_app, lexN_app, lexN_app, lexN_app, lexN_app, lexN_app]
  rw [lex_v8 3 0 a1 b1, gcd, lexN_1, lexN_1, lexN_1, lexN_1, lex_can 6 _ a6 b6, lex_v8 8 _ a10 b10]
  simp only [sOrder, oR1, oR2, oR3, oR4, oR5, oR6, oR7]
  rw [x1, x2, x3, x4, x5, x6, x7, x8, y1, y2, y3, y4, y5, y6, y7, y8]
  rw [sSide_nI (by omega) (by omega), sSide_lN (big _ _ (by omega) la) (big _ _ (by omega) lb), sSide_nI (by omega) (by omega), sSide_nI (by omega) (by omega), sSide_nI (by omega) (by omega), sSide_nI (by omega) (by omega), sSide_nI (by omega) (by omega), sSide_lN (by omega) (by omega)]
