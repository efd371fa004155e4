/-! ===== the least free cutter ===== -/
/-- w in base 9 with m digits, each one more, as a number -/
def tlN : Nat → Nat → Nat
  | 0, _ => 0
  | m + 1, w => tlN m (w / 9) * 10 + (w % 9 + 1)
theorem tl_lt : ∀ m w, tlN m w < 10 ^ m
  | 0, _ => Nat.one_pos
  | m + 1, w => by
    have := tl_lt m (w / 9)
    rw [tlN, Nat.pow_succ]
    omega
theorem tl_ge1 : ∀ m w, 10 ^ m ≤ tlN (m + 1) w
  | 0, w => by rw [tlN]; omega
  | m + 1, w => by
    have := tl_ge1 m (w / 9)
    rw [tlN, Nat.pow_succ]
    omega
theorem tl_ge (m w : Nat) : 10 ^ m / 10 ≤ tlN m w := by
  cases m with
  | zero => exact Nat.zero_le _
  | succ m =>
    have := tl_ge1 m w
    rw [Nat.pow_succ]
    omega
theorem tl_mono : ∀ m w w', w < w' → w' < 9 ^ m → tlN m w < tlN m w'
  | 0, w, w', h1, h2 => by omega
  | m + 1, w, w', h1, h2 => by
    rw [tlN, tlN]
    rw [Nat.pow_succ] at h2
    by_cases q : w / 9 = w' / 9
    · rw [q]; omega
    · have := tl_mono m (w / 9) (w' / 9) (by omega) (by omega)
      omega
theorem tl_nz : ∀ m f w, nzf f (tlN m w) = true
  | 0, f, w => by
    cases f with
    | zero => rfl
    | succ f => rw [tlN, nzf, if_pos rfl]
  | m + 1, f, w => by
    cases f with
    | zero => rfl
    | succ f =>
      have ih := tl_nz m f (w / 9)
      rw [tlN, nzf, if_neg (by omega), if_neg (by omega), show (tlN m (w / 9) * 10 + (w % 9 + 1)) / 10 = tlN m (w / 9) by omega]
      exact ih
theorem tl_sur : ∀ m f t, m ≤ f → 10 ^ m / 10 ≤ t → t < 10 ^ m → nzf f t = true → ∃ w, w < 9 ^ m ∧ tlN m w = t
  | 0, f, t, _, _, h2, _ => ⟨0, Nat.one_pos, by rw [tlN]; omega⟩
  | m + 1, 0, t, h, _, _, _ => absurd h (by omega)
  | m + 1, f + 1, t, h, h1, h2, h3 => by
    rw [Nat.pow_succ] at h1 h2
    have p : 0 < 10 ^ m := Nat.pow_pos (by decide)
    rw [nzf, if_neg (by omega)] at h3
    by_cases q : t % 10 = 0
    · rw [if_pos q] at h3; cases h3
    · rw [if_neg q] at h3
      obtain ⟨w, w1, w2⟩ := tl_sur m f (t / 10) (by omega) (by omega) (by omega) h3
      refine ⟨9 * w + (t % 10 - 1), by rw [Nat.pow_succ]; omega, ?_⟩
      rw [tlN, show (9 * w + (t % 10 - 1)) / 9 = w by omega, show (9 * w + (t % 10 - 1)) % 9 = t % 10 - 1 by omega, w2]
      omega
theorem tail_none {T : Nat → Bool} {start fill : Nat} : ∀ t tl, (∀ j, tl ≤ j → j < tl + t → ¬ (nzf 6 j = true ∧ T ((start + j) * fill) = false)) → sTail T start fill t tl = 0
  | 0, _, _ => rfl
  | t + 1, tl, h => by
    rw [sTail, if_neg (h tl (by omega) (by omega))]
    exact tail_none t (tl + 1) (fun j h1 h2 => h j (by omega) (by omega))
theorem tail_some {T : Nat → Bool} {start fill j : Nat} (hg : nzf 6 j = true ∧ T ((start + j) * fill) = false) : ∀ t tl, tl ≤ j → j < tl + t → (∀ i, tl ≤ i → i < j → ¬ (nzf 6 i = true ∧ T ((start + i) * fill) = false)) → sTail T start fill t tl = nI (start + j)
  | 0, tl, h1, h2, _ => absurd h1 (by omega)
  | t + 1, tl, h1, h2, h3 => by
    rw [sTail]
    by_cases q : tl = j
    · rw [q, if_pos hg]
    · rw [if_neg (h3 tl (by omega) (by omega))]
      exact tail_some hg t (tl + 1) (by omega) (by omega) (fun i h4 h5 => h3 i (by omega) h5)
theorem ways_cases (T : Nat → Bool) : ∀ t w, (mWays T t w = none ∧ ∀ j, w ≤ j → j < w + t → T j = true) ∨ ∃ j, w ≤ j ∧ j < w + t ∧ mWays T t w = some j ∧ T j = false ∧ ∀ i, w ≤ i → i < j → T i = true
  | 0, w => Or.inl ⟨rfl, fun j h1 h2 => absurd h1 (by omega)⟩
  | t + 1, w => by
    rw [mWays]
    cases h : T w with
    | true =>
      rw [if_pos rfl]
      rcases ways_cases T t (w + 1) with ⟨h1, h2⟩ | ⟨j, h1, h2, h3, h4, h5⟩
      · refine Or.inl ⟨h1, fun j h3 h4 => ?_⟩
        by_cases e : j = w
        · rw [e]; exact h
        · exact h2 j (by omega) (by omega)
      · refine Or.inr ⟨j, by omega, by omega, h3, h4, fun i h6 h7 => ?_⟩
        by_cases e : i = w
        · rw [e]; exact h
        · exact h5 i (by omega) h7
    | false =>
      rw [if_neg (by decide)]
      exact Or.inr ⟨w, by omega, by omega, rfl, h, fun i h1 h2 => absurd h1 (by omega)⟩
theorem tail_ways {T T' : Nat → Bool} {start fill m : Nat} (hm : m ≤ 6) (hT : ∀ w, w < 9 ^ m → T' w = T ((start + tlN m w) * fill)) : (mWays T' (9 ^ m) 0 = none ∧ sTail T start fill (10 ^ m - 10 ^ m / 10) (10 ^ m / 10) = 0) ∨ ∃ w, w < 9 ^ m ∧ mWays T' (9 ^ m) 0 = some w ∧ sTail T start fill (10 ^ m - 10 ^ m / 10) (10 ^ m / 10) = nI (start + tlN m w) := by
  have p : 0 < 10 ^ m := Nat.pow_pos (by decide)
  rcases ways_cases T' (9 ^ m) 0 with ⟨h1, h2⟩ | ⟨w, -, h2, h3, h4, h5⟩
  · refine Or.inl ⟨h1, tail_none _ _ (fun j g1 g2 g3 => ?_)⟩
    obtain ⟨w, w1, w2⟩ := tl_sur m 6 j hm g1 (by omega) g3.1
    have := h2 w (by omega) (by omega)
    rw [hT w w1, w2, g3.2] at this
    cases this
  · refine Or.inr ⟨w, by omega, h3, ?_⟩
    refine tail_some ⟨tl_nz _ _ _, by rw [← hT w (by omega)]; exact h4⟩ _ _ (tl_ge m w) (by have := tl_lt m w; omega) (fun i g1 g2 g3 => ?_)
    have hw := tl_lt m w
    obtain ⟨w', w1, w2⟩ := tl_sur m 6 i hm g1 (by omega) g3.1
    have hlt : w' < w := by
      rcases (show w' < w ∨ w' = w ∨ w < w' by omega) with q | q | q
      · exact q
      · rw [q] at w2; omega
      · have := tl_mono m w w' q w1
        omega
    have := h5 w' (by omega) hlt
    rw [hT w' w1, w2, g3.2] at this
    cases this
-- rows
theorem lexN_z {a b : Nat → Nat} : ∀ n k, lexN a b n k = 0 ↔ ∀ i, k ≤ i → i < k + n → a i = b i
  | 0, k => ⟨fun _ i h1 h2 => absurd h1 (by omega), fun _ => rfl⟩
  | n + 1, k => by
    refine ⟨fun h => ?_, lexN_0 (n + 1) k⟩
    rw [lexN] at h
    by_cases q : a k = b k
    · rw [if_pos q] at h
      intro i h1 h2
      by_cases e : i = k
      · rw [e]; exact q
      · exact (lexN_z n (k + 1)).mp h i (by omega) (by omega)
    · rw [if_neg q] at h
      split at h
      · exact absurd h (by decide)
      · exact absurd h (by decide)
theorem cmpN_0 {x y : Nat} : cmpN x y = 0 ↔ x = y := by
  rw [cmpN]
  by_cases h : x = y
  · rw [if_pos h]; exact ⟨fun _ => h, fun _ => rfl⟩
  · rw [if_neg h]
    refine ⟨fun q => ?_, fun q => absurd q h⟩
    split at q
    · exact absurd q (by decide)
    · exact absurd q (by decide)
theorem lN_inj {x y : Nat} (hx : x < 2 ^ 63) (hy : y < 2 ^ 63) : lN x = lN y ↔ x = y := by rw [← Int64.toInt_inj, lN_toI hx, lN_toI hy]; omega
theorem v8_iff {a b : Nat → Nat} {n k : Nat} (ha : ∀ i, k ≤ i → i < k + n → a i < 128) (hb : ∀ i, k ≤ i → i < k + n → b i < 128) : v8 a n k = v8 b n k ↔ ∀ i, k ≤ i → i < k + n → a i = b i := by
  rw [← lexN_z, lex_v8 n k ha hb, cmpN_0]
theorem vL_iff {a b : Nat → Nat} {n k : Nat} (ha : Can a n k) (hb : Can b n k) : vL a n k = vL b n k ↔ ∀ i, k ≤ i → i < k + n → a i = b i := by
  rw [← lexN_z, lex_can n k ha hb, cmpN_0]
theorem cls_iff {e w : Nat} (hw : w ≤ 9) {x y : CNv} {b a : Nat → Nat} (hx : RelO e w x b) (hy : RelO e w y a) : sHasClass x y = true ↔ ∀ i, i < 16 → b i = a i := by
  obtain ⟨x1, x2, -, -, -, -, -, -, b1, b2, b3, b4, -⟩ := hx
  obtain ⟨y1, y2, -, -, -, -, -, -, a1, a2, a3, a4, -⟩ := hy
  have p9 : 10 ^ w ≤ 10 ^ 9 := Nat.pow_le_pow_right (by decide) hw
  have la := vL_lt w 4 a3
  have lb := vL_lt w 4 b3
  have l3a := v8_lt 3 0 a1
  have l3b := v8_lt 3 0 b1
  have big : ∀ t u : Nat, t ≤ 10000 → u < 10 ^ w → t * 10 ^ w + u < 2 ^ 63 := fun t u h1 h2 => by
    have := Nat.mul_le_mul h1 p9
    omega
  have ecl : x.cl = y.cl ↔ ∀ i, 0 ≤ i → i < 0 + 3 → b i = a i := by
    rw [x1, y1, nI_eq (by omega) (by omega), v8_iff b1 a1]
  have ecd : x.cd = y.cd ↔ b 3 = a 3 ∧ ∀ i, 4 ≤ i → i < 4 + w → b i = a i := by
    rw [x2, y2, lN_inj (big (b 3 - e) _ (by omega) lb) (big (a 3 - e) _ (by omega) la), ← vL_iff b3 a3, ← cmpN_0, cmp_step lb la]
    constructor
    · intro q
      by_cases h : b 3 - e = a 3 - e
      · rw [if_pos h, cmpN_0] at q
        exact ⟨by omega, q⟩
      · rw [if_neg h] at q
        split at q
        · exact absurd q (by decide)
        · exact absurd q (by decide)
    · intro q
      rw [if_pos (by omega), cmpN_0]
      exact q.2
  rw [sHasClass, Bool.and_eq_true, decide_eq_true_eq, decide_eq_true_eq, ecl, ecd]
  constructor
  · intro q i hi
    by_cases h3 : i < 3
    · exact q.1 i (by omega) (by omega)
    · by_cases h4 : i = 3
      · rw [h4]; exact q.2.1
      · by_cases h5 : i < 4 + w
        · exact q.2.2 i (by omega) h5
        · rw [a4 i (by omega) hi, b4 i (by omega) hi]
  · intro q
    exact ⟨fun i _ h => q i (by omega), q 3 (by omega), fun i h1 h2 => q i (by omega)⟩
theorem rn_in {a : Nat → Nat} : ∀ m p j, j < rn a m p → 0 < a (p + j)
  | 0, _, _, h => absurd h (Nat.not_lt_zero _)
  | m + 1, p, j, h => by
    rw [rn] at h
    by_cases q : 0 < a p
    · rw [if_pos q] at h
      cases j with
      | zero => exact q
      | succ j =>
        rw [show p + (j + 1) = p + 1 + j by omega]
        exact rn_in m (p + 1) j (by omega)
    · rw [if_neg q] at h
      exact absurd h (Nat.not_lt_zero _)
theorem rn_end {a : Nat → Nat} : ∀ m p, rn a m p < m → a (p + rn a m p) = 0
  | 0, _, h => absurd h (Nat.not_lt_zero _)
  | m + 1, p, h => by
    rw [rn] at h ⊢
    by_cases q : 0 < a p
    · rw [if_pos q] at h ⊢
      rw [show p + (rn a m (p + 1) + 1) = p + 1 + rn a m (p + 1) by omega]
      exact rn_end m (p + 1) (by omega)
    · rw [if_neg q]
      show a p = 0
      omega
theorem can_0 {a : Nat → Nat} : ∀ m p, Can a m p → ∀ n, n < m → a (p + n) = 0 → ∀ i, p + n ≤ i → i < p + m → a i = 0
  | 0, _, _, _, h, _, _, _, _ => absurd h (Nat.not_lt_zero _)
  | m + 1, p, c, 0, _, h0, i, h1, h2 => c.2.1 h0 i (by omega) h2
  | m + 1, p, c, n + 1, h, h0, i, h1, h2 => can_0 m (p + 1) c.2.2.2 n (by omega) (by rw [show p + 1 + n = p + (n + 1) by omega]; exact h0) i (by omega) (by omega)
theorem vL_app (a : Nat → Nat) : ∀ m k p, vL a (m + k) p = vL a m p * 10 ^ k + vL a k (p + m)
  | 0, k, p => by rw [Nat.zero_add, vL, Nat.zero_mul, Nat.zero_add, Nat.add_zero]
  | m + 1, k, p => by
    rw [show m + 1 + k = (m + k) + 1 by omega, vL, vL, vL_app a m k (p + 1), Nat.pow_add, Nat.add_mul, Nat.mul_assoc, show p + 1 + m = p + (m + 1) by omega, Nat.add_assoc]
/-- the row of a candidate: n digits as they are, more digits from w -/
def cdN (a : Nat → Nat) (n more w : Nat) : Nat → Nat := fun i => if i < 17 + n then a i else if i < 17 + n + more then w / 9 ^ (17 + n + more - (i + 1)) % 9 + 2 else 0
theorem cd_tail (a : Nat → Nat) (n more w : Nat) : ∀ i, i ≤ more → vL (cdN a n more w) i (17 + n) = tlN i (w / 9 ^ (more - i))
  | 0, _ => rfl
  | i + 1, h => by
    have ih := cd_tail a n more w i (by omega)
    rw [vL_r, ih, tlN, cdN, if_neg (by omega), if_pos (by omega), show 17 + n + more - (17 + n + i + 1) = more - (i + 1) by omega, show more - i = more - (i + 1) + 1 by omega, Nat.pow_succ, Nat.div_div_eq_div_mul]
    omega
theorem cd_val {a : Nat → Nat} {n more w : Nat} (hnm : n + more ≤ 6) : vL (cdN a n more w) (n + more) 17 = vL a n 17 * 10 ^ more + tlN more w ∧ vL (cdN a n more w) 6 17 = (vL a n 17 * 10 ^ more + tlN more w) * 10 ^ (6 - (n + more)) := by
  have h1 : vL (cdN a n more w) (n + more) 17 = vL a n 17 * 10 ^ more + tlN more w := by
    rw [vL_app, cd_tail a n more w more (Nat.le_refl _), Nat.sub_self, Nat.pow_zero, Nat.div_one, vL_c (a := cdN a n more w) (b := a) n 17 (fun i g1 g2 => by rw [cdN, if_pos (by omega)])]
  refine ⟨h1, ?_⟩
  rw [show vL (cdN a n more w) 6 17 = vL (cdN a n more w) ((n + more) + (6 - (n + more))) 17 by rw [show n + more + (6 - (n + more)) = 6 by omega], vL_app, h1, vL_0 (a := cdN a n more w) (6 - (n + more)) (17 + (n + more)) (fun i g1 g2 => by rw [cdN, if_neg (by omega), if_neg (by omega)]), Nat.add_zero]
theorem cd_can {a : Nat → Nat} {n more w : Nat} (hnm : n + more ≤ 6) (hc : Can a 6 17) (hn : rn a 6 17 = n) : Can (cdN a n more w) 6 17 := by
  have hb := can_b 6 17 hc
  have hin := rn_in (a := a) 6 17
  rw [hn] at hin
  by_cases h0 : more = 0
  · subst h0
    refine can_c 6 17 (fun i h1 h2 => ?_) hc
    rw [cdN]
    by_cases q : i < 17 + n
    · rw [if_pos q]
    · rw [if_neg q, if_neg (by omega)]
      have he := rn_end (a := a) 6 17
      rw [hn] at he
      exact can_0 6 17 hc n (by omega) (he (by omega)) i (by omega) h2
  · refine can_set 6 17 (n + more) hnm (fun j hj => ?_) (fun j h1 h2 => ?_) (fun _ => ?_)
    · rw [cdN]
      by_cases q : 17 + j < 17 + n
      · rw [if_pos q]
        exact ⟨hin j (by omega), hb _ (by omega) (by omega)⟩
      · rw [if_neg q, if_pos (by omega)]
        have := Nat.mod_lt (w / 9 ^ (17 + n + more - (17 + j + 1))) (show 9 > 0 by decide)
        omega
    · rw [cdN, if_neg (by omega), if_neg (by omega)]
    · rw [cdN, if_neg (by omega), if_pos (by omega)]
      omega
theorem fil_cd {A : Nat → Int32} {a : Nat → Nat} (hA : RowN A a) {n more w : Nat} (hnm : n + more ≤ 6) {k : Nat} (hk : k < 6) : mFil A n more w k = nI (cdN a n more w (17 + k)) := by
  rw [mFil, cdN]
  by_cases q : k < n
  · rw [if_pos q, if_pos (by omega)]; exact hA _ (by omega)
  · rw [if_neg q, if_neg (show ¬ 17 + k < 17 + n by omega)]
    by_cases q2 : k < n + more
    · rw [if_pos q2, if_pos (show 17 + k < 17 + n + more by omega), show n + more - (k + 1) = 17 + n + more - (17 + k + 1) by omega]
    · rw [if_neg q2, if_neg (by omega)]; rfl
theorem cut_cd {f : Nat → Int32} {d : Nat → Nat} {m : Nat} (hf : ∀ k, k < m → f k = nI (d (17 + k)) ∧ 0 < d (17 + k)) : ∀ k, k ≤ m → mCut f k = nI (vL d k 17)
  | 0, _ => rfl
  | k + 1, h => by
    obtain ⟨h1, h2⟩ := hf k (by omega)
    rw [mCut, cut_cd hf k (by omega), vL_r, h1, show (10 : Int32) = nI 10 from rfl, pk_mul, nI_add, show (1 : Int32) = nI 1 from rfl, pk_sub (by omega)]
    exact congrArg nI (by omega)
theorem mIs_iff (X Y : Nat → Int32) : ∀ k, mIs X Y k = true ↔ ∀ i, i < k → X i = Y i
  | 0 => ⟨fun _ i h => absurd h (Nat.not_lt_zero _), fun _ => rfl⟩
  | k + 1 => by
    rw [mIs, Bool.and_eq_true, decide_eq_true_eq, mIs_iff X Y k]
    constructor
    · intro h i hi
      by_cases q : i = k
      · rw [q]; exact h.2
      · exact h.1 i (by omega)
    · intro h
      exact ⟨fun i hi => h i (by omega), h k (by omega)⟩
theorem any_eq {F p : Nat → Bool} : ∀ t n, (∀ k, n ≤ k → k < n + t → F k = p k) → mAny F t n = sAny p t n
  | 0, _, _ => rfl
  | t + 1, n, h => by
    rw [mAny, sAny, any_eq t (n + 1) (fun k h1 h2 => h k (by omega) (by omega)), h n (by omega) (by omega)]
    cases p n <;> rfl
theorem tkn_eq {e w c : Nat} (hw : w ≤ 9) {X : Nat → CNv} {H : Nat → Int32} (hs : ShR e w c X H) {y : CNv} {fl A : Nat → Int32} {a : Nat → Nat} (hy : Rel e w y fl a) (hA : RowN A a) {n more u : Nat} (hnm : n + more ≤ 6) (hn : rn a 6 17 = n) : mTkn A H c n more u = sTaken X y c ((vL a n 17 * 10 ^ more + tlN more u) * 10 ^ (6 - (n + more))) := by
  rw [mTkn, sTaken]
  refine any_eq c 0 (fun k _ hk => ?_)
  obtain ⟨fk, b, hx, hB⟩ := hs.1 k (by omega)
  have hx0 := hx.1
  obtain ⟨-, -, x3, x4, -, -, -, -, -, -, -, -, b5, b6, -⟩ := hx.1
  obtain ⟨-, -, y3, -, -, -, -, -, -, -, -, -, a5, a6, -⟩ := hy.1
  have hcd := cd_can (w := u) hnm a6 hn
  have lb := vL_lt 6 17 b6
  have ld := vL_lt 6 17 hcd
  have b31 := hx.2.2.2.2.2.2.2.2.1
  have a31 := hy.2.2.2.2.2.2.2.2.1
  have key : mIs (mRow H k) (mMix A (mFw (fun _ => 0) (mFil A n more u) 0)) 23 = true ↔ sCutAt X y (nI ((vL a n 17 * 10 ^ more + tlN more u) * 10 ^ (6 - (n + more)))) k = true := by
    rw [mIs_iff, sCutAt, Bool.and_eq_true, Bool.and_eq_true, decide_eq_true_eq, decide_eq_true_eq, cls_iff hw hx0 hy.1, x3, x4, y3, ← (cd_val (a := a) (w := u) hnm).2, nI_eq (by omega) (by omega), nI_eq (by omega) (by omega), vL_iff b6 hcd]
    have d31 : ∀ i, 17 ≤ i → i < 23 → cdN a n more u i < 2 ^ 31 := fun i h1 h2 => by
      have := can_b 6 17 hcd i h1 (by omega); omega
    have mx : ∀ i, i < 17 → mMix A (mFw (fun _ => 0) (mFil A n more u) 0) i = nI (a i) := fun i hi => by rw [mMix, if_pos hi]; exact hA i (by omega)
    have mx2 : ∀ i, 17 ≤ i → i < 23 → mMix A (mFw (fun _ => 0) (mFil A n more u) 0) i = nI (cdN a n more u i) := fun i h1 h2 => by
      rw [mMix, if_neg (by omega), mFw, if_pos (by omega), fil_cd hA hnm (by omega), show 17 + (i - 17) = i by omega]
    constructor
    · intro q
      refine ⟨fun i hi => ?_, ?_, fun i h1 h2 => ?_⟩
      · have := q i (by omega)
        rw [hB i (by omega), mx i (by omega)] at this
        exact (nI_eq (b31 i (by omega)) (a31 i (by omega))).mp this
      · have := q 16 (by omega)
        rw [hB 16 (by omega), mx 16 (by omega)] at this
        exact (nI_eq (b31 16 (by omega)) (a31 16 (by omega))).mp this
      · have := q i (by omega)
        rw [hB i (by omega), mx2 i (by omega) (by omega)] at this
        exact (nI_eq (b31 i (by omega)) (d31 i (by omega) (by omega))).mp this
    · intro q i hi
      rw [hB i (by omega)]
      by_cases h16 : i < 16
      · rw [mx i (by omega), q.1 i h16]
      · by_cases h17 : i = 16
        · rw [h17, mx 16 (by omega), q.2.1]
        · rw [mx2 i (by omega) (by omega), q.2.2 i (by omega) (by omega)]
  exact Bool.eq_iff_iff.mpr key
theorem free_eq {e w c : Nat} (hw : w ≤ 9) {X : Nat → CNv} {H : Nat → Int32} (hs : ShR e w c X H) {y : CNv} {fl A : Nat → Int32} {a : Nat → Nat} (hy : Rel e w y fl a) (hA : RowN A a) {n : Nat} (hn : rn a 6 17 = n) : ∀ t more, n + more + t = 7 → sFreeFrom (sFreeM X y c (vL a 6 17 / 10 ^ (6 - n)) n) t more = mFree A H c n t more
  | 0, _, _ => rfl
  | t + 1, more, ht => by
    have hnm : n + more ≤ 6 := by omega
    have a6 : Can a 6 17 := hy.1.2.2.2.2.2.2.2.2.2.2.2.2.2.1
    have n0 : 0 < n := by rw [← hn]; exact hy.2.2.2.2.2.2.2.2.2.2.2
    have hin := rn_in (a := a) 6 17
    have he := rn_end (a := a) 6 17
    rw [hn] at hin he
    have hwr : vL a 6 17 = vL a n 17 * 10 ^ (6 - n) := by
      rw [show vL a 6 17 = vL a (n + (6 - n)) 17 by rw [show n + (6 - n) = 6 by omega], vL_app, vL_0 (a := a) (6 - n) (17 + n) (fun i h1 h2 => can_0 6 17 a6 n (by omega) (he (by omega)) i h1 (by omega)), Nat.add_zero]
    have p10 : 0 < 10 ^ (6 - n) := Nat.pow_pos (by decide)
    have hwq : vL a 6 17 / 10 ^ (6 - n) = vL a n 17 := by rw [hwr, Nat.mul_div_cancel _ p10]
    have hpos : 0 < vL a n 17 := by
      have := vL_pos (n := 5) a6 (hin 0 n0)
      rw [hwr] at this
      exact Nat.pos_of_mul_pos_right this
    have hlt := vL_lt 6 17 (cd_can (w := 0) hnm a6 hn)
    rw [sFreeFrom, mFree, mWay]
    have hsf : sFreeM X y c (vL a 6 17 / 10 ^ (6 - n)) n more = sTail (sTaken X y c) (vL a n 17 * 10 ^ more) (10 ^ (6 - (n + more))) (10 ^ more - 10 ^ more / 10) (10 ^ more / 10) := by rw [sFreeM, hwq]
    rcases tail_ways (T := sTaken X y c) (T' := mTkn A H c n more) (start := vL a n 17 * 10 ^ more) (fill := 10 ^ (6 - (n + more))) (m := more) (by omega) (fun u _ => tkn_eq hw hs hy hA hnm hn) with ⟨h1, h2⟩ | ⟨u, h0, h1, h2⟩
    · rw [h1, hsf, h2, if_pos rfl]
      exact free_eq hw hs hy hA hn t (more + 1) (by omega)
    · have hcv : mCut (mFil A n more u) (n + more) = nI (vL a n 17 * 10 ^ more + tlN more u) := by
        rw [← (cd_val (a := a) (w := u) hnm).1]
        refine cut_cd (m := n + more) (fun k hk => ⟨fil_cd hA hnm (by omega), ?_⟩) (n + more) (Nat.le_refl _)
        rw [cdN]
        by_cases q : 17 + k < 17 + n
        · rw [if_pos q]; exact hin k (by omega)
        · rw [if_neg q, if_pos (by omega)]; omega
      have l6 := vL_lt 6 17 (cd_can (w := u) hnm a6 hn)
      rw [(cd_val (a := a) (w := u) hnm).2] at l6
      have pp : 0 < 10 ^ (6 - (n + more)) := Nat.pow_pos (by decide)
      have pm : 0 < 10 ^ more := Nat.pow_pos (by decide)
      have lv : vL a n 17 * 10 ^ more + tlN more u < 10 ^ 6 := Nat.lt_of_le_of_lt (Nat.le_mul_of_pos_right _ pp) l6
      have l0 : 0 < vL a n 17 * 10 ^ more := Nat.mul_pos hpos pm
      rw [h1, hsf, h2]
      show _ = mCut (mFil A n more u) (n + more)
      rw [hcv, if_neg (show ¬ nI (vL a n 17 * 10 ^ more + tlN more u) = 0 from fun q => by
        have := (nI_eq (b := 0) (by omega) (by omega)).mp q
        omega)]
