/-! ===== the class and the cutter; the whole call number ===== -/
theorem dig_47 {x : Int32} (h : isDig x = true) : x - 47 = nI (dD x + 1) := by
  obtain ⟨h1, h2⟩ := dig_dD h
  conv => lhs; rw [h2]
  rw [show (47 : Int32) = nI 47 from rfl, pk_sub (by omega)]
  exact congrArg nI (by omega)
theorem RowN.dig {A : Nat → Int32} {a : Nat → Nat} (h : RowN A a) {S : Nat → Int32} {fr p r : Nat} (hin : ∀ j, j < r → isDig (S (p + j)) = true) : RowN (digW A fr S p r) (sN a fr (fun j => dD (S (p + j)) + 1) r) := by
  intro i hi
  rw [digW]
  by_cases q : fr ≤ i ∧ i < fr + r
  · rw [if_pos q, sN_in q.1 q.2]
    exact dig_47 (hin _ (by omega))
  · rw [if_neg q, sN_out (by omega)]
    exact h i hi
theorem dec_cases (S : Nat → Int32) (p most fr : Nat) (w : Nat → Int32) : (∃ q, sDecimals S p most = (false, q) ∧ mDigits S p fr most w = .inl q) ∨ (∃ r, 0 < r ∧ r ≤ most ∧ (∀ j, j < r → isDig (S (p + j)) = true) ∧ 1 ≤ dD (S (p + r - 1)) ∧ sDecimals S p most = (true, p + r) ∧ mDigits S p fr most w = .inr (p + r, digW w fr S p r)) := by
  have hr := runD_le S most p
  have hin := runD_in S most p
  generalize hrr : runD S most p = r at hr hin
  have hsd : sDigits S p 1 most = (decide (1 ≤ r) && !isDig (S (p + r)), p + r) := by rw [sDigits, hrr]
  cases h5 : isDig (S (p + r)) with
  | true => exact Or.inl ⟨p + r, by rw [sDecimals, hsd, h5, if_pos (by simp)], by rw [mDigits, hrr, if_pos h5]⟩
  | false =>
    by_cases h0 : r = 0
    · subst h0
      exact Or.inl ⟨p + 0, by rw [sDecimals, hsd, if_pos (by simp)], by rw [mDigits, hrr, if_neg (by rw [h5]; decide), if_pos rfl]⟩
    · have h1 : decide (1 ≤ r) = true := decide_eq_true (by omega)
      rw [h1, h5] at hsd
      by_cases h48 : S (p + r - 1) = 48
      · exact Or.inl ⟨p + r - 1, by rw [sDecimals, hsd, if_neg (by simp), if_pos h48], by rw [mDigits, hrr, if_neg (by rw [h5]; decide), if_neg h0, if_pos h48]⟩
      · have hd := hin (r - 1) (by omega)
        rw [show p + (r - 1) = p + r - 1 by omega] at hd
        exact Or.inr ⟨r, by omega, hr, hin, dig_dD0 hd h48, by rw [sDecimals, hsd, if_neg (by simp), if_neg h48], by rw [mDigits, hrr, if_neg (by rw [h5]; decide), if_neg h0, if_neg h48]⟩
theorem frac_cases (S : Nat → Int32) (q most : Nat) (w : Nat → Int32) : (∃ b, sFraction S q most = (false, b) ∧ mFrac S q most w = .inl b) ∨ (∃ r b, r ≤ most ∧ b = (if r = 0 then q else q + 1 + r) ∧ (∀ j, j < r → isDig (S (q + 1 + j)) = true) ∧ (0 < r → 1 ≤ dD (S (q + 1 + r - 1))) ∧ sFraction S q most = (true, b) ∧ mFrac S q most w = .inr (b, upd (digW w 4 S (q + 1) r) 37 (nI b))) := by
  by_cases h : S q = 46
  · rcases dec_cases S (q + 1) most 4 w with ⟨b, h1, h2⟩ | ⟨r, h0, hr, hin, hd, h1, h2⟩
    · exact Or.inl ⟨b, by rw [sFraction, if_pos h, h1], by rw [mFrac, if_pos h, h2]; rfl⟩
    · exact Or.inr ⟨r, q + 1 + r, hr, by rw [if_neg (by omega)], hin, fun _ => hd, by rw [sFraction, if_pos h, h1], by rw [mFrac, if_pos h, h2]; rfl⟩
  · exact Or.inr ⟨0, q, by omega, by rw [if_pos rfl], fun j hj => absurd hj (by omega), fun q => absurd q (by omega), by rw [sFraction, if_neg h], by rw [mFrac, if_neg h, digW_0]; rfl⟩
/-- the class of a call number has been read -/
def ClsOk (e w : Nat) (x : CNv) (fl : Nat → Int32) (b : Nat → Nat) : Prop := x.cl = nI (v8 b 3 0) ∧ x.cc = nI (rn b 3 0) ∧ x.cd = lN ((b 3 - e) * 10 ^ w + vL b w 4) ∧ x.year = 0 ∧ x.vol = 0 ∧ x.voll = 0 ∧ x.mark = 0 ∧ x.markn = 0 ∧ (∀ i, 0 ≤ i → i < 0 + 3 → b i < 128) ∧ (e ≤ b 3 ∧ b 3 ≤ 10000) ∧ Can b w 4 ∧ (∀ i, 4 + w ≤ i → i < 40 → i ≠ 37 → b i = 0) ∧ b 37 < 1000 ∧ rn b 3 0 ≤ b 37 ∧ (0 < rn b 3 0 ↔ e = 0) ∧ (e = 0 → fl 0 = nI (rn b 3 0)) ∧ fl (1 - e) = nI (b 37 - rn b 3 0)
def ClsR (e w : Nat) (S : Nat → Int32) (o : ROut) (m : MOut) : Prop := match o, m with
  | .inl p, .inl q => p = q
  | .inl p, .inr v => p = v.1 ∧ S p ≠ 32
  | .inr y, .inr v => y.1 = v.1 ∧ ∃ b, ClsOk e w y.2.1 y.2.2 b ∧ RowN v.2 b
  | _, _ => False
set_option maxRecDepth 100000 in
theorem cut_rel {e w : Nat} {S : Nat → Int32} {x : CNv} {fl : Nat → Int32} {b : Nat → Nat} {p r k : Nat} (hw : w ≤ 9) (he : e ≤ 1) (hk : k + e = 2) (h : ClsOk e w x fl b) (hcap : isCap (S p) = true) (h0 : 0 < r) (hr : r ≤ 6) (hin : ∀ j, j < r → isDig (S (p + 1 + j)) = true) (hd : 1 ≤ dD (S (p + 1 + r - 1))) :
    Rel e w (x.cl, x.cc, x.cd, S p, (sFill S (p + 1) (p + 1 + r) 6).toInt32, nI r, x.year, x.vol, x.voll, x.mark, x.markn, nI (k + 1)) (upd fl k (nI (1 + r))) (uN (sN (uN b 16 (cN (S p))) 17 (fun j => dD (S (p + 1 + j)) + 1) r) 34 2) ∧ (lnL e (uN (sN (uN b 16 (cN (S p))) 17 (fun j => dD (S (p + 1 + j)) + 1) r) 34 2)).length = k + 1 ∧ Zl 0 (uN (sN (uN b 16 (cN (S p))) 17 (fun j => dD (S (p + 1 + j)) + 1) r) 34 2) := by
  obtain ⟨c1, c2, c3, c4, c5, c6, c7, c8, b1, b2, b3, b4, b5, b6, b7, f0, f1⟩ := h
  have hc := cap_cN hcap
  have u : ∀ i, (i < 16 ∨ 23 ≤ i) → i ≠ 34 → uN (sN (uN b 16 (cN (S p))) 17 (fun j => dD (S (p + 1 + j)) + 1) r) 34 2 i = b i := fun i h1 h2 => by rw [uN_n h2, sN_out (by omega), uN_n (by omega)]
  have u16 : uN (sN (uN b 16 (cN (S p))) 17 (fun j => dD (S (p + 1 + j)) + 1) r) 34 2 16 = cN (S p) := by rw [uN_n (by omega), sN_out (by omega), uN_s]
  have u34 : uN (sN (uN b 16 (cN (S p))) 17 (fun j => dD (S (p + 1 + j)) + 1) r) 34 2 34 = 2 := uN_s _ _ _
  have uj : ∀ j, j < 6 → uN (sN (uN b 16 (cN (S p))) 17 (fun j => dD (S (p + 1 + j)) + 1) r) 34 2 (17 + j) = if j < r then dD (S (p + 1 + j)) + 1 else 0 := fun j hj => by
    rw [uN_n (by omega)]
    by_cases q : j < r
    · rw [sN_in (by omega) (by omega), if_pos q, show 17 + j - 17 = j by omega]
    · rw [sN_out (by omega), uN_n (by omega), if_neg q, b4 _ (by omega) (by omega) (by omega)]
  generalize uN (sN (uN b 16 (cN (S p))) 17 (fun j => dD (S (p + 1 + j)) + 1) r) 34 2 = a at u u16 u34 uj
  have z : ∀ i, 23 ≤ i → i < 34 → a i = 0 := fun i h1 h2 => by rw [u i (by omega) (by omega), b4 i (by omega) (by omega) (by omega)]
  have n3 : rn a 3 0 = rn b 3 0 := rn_c 3 0 (fun i h1 h2 => u i (by omega) (by omega))
  have v3 : v8 a 3 0 = v8 b 3 0 := v8_c 3 0 (fun i h1 h2 => u i (by omega) (by omega))
  have vw : vL a w 4 = vL b w 4 := vL_c w 4 (fun i h1 h2 => u i (by omega) (by omega))
  have a37 : a 37 = b 37 := u 37 (by omega) (by omega)
  have n6 : rn a 6 17 = r := by
    refine rn_set 6 17 r hr (fun j hj => ?_) (fun q => ?_)
    · rw [uj j (by omega), if_pos hj]; omega
    · rw [uj r q, if_neg (by omega)]
  have n8 : rn a 8 26 = 0 := rn_0 (z 26 (by omega) (by omega))
  have v8z : v8 a 8 26 = 0 := by
    rw [v8_c (b := fun _ => 0) 8 26 (fun i h1 h2 => z i (by omega) (by omega))]
    rfl
  have hf : sFill S (p + 1) (p + 1 + r) 6 = lN (vL a 6 17) := by
    refine sFill_vL 6 (fun j hj => ?_)
    by_cases q : j < r
    · rw [if_pos (by omega), uj j hj, if_pos q]
      exact ⟨hin j q, rfl⟩
    · rw [if_neg (by omega), uj j hj, if_neg q]
  have c6' : Can a 6 17 := by
    refine can_set 6 17 r hr (fun j hj => ?_) (fun j h1 h2 => ?_) (fun _ => ?_)
    · rw [uj j (by omega), if_pos hj]
      have := (dig_dD (hin j hj)).1
      omega
    · rw [uj j h2, if_neg (by omega)]
    · have := uj (r - 1) (by omega)
      rw [show 17 + (r - 1) = 17 + r - 1 by omega, if_pos (by omega), show p + 1 + (r - 1) = p + 1 + r - 1 by omega] at this
      rw [this]; omega
  have hl1 : ln1 a = [] := by
    simp only [ln1, ln2, ln3]
    rw [z 23 (by omega) (by omega), z 24 (by omega) (by omega), z 26 (by omega) (by omega)]
    rfl
  have hl0 : ln0 a = [b 37 - rn b 3 0, 1 + r] := by rw [ln0, hl1, n3, n6, a37]
  obtain ⟨mv, hmv⟩ : ∃ mv, mv = sFill S (p + 1) (p + 1 + r) 6 := ⟨_, rfl⟩
  rw [← hmv] at hf ⊢
  have hlen : (lnL e a).length = k + 1 := by
    rw [lnL, hl0]
    rcases (show e = 0 ∨ e = 1 by omega) with q | q
    · rw [if_pos q]
      show 3 = _
      omega
    · rw [if_neg (by omega)]
      show 2 = _
      omega
  refine ⟨⟨⟨by rw [v3]; exact c1, by rw [vw, u 3 (by omega) (by omega)]; exact c3, by rw [u16]; exact hc.2.2, by show mv.toInt32 = _; rw [hf]; exact lN_i _, by rw [z 23 (by omega) (by omega)]; exact c4, by rw [z 24 (by omega) (by omega)]; exact c5, by rw [z 25 (by omega) (by omega)]; exact c6, by rw [v8z]; exact c7, ?_⟩, by rw [n3]; exact c2, by rw [n6], by rw [n8]; exact c8, by rw [hlen], ?_, by rw [hlen, u34]; omega, by rw [n3]; exact b7, ?_, by rw [a37]; exact b5, by rw [n3, a37]; exact b6, by rw [n6]; exact h0⟩, hlen, fun _ => z 23 (by omega) (by omega), fun _ => ⟨z 24 (by omega) (by omega), z 25 (by omega) (by omega)⟩, fun _ i h1 h2 => z i (by omega) (by omega)⟩
  · refine ⟨fun i h1 h2 => by rw [u i (by omega) (by omega)]; exact b1 i h1 h2, by rw [u 3 (by omega) (by omega)]; exact b2, can_c w 4 (fun i h1 h2 => (u i (by omega) (by omega)).symm) b3, fun i h1 h2 => by rw [u i (by omega) (by omega)]; exact b4 i h1 (by omega) (by omega), by rw [u16]; omega, c6', by rw [z 23 (by omega) (by omega)]; omega, by rw [z 24 (by omega) (by omega)]; omega, by rw [z 25 (by omega) (by omega)]; omega, fun i h1 h2 => by rw [z i (by omega) (by omega)]; omega⟩
  · intro i hi
    rw [hlen] at hi
    rw [lnL, hl0]
    rcases (show e = 0 ∨ e = 1 by omega) with q | q
    · subst q
      rw [if_pos rfl, n3]
      obtain rfl : k = 2 := by omega
      rcases (show i = 0 ∨ i = 1 ∨ i = 2 by omega) with rfl | rfl | rfl
      · rw [pk_un (by omega)]; exact f0 rfl
      · rw [pk_un (by omega)]; exact f1
      · rw [pk_us]; rfl
    · subst q
      rw [if_neg (by omega)]
      obtain rfl : k = 1 := by omega
      rcases (show i = 0 ∨ i = 1 by omega) with rfl | rfl
      · rw [pk_un (by omega)]; exact f1
      · rw [pk_us]; rfl
  · intro i hi
    by_cases q16 : i < 16
    · rw [u i (by omega) (by omega)]
      by_cases q3 : i < 3
      · have := b1 i (by omega) (by omega); omega
      · by_cases q4 : i = 3
        · rw [q4]; omega
        · by_cases qw : i < 4 + w
          · have := can_b w 4 b3 i (by omega) qw; omega
          · rw [b4 i (by omega) hi (by omega)]; omega
    · by_cases q : i = 16
      · rw [q, u16]; omega
      · by_cases q23 : i < 23
        · have := can_b 6 17 c6' i (by omega) (by omega); omega
        · by_cases q34 : i = 34
          · rw [q34, u34]; omega
          · by_cases q37 : i = 37
            · rw [q37, a37]; omega
            · rw [u i (by omega) q34, b4 i (by omega) hi q37]; omega
theorem cls_then {e w c k : Nat} {S : Nat → Int32} (hw : w ≤ 9) (he : e ≤ 1) (hk : k + e = 2) (hS : ∀ q, c ≤ q → S q = -1) {o : ROut} {m : MOut} (h : ClsR e w S o m) : OutR e w (oThen o (fun q x fl => if (sSpace S q).1 = false then .inl (sSpace S q).2 else oThen (sCutter S (sSpace S q).2 k x fl) (fun q2 x2 fl2 => sRest S c 4 1 q2 (k + 1) x2 fl2))) (mThen m (fun q w1 => mThen (mSpace S q w1) (fun q2 w2 => mThen (mCutter S q2 w2) (fun q3 w3 => mRest S c 4 0 q3 (upd w3 34 2))))) := by
  cases o with
  | inl p =>
    cases m with
    | inl q => exact h
    | inr v =>
      obtain ⟨h1, h2⟩ := h
      show OutR e w (.inl p) (mThen (mSpace S v.1 v.2) (fun q2 w2 => mThen (mCutter S q2 w2) (fun q3 w3 => mRest S c 4 0 q3 (upd w3 34 2))))
      rw [← h1, mSpace, if_neg h2]
      exact rfl
  | inr y =>
    cases m with
    | inl q => exact absurd h (fun q => q)
    | inr v =>
      obtain ⟨q, x, fl⟩ := y
      obtain ⟨q', A⟩ := v
      obtain ⟨h1, b, hb, hA⟩ := h
      have h1' : q = q' := h1
      subst h1'
      show OutR e w (if (sSpace S q).1 = false then .inl (sSpace S q).2 else oThen (sCutter S (sSpace S q).2 k x fl) (fun q2 x2 fl2 => sRest S c 4 1 q2 (k + 1) x2 fl2)) (mThen (mSpace S q A) (fun q2 w2 => mThen (mCutter S q2 w2) (fun q3 w3 => mRest S c 4 0 q3 (upd w3 34 2))))
      by_cases h32 : S q = 32
      · have e1 : sSpace S q = (true, q + 1) := by rw [sSpace, if_pos h32]
        rw [e1, if_neg (by simp), mSpace, if_pos h32]
        show OutR e w (oThen (sCutter S (q + 1) k x fl) (fun q2 x2 fl2 => sRest S c 4 1 q2 (k + 1) x2 fl2)) (mThen (mCutter S (q + 1) A) (fun q3 w3 => mRest S c 4 0 q3 (upd w3 34 2)))
        cases hcap : isCap (S (q + 1)) with
        | false =>
          rw [sCutter, mCutter, if_pos hcap, if_pos hcap]
          exact rfl
        | true =>
          rw [sCutter, mCutter, if_neg (show ¬ isCap (S (q + 1)) = false by rw [hcap]; decide), if_neg (show ¬ isCap (S (q + 1)) = false by rw [hcap]; decide)]
          rcases dec_cases S (q + 1 + 1) 6 17 (upd A 16 (S (q + 1))) with ⟨t, g1, g2⟩ | ⟨r, h0, hr, hin, hd, g1, g2⟩
          · rw [g1, g2, if_pos rfl]
            exact rfl
          · rw [g1, g2, if_neg (by simp)]
            show OutR e w (sRest S c 4 1 (q + 1 + 1 + r) (k + 1) (x.cl, x.cc, x.cd, S (q + 1), (sFill S (q + 1 + 1) (q + 1 + 1 + r) 6).toInt32, nI (q + 1 + 1 + r - (q + 1) - 1), x.year, x.vol, x.voll, x.mark, x.markn, nI (k + 1)) (upd fl k (nI (q + 1 + 1 + r - (q + 1))))) (mRest S c 4 0 (q + 1 + 1 + r) (upd (digW (upd A 16 (S (q + 1))) 17 S (q + 1 + 1) r) 34 2))
            rw [show q + 1 + 1 + r - (q + 1) - 1 = r by omega, show q + 1 + 1 + r - (q + 1) = 1 + r by omega]
            obtain ⟨g3, g4, g5⟩ := cut_rel hw he hk hb hcap h0 hr hin hd
            have := rest_eq hw hS 4 0 (q + 1 + 1 + r) _ _ _ _ (by omega) (by omega) g3 (RowN.upd (x := 2) (RowN.dig (fr := 17) (hA.upd (cap_cN hcap).2.2) hin) rfl) g5
            rw [g4] at this
            exact this
      · have e1 : sSpace S q = (false, q) := by rw [sSpace, if_neg h32]
        rw [e1, if_pos rfl, mSpace, if_neg h32]
        exact rfl
theorem clr_row (w : Nat → Int32) : RowN (clrW w 40) (fun _ => 0) := fun i hi => by rw [clrW, if_pos hi]; rfl
set_option maxRecDepth 100000 in
theorem cls0 {S : Nat → Int32} (w : Nat → Int32) : ClsR 1 9 S (sClassD S 0 0 cnNew (fun _ => 0)) (mClass0 S 0 (clrW w 40)) := by
  have hr := runD_le S 3 0
  have hin := runD_in S 3 0
  generalize hrr : runD S 3 0 = r at hr hin
  have hsd : sDigits S 0 3 3 = (decide (3 ≤ r) && !isDig (S (0 + r)), 0 + r) := by rw [sDigits, hrr]
  by_cases h3 : r < 3
  · have : decide (3 ≤ r) = false := decide_eq_false (by omega)
    rw [this] at hsd
    rw [sClassD, hsd, if_pos (by rfl), mClass0, hrr, if_pos h3]
    exact rfl
  · obtain rfl : r = 3 := by omega
    rw [mClass0, hrr, if_neg h3]
    cases h5 : isDig (S (0 + 3)) with
    | true =>
      rw [h5] at hsd
      rw [sClassD, hsd, if_pos (by rfl)]
      have h46 : ¬ S (0 + 3) = 46 := fun q => by rw [q] at h5; revert h5; decide
      have h32 : ¬ S (0 + 3) = 32 := fun q => by rw [q] at h5; revert h5; decide
      rw [mFrac, if_neg h46]
      exact ⟨rfl, h32⟩
    | false =>
      rw [h5] at hsd
      rw [sClassD, hsd, if_neg (by decide)]
      rcases frac_cases S (0 + 3) 9 (upd (clrW w 40) 3 (sVal S 0 3 + 1)) with ⟨b, g1, g2⟩ | ⟨r, b, hr9, hb, hinf, hlast, g1, g2⟩
      · rw [g2]
        show ClsR 1 9 S (if (sFraction S (0 + 3) 9).1 = false then .inl (sFraction S (0 + 3) 9).2 else _) _
        rw [g1, if_pos rfl]
        exact rfl
      · rw [g2]
        have hv := sVal_dv 3 hin
        have hlt := dv_lt 3 hin
        have hf1 := sFill_dv (b := 0 + 3) 3 (fun j hj => ⟨hin j hj, by omega⟩)
        generalize hD : dv S 0 3 = D at hv hlt hf1
        have hrow : RowN (upd (digW (upd (clrW w 40) 3 (sVal S 0 3 + 1)) 4 S (0 + 3 + 1) r) 37 (nI b)) (uN (sN (uN (fun _ => 0) 3 (D + 1)) 4 (fun j => dD (S (0 + 3 + 1 + j)) + 1) r) 37 b) := RowN.upd (RowN.dig ((clr_row w).upd (by rw [hv, nI1])) hinf) rfl
        have u3 : uN (sN (uN (fun _ => 0) 3 (D + 1)) 4 (fun j => dD (S (0 + 3 + 1 + j)) + 1) r) 37 b 3 = D + 1 := by rw [uN_n (by omega), sN_out (by omega), uN_s]
        have uz : ∀ i, (i < 3 ∨ 13 ≤ i) → i ≠ 37 → uN (sN (uN (fun _ => 0) 3 (D + 1)) 4 (fun j => dD (S (0 + 3 + 1 + j)) + 1) r) 37 b i = 0 := fun i h1 h2 => by rw [uN_n h2, sN_out (by omega), uN_n (by omega)]
        have u37 : uN (sN (uN (fun _ => 0) 3 (D + 1)) 4 (fun j => dD (S (0 + 3 + 1 + j)) + 1) r) 37 b 37 = b := uN_s _ _ _
        have uj : ∀ j, j < 9 → uN (sN (uN (fun _ => 0) 3 (D + 1)) 4 (fun j => dD (S (0 + 3 + 1 + j)) + 1) r) 37 b (4 + j) = if j < r then dD (S (0 + 3 + 1 + j)) + 1 else 0 := fun j hj => by
          rw [uN_n (by omega)]
          by_cases q : j < r
          · rw [sN_in (by omega) (by omega), if_pos q, show 4 + j - 4 = j by omega]
          · rw [sN_out (by omega), uN_n (by omega), if_neg q]
        generalize uN (sN (uN (fun _ => 0) 3 (D + 1)) 4 (fun j => dD (S (0 + 3 + 1 + j)) + 1) r) 37 b = a at hrow u3 uz u37 uj
        have hb9 : 3 ≤ b ∧ b ≤ 13 := by
          rw [hb]; split <;> omega
        have hf2 : sFill S (0 + 3 + 1) b 9 = lN (vL a 9 4) := by
          refine sFill_vL 9 (fun j hj => ?_)
          by_cases q : j < r
          · rw [if_neg (by omega)] at hb
            rw [if_pos (by omega), uj j hj, if_pos q]
            exact ⟨hinf j q, rfl⟩
          · have : ¬ 0 + 3 + 1 + j < b := by
              rw [hb]; split <;> omega
            rw [if_neg this, uj j hj, if_neg q]
        have hcan : Can a 9 4 := by
          refine can_set 9 4 r hr9 (fun j hj => ?_) (fun j h1 h2 => ?_) (fun q => ?_)
          · rw [uj j (by omega), if_pos hj]
            have := (dig_dD (hinf j hj)).1
            omega
          · rw [uj j h2, if_neg (by omega)]
          · have := uj (r - 1) (by omega)
            rw [show 4 + (r - 1) = 4 + r - 1 by omega, if_pos (by omega)] at this
            rw [this]
            have hl : 1 ≤ dD (S (4 + r - 1)) := hlast q
            omega
        have n3 : rn a 3 0 = 0 := rn_0 (uz 0 (by omega) (by omega))
        have v3 : v8 a 3 0 = 0 := by
          rw [v8_c (b := fun _ => 0) 3 0 (fun i h1 h2 => uz i (by omega) (by omega))]
          rfl
        show ClsR 1 9 S (if (sFraction S (0 + 3) 9).1 = false then .inl (sFraction S (0 + 3) 9).2 else .inr ((sFraction S (0 + 3) 9).2, (0, 0, (sFill S 0 (0 + 3) (0 + 3 - 0)) * lN (10 ^ 9) + sFill S (0 + 3 + 1) (sFraction S (0 + 3) 9).2 9, 0, 0, 0, 0, 0, 0, 0, 0, nI (0 + 1)), upd (fun _ => 0) 0 (nI ((sFraction S (0 + 3) 9).2 - 0)))) _
        rw [g1, if_neg (by simp)]
        show ClsR 1 9 S (.inr (b, (0, 0, (sFill S 0 (0 + 3) 3) * lN (10 ^ 9) + sFill S (0 + 3 + 1) b 9, 0, 0, 0, 0, 0, 0, 0, 0, nI (0 + 1)), upd (fun _ => 0) 0 (nI (b - 0)))) _
        rw [hf1, hf2, lN_mul, lN_add]
        generalize hcd : D * 10 ^ 9 + vL a 9 4 = cdv
        refine ⟨rfl, a, ⟨by rw [v3]; rfl, by rw [n3]; rfl, by rw [u3, show D + 1 - 1 = D by omega, hcd], rfl, rfl, rfl, rfl, rfl, fun i h1 h2 => by rw [uz i (by omega) (by omega)]; omega, by rw [u3]; omega, hcan, fun i h1 h2 h4 => uz i (by omega) h4, by rw [u37]; omega, by rw [n3]; omega, by rw [n3]; omega, fun q => absurd q (by decide), ?_⟩, hrow⟩
        rw [n3, u37]
        show upd (fun _ => 0) 0 (nI (b - 0)) 0 = _
        exact pk_us
theorem number_cases (S : Nat → Int32) (p into : Nat) (w : Nat → Int32) : (∃ q, sNumber S p 1 4 = (false, q) ∧ mNumber S p into 4 w = .inl q) ∨ (∃ r, 0 < r ∧ r ≤ 4 ∧ (∀ j, j < r → isDig (S (p + j)) = true) ∧ sNumber S p 1 4 = (true, p + r) ∧ mNumber S p into 4 w = .inr (p + r, upd w into (sVal S p r))) := by
  by_cases h48 : S p = 48
  · exact Or.inl ⟨p, sNumber_48 h48, by rw [mNumber, if_pos h48]⟩
  have hr := runD_le S 4 p
  have hin := runD_in S 4 p
  generalize hrr : runD S 4 p = r at hr hin
  have hn : sNumber S p 1 4 = (decide (1 ≤ r) && !isDig (S (p + r)), p + r) := by rw [sNumber_n h48, hrr]
  cases h5 : isDig (S (p + r)) with
  | true => exact Or.inl ⟨p + r, by rw [hn, h5]; simp, by rw [mNumber, if_neg h48, hrr, if_pos h5]⟩
  | false =>
    by_cases h0 : r = 0
    · subst h0
      exact Or.inl ⟨p, by rw [hn]; rfl, by rw [mNumber, if_neg h48, hrr, if_neg (by rw [h5]; decide), if_pos rfl]⟩
    · have h1 : decide (1 ≤ r) = true := decide_eq_true (by omega)
      exact Or.inr ⟨r, by omega, hr, hin, by rw [hn, h1, h5]; rfl, by rw [mNumber, if_neg h48, hrr, if_neg (by rw [h5]; decide), if_neg h0]⟩
set_option maxRecDepth 100000 in
theorem cls1 {S : Nat → Int32} (w : Nat → Int32) : ClsR 0 4 S (sClassL S 0 0 cnNew (fun _ => 0)) (mClass1 S 0 (clrW w 40)) := by
  have hr := runP_le isCap S 3 0
  have hin := runP_in isCap S 3 0
  have hend := runP_end isCap S 3 0
  have hlt0 := ltS_eq (S := S) (p := 0) (r := runP isCap S 3 0) (a := fun i => if i < runP isCap S 3 0 then cN (S i) else 0) rfl (fun j hj => by rw [Nat.zero_add]) 3 (by omega)
  rw [mClass1]
  have hlt1 : ∀ (a : Nat → Nat), (∀ i, i < 3 → a i = if i < runP isCap S 3 0 then cN (S i) else 0) → v8 (fun i => if i < runP isCap S 3 0 then cN (S i) else 0) 3 0 = v8 a 3 0 := fun a h => v8_c 3 0 (fun i h1 h2 => (h i (by omega)).symm)
  generalize hv0 : v8 (fun i => if i < runP isCap S 3 0 then cN (S i) else 0) 3 0 = V at hlt0 hlt1
  generalize hrr : runP isCap S 3 0 = r at hr hin hend hlt0 hlt1
  rw [show 0 + min 3 r = r by omega] at hlt0
  rw [show 0 + r = r by omega]
  by_cases h0 : r = 0
  · have hc : isCap (S r) = false := by have := hend (by omega); rwa [show 0 + r = r by omega] at this
    rw [if_neg (by rw [hc]; decide), if_pos h0, sClassL, sLetters, hlt0, if_pos (show r ≤ 0 by omega)]
    show r = 0
    exact h0
  · have hsl : sClassL S 0 0 cnNew (fun _ => 0) = sClassN S r 1 (nI V, nI r, 0, 0, 0, 0, 0, 0, 0, 0, 0, nI 1) (upd (fun _ => 0) 0 (nI r)) := by
      rw [sClassL, sLetters, hlt0, if_neg (show ¬ r ≤ 0 by omega)]
      rfl
    rw [hsl]
    cases h5 : isCap (S r) with
    | true =>
      rw [if_pos rfl]
      have h48 : ¬ S r = 48 := fun q => by rw [q] at h5; revert h5; decide
      have hd : ¬ isDig (S r) = true := fun q => by
        have h1 := dig_dD q
        have h2 := cap_cN h5
        rw [h1.2] at h2
        rw [cN_nI (by omega)] at h2
        omega
      have hn : sNumber S r 1 4 = (false, r) := by
        have : runD S 4 r = 0 := by rw [runD, if_neg hd]
        rw [sNumber_n h48, this]
        rfl
      rw [sClassN, hn, if_pos rfl]
      exact rfl
    | false =>
      rw [if_neg (by decide), if_neg h0]
      rcases number_cases S r 3 (rowW (clrW w 40) 0 S 0 r) with ⟨q, g1, g2⟩ | ⟨r2, h20, h24, hin2, g1, g2⟩
      · rw [sClassN, g1, g2, if_pos rfl]
        exact rfl
      · rw [sClassN, g1, g2, if_neg (by simp)]
        show ClsR 0 4 S (if (sFraction S (r + r2) 4).1 = false then .inl (sFraction S (r + r2) 4).2 else .inr ((sFraction S (r + r2) 4).2, (nI V, nI r, (sFill S r (r + r2) (r + r2 - r)) * lN (10 ^ 4) + sFill S (r + r2 + 1) (sFraction S (r + r2) 4).2 4, 0, 0, 0, 0, 0, 0, 0, 0, nI (1 + 1)), upd (upd (fun _ => 0) 0 (nI r)) 1 (nI ((sFraction S (r + r2) 4).2 - r)))) (mFrac S (r + r2) 4 (upd (rowW (clrW w 40) 0 S 0 r) 3 (sVal S r r2)))
        rcases frac_cases S (r + r2) 4 (upd (rowW (clrW w 40) 0 S 0 r) 3 (sVal S r r2)) with ⟨b, g3, g4⟩ | ⟨r3, b, hr3, hb, hinf, hlast, g3, g4⟩
        · rw [g3, g4, if_pos rfl]
          exact rfl
        · rw [g3, g4, if_neg (by simp)]
          have hv := sVal_dv r2 hin2
          have hlt := dv_lt r2 hin2
          have p4 : 10 ^ r2 ≤ 10 ^ 4 := Nat.pow_le_pow_right (by decide) h24
          have hf1 := sFill_dv (b := r + r2) r2 (fun j hj => ⟨hin2 j hj, by omega⟩)
          generalize hD : dv S r r2 = D at hv hlt hf1
          have hrow0 : RowN (rowW (clrW w 40) 0 S 0 r) (sN (fun _ => 0) 0 (fun j => cN (S (0 + j))) r) := by
            intro i hi
            rw [rowW]
            by_cases q : 0 ≤ i ∧ i < 0 + r
            · rw [if_pos q, sN_in q.1 q.2]
              exact (cap_cN (hin (i - 0) (by omega))).2.2
            · rw [if_neg q, sN_out (by omega)]; exact clr_row w i hi
          have hrow : RowN (upd (digW (upd (rowW (clrW w 40) 0 S 0 r) 3 (sVal S r r2)) 4 S (r + r2 + 1) r3) 37 (nI b)) (uN (sN (uN (sN (fun _ => 0) 0 (fun j => cN (S (0 + j))) r) 3 D) 4 (fun j => dD (S (r + r2 + 1 + j)) + 1) r3) 37 b) := RowN.upd (RowN.dig (hrow0.upd hv) hinf) rfl
          have u0 : ∀ i, i < 3 → uN (sN (uN (sN (fun _ => 0) 0 (fun j => cN (S (0 + j))) r) 3 D) 4 (fun j => dD (S (r + r2 + 1 + j)) + 1) r3) 37 b i = if i < r then cN (S i) else 0 := fun i hi => by
            rw [uN_n (by omega), sN_out (by omega), uN_n (by omega)]
            by_cases q : i < r
            · rw [sN_in (by omega) (by omega), if_pos q, show 0 + (i - 0) = i by omega]
            · rw [sN_out (by omega), if_neg q]
          have u3 : uN (sN (uN (sN (fun _ => 0) 0 (fun j => cN (S (0 + j))) r) 3 D) 4 (fun j => dD (S (r + r2 + 1 + j)) + 1) r3) 37 b 3 = D := by rw [uN_n (by omega), sN_out (by omega), uN_s]
          have uz : ∀ i, 8 ≤ i → i ≠ 37 → uN (sN (uN (sN (fun _ => 0) 0 (fun j => cN (S (0 + j))) r) 3 D) 4 (fun j => dD (S (r + r2 + 1 + j)) + 1) r3) 37 b i = 0 := fun i h1 h2 => by rw [uN_n h2, sN_out (by omega), uN_n (by omega), sN_out (by omega)]
          have u37 : uN (sN (uN (sN (fun _ => 0) 0 (fun j => cN (S (0 + j))) r) 3 D) 4 (fun j => dD (S (r + r2 + 1 + j)) + 1) r3) 37 b 37 = b := uN_s _ _ _
          have uj : ∀ j, j < 4 → uN (sN (uN (sN (fun _ => 0) 0 (fun j => cN (S (0 + j))) r) 3 D) 4 (fun j => dD (S (r + r2 + 1 + j)) + 1) r3) 37 b (4 + j) = if j < r3 then dD (S (r + r2 + 1 + j)) + 1 else 0 := fun j hj => by
            rw [uN_n (by omega)]
            by_cases q : j < r3
            · rw [sN_in (by omega) (by omega), if_pos q, show 4 + j - 4 = j by omega]
            · rw [sN_out (by omega), uN_n (by omega), sN_out (by omega), if_neg q]
          generalize uN (sN (uN (sN (fun _ => 0) 0 (fun j => cN (S (0 + j))) r) 3 D) 4 (fun j => dD (S (r + r2 + 1 + j)) + 1) r3) 37 b = a at hrow u0 u3 uz u37 uj
          have hb9 : r ≤ b ∧ b ≤ 13 := by
            rw [hb]; split <;> omega
          have hf2 : sFill S (r + r2 + 1) b 4 = lN (vL a 4 4) := by
            refine sFill_vL 4 (fun j hj => ?_)
            by_cases q : j < r3
            · rw [if_neg (by omega)] at hb
              rw [if_pos (by omega), uj j hj, if_pos q]
              exact ⟨hinf j q, rfl⟩
            · have : ¬ r + r2 + 1 + j < b := by
                rw [hb]; split <;> omega
              rw [if_neg this, uj j hj, if_neg q]
          have hcan : Can a 4 4 := by
            refine can_set 4 4 r3 hr3 (fun j hj => ?_) (fun j h1 h2 => ?_) (fun q => ?_)
            · rw [uj j (by omega), if_pos hj]
              have := (dig_dD (hinf j hj)).1
              omega
            · rw [uj j h2, if_neg (by omega)]
            · have := uj (r3 - 1) (by omega)
              rw [show 4 + (r3 - 1) = 4 + r3 - 1 by omega, if_pos (by omega), show r + r2 + 1 + (r3 - 1) = r + r2 + 1 + r3 - 1 by omega] at this
              rw [this]
              have := hlast q
              omega
          have n3 : rn a 3 0 = r := by
            refine rn_set 3 0 r hr (fun j hj => ?_) (fun q => ?_)
            · rw [Nat.zero_add, u0 j (by omega), if_pos hj]
              have := cap_cN (hin j hj)
              rw [Nat.zero_add] at this
              omega
            · rw [Nat.zero_add, u0 r q, if_neg (by omega)]
          have v3 := hlt1 a u0
          show ClsR 0 4 S (.inr (b, (nI V, nI r, (sFill S r (r + r2) (r + r2 - r)) * lN (10 ^ 4) + sFill S (r + r2 + 1) b 4, 0, 0, 0, 0, 0, 0, 0, 0, nI (1 + 1)), upd (upd (fun _ => 0) 0 (nI r)) 1 (nI (b - r)))) _
          rw [show r + r2 - r = r2 by omega, hf1, hf2, lN_mul, lN_add]
          generalize hcd : D * 10 ^ 4 + vL a 4 4 = cdv
          refine ⟨rfl, a, ⟨by rw [← v3], by rw [n3], by rw [u3, show D - 0 = D by omega, hcd], rfl, rfl, rfl, rfl, rfl, fun i h1 h2 => ?_, by rw [u3]; omega, hcan, fun i h1 h2 h4 => uz i (by omega) h4, by rw [u37]; omega, by rw [n3, u37]; omega, by rw [n3]; omega, fun _ => ?_, ?_⟩, hrow⟩
          · rw [u0 i (by omega)]
            by_cases q : i < r
            · rw [if_pos q]
              have := cap_cN (hin i q)
              rw [Nat.zero_add] at this
              omega
            · rw [if_neg q]; omega
          · rw [n3]
            show upd (upd (fun _ => 0) 0 (nI r)) 1 (nI (b - r)) 0 = _
            rw [pk_un (by omega), pk_us]
          · rw [n3, u37]
            show upd (upd (fun _ => 0) 0 (nI r)) 1 (nI (b - r)) 1 = _
            rw [pk_us]
theorem all0 {c : Nat} {S : Nat → Int32} (hS : ∀ q, c ≤ q → S q = -1) (w : Nat → Int32) : OutR 1 9 (sAllD S c) (mReads0 S c (clrW w 40)) := cls_then (k := 1) (by omega) (by omega) rfl hS (cls0 w)
theorem all1 {c : Nat} {S : Nat → Int32} (hS : ∀ q, c ≤ q → S q = -1) (w : Nat → Int32) : OutR 0 4 (sAllL S c) (mReads1 S c (clrW w 40)) := cls_then (k := 2) (by omega) (by omega) rfl hS (cls1 w)
