/-! ===== the parts behind the cutter ===== -/
theorem rel_up {e w : Nat} {x x' : CNv} {fl : Nat → Int32} {a a' : Nat → Nat} {v : Nat} (h : Rel e w x fl a) (hw : w ≤ 9) (ho : ∀ i, (i < 23 ∨ 34 < i) → a' i = a i)
    (k1 : x'.cl = x.cl) (k2 : x'.cc = x.cc) (k3 : x'.cd = x.cd) (k4 : x'.cap = x.cap) (k5 : x'.cut = x.cut) (k6 : x'.cutn = x.cutn) (klc : x'.lc = nI ((lnL e a).length + 1))
    (ky : x'.year = nI (a' 23)) (kv : x'.vol = nI (a' 24)) (kl : x'.voll = nI (a' 25)) (km : x'.mark = lN (v8 a' 8 26)) (kn : x'.markn = nI (rn a' 8 26))
    (b23 : a' 23 < 10000) (b24 : a' 24 < 10000) (b25 : a' 25 < 128) (b26 : ∀ i, 26 ≤ i → i < 26 + 8 → a' i < 128) (h34 : a' 34 = a 34 + 1) (hln : ln1 a' = ln1 a ++ [v]) :
    Rel e w x' (upd fl (lnL e a).length (nI v)) a' ∧ (lnL e a').length = (lnL e a).length + 1 := by
  obtain ⟨⟨x1, x2, x3, x4, x5, x6, x7, x8, a1, a2, a3, a4, a5, a6, a7, a8, a9, a10⟩, r1, r2, r3, r4, r5, r6, r7, r8, r9, r10, r11⟩ := h
  have e0 : ∀ i, i < 23 → a i = a' i := fun i hi => (ho i (Or.inl hi)).symm
  have n3 : rn a' 3 0 = rn a 3 0 := (rn_c 3 0 (fun i h1 h2 => e0 i (by omega))).symm
  have n6 : rn a' 6 17 = rn a 6 17 := (rn_c 6 17 (fun i h1 h2 => e0 i (by omega))).symm
  have v3 : v8 a' 3 0 = v8 a 3 0 := (v8_c 3 0 (fun i h1 h2 => e0 i (by omega))).symm
  have vw : vL a' w 4 = vL a w 4 := (vL_c w 4 (fun i h1 h2 => e0 i (by omega))).symm
  have v6 : vL a' 6 17 = vL a 6 17 := (vL_c 6 17 (fun i h1 h2 => e0 i (by omega))).symm
  have a37 : a' 37 = a 37 := ho 37 (Or.inr (by omega))
  have hL : lnL e a' = lnL e a ++ [v] := by
    rw [lnL, lnL, ln0, ln0, n3, a37, n6, hln]
    split <;> rfl
  have hlen : (lnL e a').length = (lnL e a).length + 1 := by rw [hL, List.length_append]; rfl
  have hL6 := lnL_l e a
  refine ⟨⟨⟨by rw [k1, x1, v3], by rw [k3, x2, vw, e0 3 (by omega)], by rw [k4, x3, e0 16 (by omega)], by rw [k5, x4, v6], ky, kv, kl, km, ?_⟩, by rw [k2, r1, n3], by rw [k6, r2, n6], kn, by rw [klc, hlen], ?_, by rw [hlen, h34]; omega, by rw [n3]; exact r7, ?_, by rw [a37]; exact r9, by rw [n3, a37]; exact r10, by rw [n6]; exact r11⟩, hlen⟩
  · refine ⟨fun i h1 h2 => by rw [← e0 i (by omega)]; exact a1 i h1 h2, by rw [← e0 3 (by omega)]; exact a2, can_c w 4 (fun i h1 h2 => e0 i (by omega)) a3, fun i h1 h2 => by rw [← e0 i (by omega)]; exact a4 i h1 h2, by rw [← e0 16 (by omega)]; exact a5, can_c 6 17 (fun i h1 h2 => e0 i (by omega)) a6, b23, b24, b25, b26⟩
  · intro i hi
    rw [hL]
    rw [hlen] at hi
    by_cases q : i = (lnL e a).length
    · subst q
      rw [pk_us]
      simp
    · rw [pk_un q, r5 i (by omega)]
      congr 1
      simp only [List.getD_eq_getElem?_getD]
      rw [List.getElem?_append_left (by omega)]
  · intro i hi
    by_cases q : i < 23 ∨ 34 < i
    · rw [ho i q]; exact r8 i hi
    · rcases (show i = 23 ∨ i = 24 ∨ i = 25 ∨ i = 34 ∨ (26 ≤ i ∧ i < 26 + 8) by omega) with rfl | rfl | rfl | rfl | q
      · omega
      · omega
      · omega
      · omega
      · have := b26 i q.1 q.2; omega
def OutR (e w : Nat) (o : ROut) (m : MOut) : Prop := match o, m with
  | .inl p, .inl q => p = q
  | .inr y, .inr v => y.1 = v.1 ∧ ∃ a, Rel e w y.2.1 y.2.2 a ∧ RowN v.2 a
  | _, _ => False
def Zl (l : Nat) (a : Nat → Nat) : Prop := (l < 1 → a 23 = 0) ∧ (l < 2 → a 24 = 0 ∧ a 25 = 0) ∧ (l < 3 → ∀ i, 26 ≤ i → i < 26 + 8 → a i = 0)
def StepR (e w c : Nat) (S : Nat → Int32) (l k : Nat) (o : ROut) (m : MOut) : Prop := match o, m with
  | .inl p, .inl q => p = q
  | .inl p, .inr v => p = v.1 ∧ p < c ∧ S p ≠ 32
  | .inr y, .inl q => y.1 = q ∧ q < c ∧ S q ≠ 32
  | .inr y, .inr v => y.1 = v.1 ∧ ∃ a, Rel e w y.2.1 y.2.2 a ∧ RowN (upd v.2 34 (v.2 34 + 1)) a ∧ (lnL e a).length = k + 1 ∧ Zl l a
theorem StepR.l {e w c : Nat} {S : Nat → Int32} {l k : Nat} {o : ROut} {m : MOut} {p : Nat} (h1 : o = .inl p) (h2 : m = .inl p) : StepR e w c S l k o m := by
  rw [h1, h2]; exact rfl
theorem StepR.b {e w c : Nat} {S : Nat → Int32} {l k : Nat} {o : ROut} {m : MOut} {p : Nat} {A : Nat → Int32} (h1 : o = .inl p) (h2 : m = .inr (p, A)) (h3 : p < c) (h4 : S p ≠ 32) : StepR e w c S l k o m := by
  rw [h1, h2]; exact ⟨rfl, h3, h4⟩
theorem StepR.c {e w c : Nat} {S : Nat → Int32} {l k : Nat} {o : ROut} {m : MOut} {p : Nat} {x : CNv} {fl : Nat → Int32} (h1 : o = .inr (p, x, fl)) (h2 : m = .inl p) (h3 : p < c) (h4 : S p ≠ 32) : StepR e w c S l k o m := by
  rw [h1, h2]; exact ⟨rfl, h3, h4⟩
theorem StepR.r {e w c : Nat} {S : Nat → Int32} {l k : Nat} {o : ROut} {m : MOut} {p : Nat} {x : CNv} {fl : Nat → Int32} {A : Nat → Int32} {a : Nat → Nat} (h1 : o = .inr (p, x, fl)) (h2 : m = .inr (p, A)) (h3 : Rel e w x fl a) (h4 : RowN (upd A 34 (A 34 + 1)) a) (h5 : (lnL e a).length = k + 1) (h6 : Zl l a) : StepR e w c S l k o m := by
  rw [h1, h2]; exact ⟨rfl, a, h3, h4, h5, h6⟩
theorem dig_lt {S : Nat → Int32} {c q : Nat} (hS : ∀ q, c ≤ q → S q = -1) (h : isDig (S q) = true) : q < c ∧ S q ≠ 32 := by
  refine ⟨Nat.lt_of_not_le fun z => ?_, fun z => ?_⟩
  · rw [hS q z] at h; revert h; decide
  · rw [z] at h; revert h; decide
theorem sml_lt {S : Nat → Int32} {c q : Nat} (hS : ∀ q, c ≤ q → S q = -1) (h : isSml (S q) = true) : q < c ∧ S q ≠ 32 := by
  refine ⟨Nat.lt_of_not_le fun z => ?_, fun z => ?_⟩
  · rw [hS q z] at h; revert h; decide
  · rw [z] at h; revert h; decide
theorem cap_lt {S : Nat → Int32} {c q : Nat} (hS : ∀ q, c ≤ q → S q = -1) (h : isCap (S q) = true) : q < c ∧ S q ≠ 32 := by
  refine ⟨Nat.lt_of_not_le fun z => ?_, fun z => ?_⟩
  · rw [hS q z] at h; revert h; decide
  · rw [z] at h; revert h; decide
theorem mRest_bad {S : Nat → Int32} {c p : Nat} (h : p < c) (h2 : S p ≠ 32) : ∀ t l A, mRest S c t l p A = .inl p
  | 0, _, _ => rfl
  | t + 1, l, A => by rw [mRest, if_pos h, if_neg h2]
theorem sRest_bad {S : Nat → Int32} {c p : Nat} (h : p < c) (h2 : S p ≠ 32) : ∀ t l k x fl, sRest S c t l p k x fl = .inl p
  | 0, _, _, _, _ => by rw [sRest, if_pos h]
  | t + 1, l, k, x, fl => by
    have e : sSpace S p = (false, p) := by rw [sSpace, if_neg h2]
    rw [sRest, if_pos h, e, if_pos rfl]
theorem sNumber_48 {S : Nat → Int32} {p m n : Nat} (h : S p = 48) : sNumber S p m n = (false, p) := by rw [sNumber, if_pos h]
theorem sNumber_n {S : Nat → Int32} {p m n : Nat} (h : ¬ S p = 48) : sNumber S p m n = (decide (m ≤ runD S n p) && !isDig (S (p + runD S n p)), p + runD S n p) := by rw [sNumber, if_neg h, sDigits]
theorem nI1 (n : Nat) : nI n + 1 = nI (n + 1) := by rw [show (1 : Int32) = nI 1 from rfl, nI_add]
theorem year_step {e w c : Nat} {S : Nat → Int32} {P : Nat} {x : CNv} {fl A : Nat → Int32} {a : Nat → Nat} (hw : w ≤ 9) (hS : ∀ q, c ≤ q → S q = -1) (h : Rel e w x fl a) (hA : RowN A a) (z : Zl 0 a) (hd : isDig (S P) = true) : StepR e w c S 1 (lnL e a).length (sYear S P (lnL e a).length x fl) (mYear S P A) := by
  by_cases h48 : S P = 48
  · exact StepR.l (p := P) (by rw [sYear, sNumber_48 h48, if_pos rfl]) (by rw [mYear, if_pos h48])
  have hr := runD_le S 4 P
  have hin := runD_in S 4 P
  generalize hrr : runD S 4 P = r at hr hin
  by_cases h4 : r < 4
  · exact StepR.l (p := P + r) (by rw [sYear, sNumber_n h48, hrr, if_pos (by simp; omega)]) (by rw [mYear, if_neg h48, hrr, if_pos h4])
  obtain rfl : r = 4 := by omega
  have m4 : mYear S P A = .inr (P + 4, upd A 23 (sVal S P 4)) := by rw [mYear, if_neg h48, hrr, if_neg h4]
  cases h5 : isDig (S (P + 4)) with
  | true =>
    obtain ⟨q1, q2⟩ := dig_lt hS h5
    exact StepR.b (p := P + 4) (by rw [sYear, sNumber_n h48, hrr, h5, if_pos (by simp)]) m4 q1 q2
  | false =>
    have hn : sNumber S P 4 4 = (true, P + 4) := by rw [sNumber_n h48, hrr, h5]; rfl
    have hlt := dv_lt 4 hin
    have hge := dv_ge (dig_dD0 hd h48) 3
    have hf := sFill_dv (b := P + 4) 4 (fun j hj => ⟨hin j hj, by omega⟩)
    have hv := sVal_dv 4 hin
    generalize hD : dv S P 4 = D at hlt hge hf hv
    have a26 : a 26 = 0 := z.2.2 (by omega) 26 (by omega) (by omega)
    have q23 : uN (uN a 23 D) 34 (a 34 + 1) 23 = D := by rw [uN_n (by omega), uN_s]
    have q24 : uN (uN a 23 D) 34 (a 34 + 1) 24 = a 24 := by rw [uN_n (by omega), uN_n (by omega)]
    have q26 : uN (uN a 23 D) 34 (a 34 + 1) 26 = a 26 := by rw [uN_n (by omega), uN_n (by omega)]
    have hup := rel_up (a' := uN (uN a 23 D) 34 (a 34 + 1)) (v := 4) (x' := (x.cl, x.cc, x.cd, x.cap, x.cut, x.cutn, (sFill S P (P + 4) 4).toInt32, x.vol, x.voll, x.mark, x.markn, nI ((lnL e a).length + 1))) h hw
      (fun i hi => by rw [uN_n (by omega), uN_n (by omega)]) rfl rfl rfl rfl rfl rfl rfl
      (by show (sFill S P (P + 4) 4).toInt32 = _; rw [hf, uN_n (by omega), uN_s]; exact lN_i _)
      (by rw [uN_n (by omega), uN_n (by omega)]; exact h.1.2.2.2.2.2.1)
      (by rw [uN_n (by omega), uN_n (by omega)]; exact h.1.2.2.2.2.2.2.1)
      (by rw [← v8_c (a := a) 8 26 (fun i h1 h2 => by rw [uN_n (by omega), uN_n (by omega)])]; exact h.1.2.2.2.2.2.2.2.1)
      (by rw [← rn_c (a := a) 8 26 (fun i h1 h2 => by rw [uN_n (by omega), uN_n (by omega)])]; exact h.2.2.2.1)
      (by rw [uN_n (by omega), uN_s]; omega)
      (by rw [uN_n (by omega), uN_n (by omega)]; exact h.1.2.2.2.2.2.2.2.2.2.2.2.2.2.2.2.1)
      (by rw [uN_n (by omega), uN_n (by omega)]; exact h.1.2.2.2.2.2.2.2.2.2.2.2.2.2.2.2.2.1)
      (fun i h1 h2 => by rw [uN_n (by omega), uN_n (by omega)]; exact h.1.2.2.2.2.2.2.2.2.2.2.2.2.2.2.2.2.2 i h1 h2)
      (uN_s _ _ _)
      (by
        simp only [ln1, ln2, ln3]
        rw [q23, q24, q26, a26, (z.2.1 (by omega)).1, z.1 (by omega), if_pos (by omega)]
        rfl)
    refine StepR.r (a := uN (uN a 23 D) 34 (a 34 + 1)) (p := P + 4) (A := upd A 23 (sVal S P 4)) ?_ m4 hup.1 ?_ hup.2 ?_
    · rw [sYear, hn, if_neg (by simp)]
      show Sum.inr (P + 4, _, upd fl (lnL e a).length (nI (P + 4 - P))) = _
      rw [show P + 4 - P = 4 by omega]
    · refine RowN.upd (hA.upd hv) ?_
      rw [pk_un (by omega), hA 34 (by omega), nI1]
    · refine ⟨fun q => absurd q (by omega), fun _ => ?_, fun _ i h1 h2 => ?_⟩
      · rw [uN_n (by omega), uN_n (by omega), uN_n (by omega), uN_n (by omega)]; exact z.2.1 (by omega)
      · rw [uN_n (by omega), uN_n (by omega)]; exact z.2.2 (by omega) i h1 h2
theorem dcN_r {S : Nat → Int32} {q : Nat} (h0 : 1 ≤ dD (S q)) {r : Nat} (h1 : 0 < r) (h4 : r ≤ 4) (hin : ∀ j, j < r → isDig (S (q + j)) = true) : dcN (dv S q r) = r := by
  have hlt := dv_lt r hin
  have hge := dv_ge h0 (r - 1)
  rw [show r - 1 + 1 = r by omega] at hge
  generalize dv S q r = D at hlt hge
  rw [dcN]
  rcases (show r = 1 ∨ r = 2 ∨ r = 3 ∨ r = 4 by omega) with rfl | rfl | rfl | rfl
  · rw [if_neg (by omega), if_neg (by omega), if_neg (by omega)]
  · rw [if_neg (by omega), if_neg (by omega), if_pos (by omega)]
  · rw [if_neg (by omega), if_pos (by omega)]
  · rw [if_pos (by omega)]
theorem vol_up {e w : Nat} {x : CNv} {fl A : Nat → Int32} {a : Nat → Nat} (hw : w ≤ 9) (h : Rel e w x fl a) (z : Zl 1 a) {D t r : Nat} {xv xl : Int32} (hD0 : 0 < D) (hD : D < 10000) (ht : t < 128) (hr : dcN D = r) (kv : xv = nI D) (kl : xl = nI t) :
    Rel e w (x.cl, x.cc, x.cd, x.cap, x.cut, x.cutn, x.year, xv, xl, x.mark, x.markn, nI ((lnL e a).length + 1)) (upd fl (lnL e a).length (nI (2 + r + if 0 < t then 1 else 0))) (uN (uN (uN a 24 D) 25 t) 34 (a 34 + 1)) ∧ (lnL e (uN (uN (uN a 24 D) 25 t) 34 (a 34 + 1))).length = (lnL e a).length + 1 ∧ Zl 2 (uN (uN (uN a 24 D) 25 t) 34 (a 34 + 1)) := by
  have a26 : a 26 = 0 := z.2.2 (by omega) 26 (by omega) (by omega)
  have u : ∀ i, i ≠ 24 → i ≠ 25 → i ≠ 34 → uN (uN (uN a 24 D) 25 t) 34 (a 34 + 1) i = a i := fun i h1 h2 h3 => by rw [uN_n h3, uN_n h2, uN_n h1]
  have u24 : uN (uN (uN a 24 D) 25 t) 34 (a 34 + 1) 24 = D := by rw [uN_n (by omega), uN_n (by omega), uN_s]
  have u25 : uN (uN (uN a 24 D) 25 t) 34 (a 34 + 1) 25 = t := by rw [uN_n (by omega), uN_s]
  have u34 : uN (uN (uN a 24 D) 25 t) 34 (a 34 + 1) 34 = a 34 + 1 := uN_s _ _ _
  generalize uN (uN (uN a 24 D) 25 t) 34 (a 34 + 1) = a' at u u24 u25 u34
  have hup := rel_up (a' := a') (v := 2 + r + if 0 < t then 1 else 0) (x' := (x.cl, x.cc, x.cd, x.cap, x.cut, x.cutn, x.year, xv, xl, x.mark, x.markn, nI ((lnL e a).length + 1))) h hw
      (fun i hi => u i (by omega) (by omega) (by omega)) rfl rfl rfl rfl rfl rfl rfl
      (by rw [u 23 (by omega) (by omega) (by omega)]; exact h.1.2.2.2.2.1)
      (by rw [u24]; exact kv)
      (by rw [u25]; exact kl)
      (by rw [← v8_c (a := a) 8 26 (fun i h1 h2 => (u i (by omega) (by omega) (by omega)).symm)]; exact h.1.2.2.2.2.2.2.2.1)
      (by rw [← rn_c (a := a) 8 26 (fun i h1 h2 => (u i (by omega) (by omega) (by omega)).symm)]; exact h.2.2.2.1)
      (by rw [u 23 (by omega) (by omega) (by omega)]; exact h.1.2.2.2.2.2.2.2.2.2.2.2.2.2.2.1)
      (by rw [u24]; exact hD)
      (by rw [u25]; exact ht)
      (fun i h1 h2 => by rw [u i (by omega) (by omega) (by omega)]; exact h.1.2.2.2.2.2.2.2.2.2.2.2.2.2.2.2.2.2 i h1 h2)
      u34
      (by
        simp only [ln1, ln2, ln3]
        rw [u24, u25, u 23 (by omega) (by omega) (by omega), u 26 (by omega) (by omega) (by omega), a26, (z.2.1 (by omega)).1, hr, if_pos hD0]
        simp)
  refine ⟨hup.1, hup.2, fun q => absurd q (by omega), fun q => absurd q (by omega), fun _ i h1 h2 => ?_⟩
  rw [u i (by omega) (by omega) (by omega)]
  exact z.2.2 (by omega) i h1 h2
theorem vol_step {e w c : Nat} {S : Nat → Int32} {P : Nat} {x : CNv} {fl A : Nat → Int32} {a : Nat → Nat} (hw : w ≤ 9) (h : Rel e w x fl a) (hA : RowN A a) (z : Zl 1 a) : StepR e w c S 2 (lnL e a).length (sVolume S P (lnL e a).length x fl) (mVolume S P A) := by
  by_cases h48 : S (P + 2) = 48
  · exact StepR.l (p := P + 2) (by rw [sVolume, sNumber_48 h48, if_pos rfl]) (by rw [mVolume, mNumber, if_pos h48]; rfl)
  have hr := runD_le S 4 (P + 2)
  have hin := runD_in S 4 (P + 2)
  generalize hrr : runD S 4 (P + 2) = r at hr hin
  cases h5 : isDig (S (P + 2 + r)) with
  | true => exact StepR.l (p := P + 2 + r) (by rw [sVolume, sNumber_n h48, hrr, h5, if_pos (by simp)]) (by rw [mVolume, mNumber, if_neg h48, hrr, if_pos h5]; rfl)
  | false =>
    by_cases h0 : r = 0
    · subst h0
      exact StepR.l (p := P + 2) (by rw [sVolume, sNumber_n h48, hrr, if_pos (by simp)]) (by rw [mVolume, mNumber, if_neg h48, hrr, if_neg (by rw [h5]; decide), if_pos rfl]; rfl)
    have hn : sNumber S (P + 2) 1 4 = (true, P + 2 + r) := by
      rw [sNumber_n h48, hrr, h5]
      have : decide (1 ≤ r) = true := decide_eq_true (by omega)
      rw [this]; rfl
    have m4 : mVolume S P A = if isSml (S (P + 2 + r)) = true then .inr (P + 2 + r + 1, upd (upd A 24 (sVal S (P + 2) r)) 25 (S (P + 2 + r))) else .inr (P + 2 + r, upd A 24 (sVal S (P + 2) r)) := by
      rw [mVolume, mNumber, if_neg h48, hrr, if_neg (by rw [h5]; decide), if_neg h0]
      rfl
    have hd : 1 ≤ dD (S (P + 2)) := dig_dD0 (hin 0 (by omega)) h48
    have hdc := dcN_r hd (by omega) hr hin
    have hlt := dv_lt r hin
    have hge := dv_ge hd (r - 1)
    rw [show r - 1 + 1 = r by omega] at hge
    have hf := sFill_dv (b := P + 2 + r) r (fun j hj => ⟨hin j hj, by omega⟩)
    have hv := sVal_dv r hin
    generalize hD : dv S (P + 2) r = D at hdc hlt hge hf hv
    have p4 : 10 ^ r ≤ 10 ^ 4 := Nat.pow_le_pow_right (by decide) hr
    have p0 : 0 < 10 ^ (r - 1) := Nat.pow_pos (by decide)
    have hsv : (sFill S (P + 2) (P + 2 + r) (P + 2 + r - (P + 2))).toInt32 = nI D := by
      rw [show P + 2 + r - (P + 2) = r by omega, hf]; exact lN_i _
    cases h6 : isSml (S (P + 2 + r)) with
    | true =>
      have hc := sml_cN h6
      obtain ⟨g1, g2, g3⟩ := vol_up (A := A) hw h z (D := D) (t := cN (S (P + 2 + r))) (by omega) (by omega) (by omega) hdc hsv hc.2.2
      rw [h6, if_pos rfl] at m4
      refine StepR.r (p := P + 2 + r + 1) (A := upd (upd A 24 (sVal S (P + 2) r)) 25 (S (P + 2 + r))) ?_ m4 g1 ?_ g2 g3
      · rw [sVolume, hn]
        show (if isSml (S (P + 2 + r)) = true then _ else _) = _
        rw [h6, if_pos rfl, if_pos (by omega)]
        show Sum.inr (P + 2 + r + 1, _, upd fl (lnL e a).length (nI (P + 2 + r + 1 - P))) = _
        rw [show P + 2 + r + 1 - P = 2 + r + 1 by omega]
      · refine RowN.upd ((hA.upd hv).upd hc.2.2) ?_
        rw [pk_un (by omega), pk_un (by omega), hA 34 (by omega), nI1]
    | false =>
      have vl0 : x.voll = nI 0 := by rw [← (z.2.1 (by omega)).2]; exact h.1.2.2.2.2.2.2.1
      obtain ⟨g1, g2, g3⟩ := vol_up (A := A) hw h z (D := D) (t := 0) (by omega) (by omega) (by omega) hdc hsv vl0
      rw [h6, if_neg (by decide)] at m4
      refine StepR.r (p := P + 2 + r) (A := upd A 24 (sVal S (P + 2) r)) ?_ m4 g1 ?_ g2 g3
      · rw [sVolume, hn]
        show (if isSml (S (P + 2 + r)) = true then _ else _) = _
        rw [h6, if_neg (by decide), if_neg (by omega)]
        show Sum.inr (P + 2 + r, _, upd fl (lnL e a).length (nI (P + 2 + r - P))) = _
        rw [show P + 2 + r - P = 2 + r + 0 by omega]
      · have : RowN (upd A 24 (sVal S (P + 2) r)) (uN (uN a 24 D) 25 0) := by
          intro i hi
          by_cases q : i = 25
          · subst q
            rw [uN_s, pk_un (by omega), hA 25 (by omega), (z.2.1 (by omega)).2]
          · rw [uN_n q]; exact hA.upd hv i hi
        refine RowN.upd this ?_
        rw [pk_un (by omega), hA 34 (by omega), nI1]
set_option maxRecDepth 100000 in
theorem mark_step {e w c : Nat} {S : Nat → Int32} {P : Nat} {x : CNv} {fl A : Nat → Int32} {a : Nat → Nat} (hw : w ≤ 9) (hS : ∀ q, c ≤ q → S q = -1) (h : Rel e w x fl a) (hA : RowN A a) (z : Zl 2 a) (hd : isSml (S P) = true) : StepR e w c S 3 (lnL e a).length (sMark S P (lnL e a).length x fl) (mMark S P A) := by
  have hr := runP_le isSml S 8 P
  have hin := runP_in isSml S 8 P
  generalize hrr : runP isSml S 8 P = r at hr hin
  have h0 : 0 < r := by
    rcases Nat.eq_zero_or_pos r with q | q
    · have := runP_end isSml S 8 P (by omega)
      rw [hrr, q, Nat.add_zero, hd] at this
      cases this
    · exact q
  have z26 := z.2.2 (by omega)
  have u : ∀ i, (i < 26 ∨ 34 < i) → uN (sN a 26 (fun j => cN (S (P + j))) r) 34 (a 34 + 1) i = a i := fun i hi => by rw [uN_n (by omega), sN_out (by omega)]
  have uj : ∀ j, j < 8 → uN (sN a 26 (fun j => cN (S (P + j))) r) 34 (a 34 + 1) (26 + j) = if j < r then cN (S (P + j)) else 0 := fun j hj => by
    rw [uN_n (by omega)]
    by_cases q : j < r
    · rw [sN_in (by omega) (by omega), if_pos q, show 26 + j - 26 = j by omega]
    · rw [sN_out (by omega), if_neg q, z26 _ (by omega) (by omega)]
  have u34 : uN (sN a 26 (fun j => cN (S (P + j))) r) 34 (a 34 + 1) 34 = a 34 + 1 := uN_s _ _ _
  have urow : RowN (upd (rowW A 26 S P r) 34 (rowW A 26 S P r 34 + 1)) (uN (sN a 26 (fun j => cN (S (P + j))) r) 34 (a 34 + 1)) := by
    refine RowN.upd ?_ ?_
    · intro i hi
      rw [rowW]
      by_cases q : 26 ≤ i ∧ i < 26 + r
      · rw [if_pos q, sN_in q.1 q.2]
        exact (sml_cN (hin (i - 26) (by omega))).2.2
      · rw [if_neg q, sN_out (by omega)]; exact hA i hi
    · rw [rowW, if_neg (by omega), hA 34 (by omega), nI1]
  generalize uN (sN a 26 (fun j => cN (S (P + j))) r) 34 (a 34 + 1) = a' at u uj u34 urow
  have hmk := mkS_eq hrr uj 8 (by omega)
  have rn8 : rn a' 8 26 = r := by
    refine rn_set 8 26 r hr (fun j hj => ?_) (fun q => ?_)
    · rw [uj j (by omega), if_pos hj]
      have := sml_cN (hin j hj)
      omega
    · rw [uj r q, if_neg (by omega)]
  have b26 : ∀ i, 26 ≤ i → i < 26 + 8 → a' i < 128 := fun i h1 h2 => by
    have := uj (i - 26) (by omega)
    rw [show 26 + (i - 26) = i by omega] at this
    rw [this]
    by_cases q : i - 26 < r
    · rw [if_pos q]
      have := sml_cN (hin (i - 26) q)
      omega
    · rw [if_neg q]; omega
  obtain ⟨mv, hmv⟩ : ∃ mv, mv = lN (v8 a' 8 26) := ⟨_, rfl⟩
  rw [← hmv, show min 8 r = r by omega] at hmk
  have hs : sMark S P (lnL e a).length x fl = .inr (P + r, (x.cl, x.cc, x.cd, x.cap, x.cut, x.cutn, x.year, x.vol, x.voll, mv, nI r, nI ((lnL e a).length + 1)), upd fl (lnL e a).length (nI r)) := by
    rw [sMark, hmk, if_neg (by show ¬ P + r ≤ P; omega)]
    show Sum.inr (P + r, (x.cl, x.cc, x.cd, x.cap, x.cut, x.cutn, x.year, x.vol, x.voll, mv, nI (P + r - P), nI ((lnL e a).length + 1)), upd fl (lnL e a).length (nI (P + r - P))) = _
    rw [show P + r - P = r by omega]
  cases h5 : isSml (S (P + r)) with
  | true =>
    obtain ⟨q1, q2⟩ := sml_lt hS h5
    exact StepR.c hs (by rw [mMark, hrr, if_pos h5]) q1 q2
  | false =>
    have m4 : mMark S P A = .inr (P + r, rowW A 26 S P r) := by rw [mMark, hrr, if_neg (by rw [h5]; decide)]
    have a1 : a' 26 = cN (S P) := by have := uj 0 (by omega); rwa [if_pos h0] at this
    have c1 := sml_cN hd
    have hup := rel_up (a' := a') (v := r) (x' := (x.cl, x.cc, x.cd, x.cap, x.cut, x.cutn, x.year, x.vol, x.voll, mv, nI r, nI ((lnL e a).length + 1))) h hw
      (fun i hi => u i (by omega)) rfl rfl rfl rfl rfl rfl rfl
      (by rw [u 23 (by omega)]; exact h.1.2.2.2.2.1)
      (by rw [u 24 (by omega)]; exact h.1.2.2.2.2.2.1)
      (by rw [u 25 (by omega)]; exact h.1.2.2.2.2.2.2.1)
      hmv
      (by rw [rn8])
      (by rw [u 23 (by omega)]; exact h.1.2.2.2.2.2.2.2.2.2.2.2.2.2.2.1)
      (by rw [u 24 (by omega)]; exact h.1.2.2.2.2.2.2.2.2.2.2.2.2.2.2.2.1)
      (by rw [u 25 (by omega)]; exact h.1.2.2.2.2.2.2.2.2.2.2.2.2.2.2.2.2.1)
      b26 u34
      (by
        simp only [ln1, ln2, ln3]
        rw [u 23 (by omega), u 24 (by omega), u 25 (by omega), rn8, a1, z26 26 (by omega) (by omega), if_pos (show 0 < cN (S P) by omega), if_neg (show ¬ 0 < 0 by omega), List.append_nil, List.append_assoc])
    exact StepR.r hs m4 hup.1 urow hup.2 ⟨fun q => absurd q (by omega), fun q => absurd q (by omega), fun q => absurd q (by omega)⟩
theorem beg_eq (S : Nat → Int32) (p : Nat) : sBegins S p = if mBeg S p = 0 then -1 else nI (mBeg S p + 1) := by
  rw [sBegins, mBeg]
  split
  · rfl
  · split
    · rfl
    · split <;> rfl
theorem step_then {e w c : Nat} {S : Nat → Int32} {l k t : Nat} {o : ROut} {m : MOut} (hs : StepR e w c S l k o m) (ih : ∀ p x fl A a, Rel e w x fl a → RowN A a → Zl l a → OutR e w (sRest S c t (nI (l + 1)) p (lnL e a).length x fl) (mRest S c t l p A)) : OutR e w (oThen o (fun q y g => sRest S c t (nI (l + 1)) q (k + 1) y g)) (mThen m (fun q w' => mRest S c t l q (upd w' 34 (w' 34 + 1)))) := by
  cases o with
  | inl p =>
    cases m with
    | inl q => exact hs
    | inr v =>
      obtain ⟨h1, h2, h3⟩ := hs
      show OutR e w (.inl p) (mRest S c t l v.1 (upd v.2 34 (v.2 34 + 1)))
      rw [← h1, mRest_bad h2 h3]
      exact rfl
  | inr y =>
    cases m with
    | inl q =>
      obtain ⟨h1, h2, h3⟩ := hs
      show OutR e w (sRest S c t (nI (l + 1)) y.1 (k + 1) y.2.1 y.2.2) (.inl q)
      rw [h1, sRest_bad h2 h3]
      exact rfl
    | inr v =>
      obtain ⟨h1, a, h2, h3, h4, h5⟩ := hs
      show OutR e w (sRest S c t (nI (l + 1)) y.1 (k + 1) y.2.1 y.2.2) (mRest S c t l v.1 (upd v.2 34 (v.2 34 + 1)))
      rw [h1, ← h4]
      exact ih _ _ _ _ a h2 h3 h5
theorem Zl.up {l l' : Nat} {a : Nat → Nat} (z : Zl l a) (h : l ≤ l') : Zl l' a := ⟨fun q => z.1 (by omega), fun q => z.2.1 (by omega), fun q => z.2.2 (by omega)⟩
theorem mBeg_1 {S : Nat → Int32} {p : Nat} (h : mBeg S p = 1) : isDig (S p) = true := by
  by_cases q : isDig (S p) = true
  · exact q
  · rw [mBeg, if_neg q] at h
    split at h
    · omega
    · split at h <;> omega
theorem mBeg_3 {S : Nat → Int32} {p : Nat} (h : mBeg S p = 3) : isSml (S p) = true := by
  rw [mBeg] at h
  split at h
  · omega
  · split at h
    · omega
    · split at h
      · assumption
      · omega
theorem rest_eq {e w c : Nat} {S : Nat → Int32} (hw : w ≤ 9) (hS : ∀ q, c ≤ q → S q = -1) : ∀ t l p x fl A a, 4 ≤ l + t → l ≤ 3 → Rel e w x fl a → RowN A a → Zl l a → OutR e w (sRest S c t (nI (l + 1)) p (lnL e a).length x fl) (mRest S c t l p A)
  | 0, l, _, _, _, _, _, h1, h2, _, _, _ => absurd h1 (by omega)
  | t + 1, l, p, x, fl, A, a, h1, h2, h, hA, z => by
    rw [sRest, mRest]
    by_cases hp : p < c
    · rw [if_pos hp, if_pos hp]
      by_cases h32 : S p = 32
      · have e1 : sSpace S p = (true, p + 1) := by rw [sSpace, if_pos h32]
        rw [e1, if_pos h32, if_neg (by simp)]
        show OutR e w (if sBegins S (p + 1) ≤ nI (l + 1) then .inl (p + 1) else oThen (if sBegins S (p + 1) = 2 then sYear S (p + 1) (lnL e a).length x fl else if sBegins S (p + 1) = 3 then sVolume S (p + 1) (lnL e a).length x fl else sMark S (p + 1) (lnL e a).length x fl) (fun q y g => sRest S c t (sBegins S (p + 1)) q ((lnL e a).length + 1) y g)) _
        have hb := mBeg_le S (p + 1)
        have hbe := beg_eq S (p + 1)
        by_cases hB : mBeg S (p + 1) ≤ l
        · have : sBegins S (p + 1) ≤ nI (l + 1) := by
            rw [hbe]
            by_cases q : mBeg S (p + 1) = 0
            · rw [if_pos q, Int32.le_iff_toInt_le, nI_toInt (by omega)]
              show (-1 : Int) ≤ _
              omega
            · rw [if_neg q, nI_leI (by omega) (by omega)]; omega
          rw [if_pos this, if_pos hB]
          exact rfl
        · have q0 : ¬ mBeg S (p + 1) = 0 := by omega
          rw [if_neg q0] at hbe
          rw [if_neg hB, hbe, if_neg (by rw [nI_leI (by omega) (by omega)]; omega)]
          rcases (show mBeg S (p + 1) = 1 ∨ mBeg S (p + 1) = 2 ∨ mBeg S (p + 1) = 3 by omega) with q | q | q
          · rw [q] at hB ⊢
            rw [if_pos (show nI (1 + 1) = 2 from rfl), if_pos rfl]
            exact step_then (year_step hw hS h hA (z.up (by omega)) (mBeg_1 q)) (fun p x fl A a h3 h4 h5 => rest_eq hw hS t 1 p x fl A a (by omega) (by omega) h3 h4 h5)
          · rw [q] at hB ⊢
            rw [if_neg (show ¬ nI (2 + 1) = 2 by decide), if_pos (show nI (2 + 1) = 3 from rfl), if_neg (by decide), if_pos rfl]
            exact step_then (vol_step hw h hA (z.up (by omega))) (fun p x fl A a h3 h4 h5 => rest_eq hw hS t 2 p x fl A a (by omega) (by omega) h3 h4 h5)
          · rw [q] at hB ⊢
            rw [if_neg (show ¬ nI (3 + 1) = 2 by decide), if_neg (show ¬ nI (3 + 1) = 3 by decide), if_neg (by decide), if_neg (by decide)]
            exact step_then (mark_step hw hS h hA (z.up (by omega)) (mBeg_3 q)) (fun p x fl A a h3 h4 h5 => rest_eq hw hS t 3 p x fl A a (by omega) (by omega) h3 h4 h5)
      · have e1 : sSpace S p = (false, p) := by rw [sSpace, if_neg h32]
        rw [e1, if_pos rfl, if_neg h32]
        exact rfl
    · rw [if_neg hp, if_neg hp]
      exact ⟨rfl, a, h, hA⟩
