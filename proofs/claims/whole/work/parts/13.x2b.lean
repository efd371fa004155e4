theorem ShOk.kept {h h1 : qH} {c q : Nat} {N : Nat → Option Nat} {X : Nat → CNv} {e : Nat × vp_A} (hok : ShOk h c N X) (gq : h q = some (.inl e)) (o : ∀ b : Nat, b ≠ q → h1 b = h b) : ShOk h1 c N X := fun i hi => by
  obtain ⟨a, ln, e1, e2⟩ := hok i hi
  exact ⟨a, ln, e1, by rw [o a (ne_of_cells e2 gq (by simp))]; exact e2⟩
/-- the places above k up to c have moved up by one -/
def shU {α : Type} (f : Nat → α) (k c : Nat) : Nat → α := fun i => if k < i ∧ i ≤ c then f (i - 1) else f i
/-- a new one at j -/
def insF {α : Type} (f : Nat → α) (j c : Nat) (x : α) : Nat → α := fun i => if i = j then x else if j < i ∧ i ≤ c then f (i - 1) else f i
/-- the places from p up to k have moved down by one -/
def shD {α : Type} (f : Nat → α) (p k : Nat) : Nat → α := fun i => if p ≤ i ∧ i < k then f (i + 1) else f i
theorem shU_0 {α : Type} (f : Nat → α) (c : Nat) : shU f c c = f := by
  funext i
  simp only [shU]
  rw [if_neg (by omega)]
theorem shD_0 {α : Type} (f : Nat → α) (p : Nat) : shD f p p = f := by
  funext i
  simp only [shD]
  rw [if_neg (by omega)]
theorem shU_q {f : Nat → Option Nat} {k c : Nat} (hk : k < c) : va_up (shU f (k + 1) c) (k + 1) (shU f (k + 1) c k) = shU f k c := by
  funext i
  simp only [va_up, shU]
  by_cases h1 : i = k + 1
  · subst h1
    rw [if_pos rfl, if_neg (by omega), if_pos (by omega)]
    rfl
  · rw [if_neg h1]
    by_cases h2 : k < i ∧ i ≤ c
    · rw [if_pos (by omega), if_pos h2]
    · rw [if_neg (by omega), if_neg h2]
theorem shU_i {f : Nat → Int32} {k c : Nat} (hk : k < c) : upd (shU f (k + 1) c) (k + 1) (shU f (k + 1) c k) = shU f k c := by
  funext i
  simp only [upd, shU]
  by_cases h1 : i = k + 1
  · subst h1
    rw [if_pos rfl, if_neg (by omega), if_pos (by omega)]
    rfl
  · rw [if_neg h1]
    by_cases h2 : k < i ∧ i ≤ c
    · rw [if_pos (by omega), if_pos h2]
    · rw [if_neg (by omega), if_neg h2]
theorem ins_q {f : Nat → Option Nat} {j c : Nat} {x : Option Nat} : va_up (shU f j c) j x = insF f j c x := rfl
theorem ins_i {f : Nat → Int32} {j c : Nat} {x : Int32} : upd (shU f j c) j x = insF f j c x := rfl
theorem shD_q {f : Nat → Option Nat} {p k : Nat} (hk : p ≤ k) : va_up (shD f p k) k (shD f p k (k + 1)) = shD f p (k + 1) := by
  funext i
  simp only [va_up, shD]
  by_cases h1 : i = k
  · subst h1
    rw [if_pos rfl, if_neg (by omega), if_pos (by omega)]
  · rw [if_neg h1]
    by_cases h2 : p ≤ i ∧ i < k
    · rw [if_pos (by omega), if_pos (by omega)]
    · rw [if_neg (by omega), if_neg (by omega)]
theorem shD_i {f : Nat → Int32} {p k : Nat} (hk : p ≤ k) : upd (shD f p k) k (shD f p k (k + 1)) = shD f p (k + 1) := by
  funext i
  simp only [upd, shD]
  by_cases h1 : i = k
  · subst h1
    rw [if_pos rfl, if_neg (by omega), if_pos (by omega)]
  · rw [if_neg h1]
    by_cases h2 : p ≤ i ∧ i < k
    · rw [if_pos (by omega), if_pos (by omega)]
    · rw [if_neg (by omega), if_neg (by omega)]
set_option maxHeartbeats 4000000 in
set_option maxRecDepth 100000 in
theorem c_insertFull (G : qG) {h : qH} {k0 nb rc c : Nat} {a : Nat} (p rec : Int32) (hc : c = 60) (gk : h k0 = some (shCell nb rc (nI c))) : qMet G M_X2_insert [.ref k0, .int p, .ref a, .int rec] h (qI (fun v h1 => h1 = h ∧ v = 0)) := by
  refine qMet.of (by decide) (Nat.le_of_ble_eq_true rfl) rfl ?_
  refine QP.locsE (L1 := [some (.ref k0), some (.int (p)), some (.ref a), some (.int (rec)), none]) rfl ?_
  refine qp_aload_n dX2_insert_0 rfl ?_
  refine qp_getf dX2_insert_1 fX2_21 gk rfl ?_
  refine qp_bipush (v := 60) dX2_insert_4 (by decide) ?_
  refine qp_icmp_ge 21 dX2_insert_6 (by decide) (fun c_6 => ?_) (fun c_6 => absurd ((nI_leI (a := 60) (by decide) (by omega)).mpr (by omega)) c_6)
  refine qp_iconst (v := 0) dX2_insert_21 (by decide) ?_
  exact qr_z dX2_insert_22 rfl nar_0 rfl rfl ⟨rfl, rfl⟩
theorem shU_at {α : Type} {f : Nat → α} {k c : Nat} (hk : 0 < k) : shU f k c (k - 1) = f (k - 1) := by
  simp only [shU]
  rw [if_neg (by omega)]
theorem shD_at {α : Type} {f : Nat → α} {p k : Nat} : shD f p k (k + 1) = f (k + 1) := by
  simp only [shD]
  rw [if_neg (by omega)]
set_option maxHeartbeats 4000000 in
set_option maxRecDepth 100000 in
theorem l_insert {G : qG} {h0 : qH} {k0 nb rc c a ln j : Nat} {N : Nat → Option Nat} {R : Nat → Int32} {X : Nat → CNv} {y : CNv} {rec : Int32} (nk : G.2.1 ≤ k0) (nn : G.2.1 ≤ nb) (nr : G.2.1 ≤ rc) (hc : c < 60) : ∀ (n k : Nat) (h : qH), k < j + n → j ≤ k → k ≤ c → h k0 = some (shCell nb rc (nI c)) → h nb = some (nbCell (shU N k c)) → h rc = some (rcCell (shU R k c)) → h a = some (cnCell y ln) → ShOk h c N X → (∀ b : Nat, b ≠ k0 → b ≠ nb → b ≠ rc → h b = h0 b) → QP G M_X2_insert qTr (qMZ G M_X2_insert (qI (fun v h1 => v = 1 ∧ h1 k0 = some (shCell nb rc (nI (c + 1))) ∧ h1 nb = some (nbCell (insF N j c (some a))) ∧ h1 rc = some (rcCell (insF R j c rec)) ∧ ∀ b : Nat, b ≠ k0 → b ≠ nb → b ≠ rc → h1 b = h0 b))) 29 [some (.ref k0), some (.int (nI j)), some (.ref a), some (.int rec), some (.int (nI k))] [] h 0 0 := by
  intro n
  induction n with
  | zero =>
    intro k h h1 h2
    omega
  | succ n ih =>
    intro k h h1 h2 h3 gk gn gr ga hok hfr
    refine qp_iload dX2_insert_29 rfl ?_
    refine qp_iload_n dX2_insert_31 rfl ?_
    refine qp_icmp_le 73 dX2_insert_32 (by decide) (fun c_32 => ?_) (fun c_32 => ?_)
    · have hkj : k = j := by have := (nI_leI (by omega) (by omega)).mp c_32; omega
      subst hkj
      refine qp_aload_n dX2_insert_73 rfl ?_
      refine qp_getf dX2_insert_74 fX2_11 gk rfl ?_
      refine qp_iload_n dX2_insert_77 rfl ?_
      refine qp_aload_n dX2_insert_78 rfl ?_
      refine qk_aast (k) dX2_insert_79 gn ga nn rfl (by omega) (by decide) (fun h1 g2 o3 => ?_)
      have g4 : h1 k0 = some (.inr (3, [.ref nb, .ref rc, .int (nI c)])) := (o3 _ (ne_of_cells gk gn (by simp))).trans gk
      have g5 : h1 rc = some (.inl (0, 60, .inl (shU R k c))) := (o3 _ (ne_of_cells gr gn (by simp))).trans gr
      have g6 : h1 a = some (.inr (1, [.int (y.cl), .int (y.cc), .long (y.cd), .int (y.cap), .int (y.cut), .int (y.cutn), .int (y.year), .int (y.vol), .int (y.voll), .long (y.mark), .int (y.markn), .ref ln, .int (y.lc)])) := (o3 _ (ne_of_cells ga gn (by simp))).trans ga
      have g2 : h1 nb = some (.inl (3, 60, .inr (.inr (.inr (.inr (va_up (shU N k c) (k) (some a))))))) := g2
      refine qp_aload_n dX2_insert_80 rfl ?_
      refine qp_getf dX2_insert_81 fX2_17 g4 rfl ?_
      refine qp_iload_n dX2_insert_84 rfl ?_
      refine qp_iload_n dX2_insert_85 rfl ?_
      refine qk_iast (k) dX2_insert_86 g5 nr rfl (by omega) (by decide) (fun h7 g8 o9 => ?_)
      have g10 : h7 k0 = some (.inr (3, [.ref nb, .ref rc, .int (nI c)])) := (o9 _ (ne_of_cells g4 g5 (by simp))).trans g4
      have g11 : h7 a = some (.inr (1, [.int (y.cl), .int (y.cc), .long (y.cd), .int (y.cap), .int (y.cut), .int (y.cutn), .int (y.year), .int (y.vol), .int (y.voll), .long (y.mark), .int (y.markn), .ref ln, .int (y.lc)])) := (o9 _ (ne_of_cells g6 g5 (by simp))).trans g6
      have g12 : h7 nb = some (.inl (3, 60, .inr (.inr (.inr (.inr (va_up (shU N k c) (k) (some a))))))) := (o9 _ (ne_of_cells g2 g5 (by simp))).trans g2
      have g8 : h7 rc = some (.inl (0, 60, .inl (upd (shU R k c) (k) (rec)))) := g8
      refine qp_aload_n dX2_insert_87 rfl ?_
      refine qp_dup dX2_insert_88 rfl ?_
      refine qp_getf dX2_insert_89 fX2_21 g10 rfl ?_
      refine qp_iconst (v := 1) dX2_insert_92 (by decide) ?_
      refine qp_iadd dX2_insert_93 ?_
      refine QP.topI (y := nI (c + 1)) (nI_1 c) ?_
      refine qk_put dX2_insert_94 fX2_21 g10 nk rfl rfl rfl rfl rfl (fun h13 g14 o15 => ?_)
      have g16 : h13 a = some (.inr (1, [.int (y.cl), .int (y.cc), .long (y.cd), .int (y.cap), .int (y.cut), .int (y.cutn), .int (y.year), .int (y.vol), .int (y.voll), .long (y.mark), .int (y.markn), .ref ln, .int (y.lc)])) := (o15 _ (ne_of_cells g11 g10 (by simp))).trans g11
      have g17 : h13 nb = some (.inl (3, 60, .inr (.inr (.inr (.inr (va_up (shU N k c) (k) (some a))))))) := (o15 _ (ne_of_cells g12 g10 (by simp))).trans g12
      have g18 : h13 rc = some (.inl (0, 60, .inl (upd (shU R k c) (k) (rec)))) := (o15 _ (ne_of_cells g8 g10 (by simp))).trans g8
      have g14 : h13 k0 = some (.inr (3, [.ref nb, .ref rc, .int (nI (c + 1))])) := g14
      refine qp_iconst (v := 1) dX2_insert_97 (by decide) ?_
      exact qr_z dX2_insert_98 rfl nar_1 rfl rfl ⟨rfl, g14, g17, g18, fun b hb1 hb2 hb3 => (((o15 b hb1).trans (o9 b hb3)).trans (o3 b hb2)).trans (hfr b hb1 hb2 hb3)⟩
    · have hkj : j < k := Nat.not_le.mp fun q => c_32 ((nI_leI (by omega) (by omega)).mpr q)
      refine qp_aload_n dX2_insert_35 rfl ?_
      refine qp_getf dX2_insert_36 fX2_11 gk rfl ?_
      refine qp_iload dX2_insert_39 rfl ?_
      refine qp_aload_n dX2_insert_41 rfl ?_
      refine qp_getf dX2_insert_42 fX2_11 gk rfl ?_
      refine qp_iload dX2_insert_45 rfl ?_
      refine qp_iconst (v := 1) dX2_insert_47 (by decide) ?_
      refine qp_isub dX2_insert_48 ?_
      refine QP.topI (y := nI (k - 1)) (by rw [show k = (k - 1) + 1 by omega]; exact nI_pred _) ?_
      refine qp_aaldN (k - 1) dX2_insert_49 gn rfl (by omega) (by decide) ?_
      refine qk_aastO (k) dX2_insert_50 gn (fun v hv => by obtain ⟨a2, ln2, e3, e4⟩ := hok (k - 1) (by omega); rw [shU_at (by omega), e3] at hv; cases hv; exact ⟨_, e4⟩) nn rfl (by omega) (by decide) (fun h19 g20 o21 => ?_)
      have g22 : h19 k0 = some (.inr (3, [.ref nb, .ref rc, .int (nI c)])) := (o21 _ (ne_of_cells gk gn (by simp))).trans gk
      have g23 : h19 rc = some (.inl (0, 60, .inl (shU R k c))) := (o21 _ (ne_of_cells gr gn (by simp))).trans gr
      have g24 : h19 a = some (.inr (1, [.int (y.cl), .int (y.cc), .long (y.cd), .int (y.cap), .int (y.cut), .int (y.cutn), .int (y.year), .int (y.vol), .int (y.voll), .long (y.mark), .int (y.markn), .ref ln, .int (y.lc)])) := (o21 _ (ne_of_cells ga gn (by simp))).trans ga
      have g20 : h19 nb = some (.inl (3, 60, .inr (.inr (.inr (.inr (va_up (shU N k c) (k) (shU N k c (k - 1)))))))) := g20
      have hok25 := hok.kept gn o21
      refine qp_aload_n dX2_insert_51 rfl ?_
      refine qp_getf dX2_insert_52 fX2_17 g22 rfl ?_
      refine qp_iload dX2_insert_55 rfl ?_
      refine qp_aload_n dX2_insert_57 rfl ?_
      refine qp_getf dX2_insert_58 fX2_17 g22 rfl ?_
      refine qp_iload dX2_insert_61 rfl ?_
      refine qp_iconst (v := 1) dX2_insert_63 (by decide) ?_
      refine qp_isub dX2_insert_64 ?_
      refine QP.topI (y := nI (k - 1)) (by rw [show k = (k - 1) + 1 by omega]; exact nI_pred _) ?_
      refine qp_ialdN (k - 1) dX2_insert_65 g23 rfl (by omega) (by decide) ?_
      refine qk_iast (k) dX2_insert_66 g23 nr rfl (by omega) (by decide) (fun h26 g27 o28 => ?_)
      have g29 : h26 k0 = some (.inr (3, [.ref nb, .ref rc, .int (nI c)])) := (o28 _ (ne_of_cells g22 g23 (by simp))).trans g22
      have g30 : h26 a = some (.inr (1, [.int (y.cl), .int (y.cc), .long (y.cd), .int (y.cap), .int (y.cut), .int (y.cutn), .int (y.year), .int (y.vol), .int (y.voll), .long (y.mark), .int (y.markn), .ref ln, .int (y.lc)])) := (o28 _ (ne_of_cells g24 g23 (by simp))).trans g24
      have g31 : h26 nb = some (.inl (3, 60, .inr (.inr (.inr (.inr (va_up (shU N k c) (k) (shU N k c (k - 1)))))))) := (o28 _ (ne_of_cells g20 g23 (by simp))).trans g20
      have g27 : h26 rc = some (.inl (0, 60, .inl (upd (shU R k c) (k) (shU R k c (k - 1))))) := g27
      have hok32 := hok25.kept g23 o28
      refine qp_iinc (v := nI (k - 1)) dX2_insert_67 rfl (by decide) (by rw [show k = (k - 1) + 1 by omega]; exact pk_m1 _) ?_
      refine QP.locsE (L1 := [some (.ref k0), some (.int (nI j)), some (.ref a), some (.int (rec)), some (.int (nI (k - 1)))]) rfl ?_
      refine qp_goto 29 dX2_insert_70 (by decide) ?_
      rw [shU_at (by omega)] at g31 g27
      obtain ⟨k1, rfl⟩ : ∃ k1, k = k1 + 1 := ⟨k - 1, by omega⟩
      have e8 : shU N (k1 + 1) c k1 = N k1 := shU_at (f := N) (k := k1 + 1) (c := c) (by omega)
      have e9 : shU R (k1 + 1) c k1 = R k1 := shU_at (f := R) (k := k1 + 1) (c := c) (by omega)
      rw [show k1 + 1 - 1 = k1 by omega, ← e8, shU_q (by omega)] at g31
      rw [show k1 + 1 - 1 = k1 by omega, ← e9, shU_i (by omega)] at g27
      exact ih k1 h26 (by omega) (by omega) (by omega) g29 g31 g27 g30 hok32 (fun b hb1 hb2 hb3 => ((o28 b hb3).trans (o21 b hb2)).trans (hfr b hb1 hb2 hb3))
set_option maxHeartbeats 4000000 in
set_option maxRecDepth 100000 in
theorem c_insert (G : qG) {h : qH} {k0 nb rc c a ln : Nat} {N : Nat → Option Nat} {R : Nat → Int32} {X : Nat → CNv} {y : CNv} (j : Nat) (rec : Int32) (nk : G.2.1 ≤ k0) (nn : G.2.1 ≤ nb) (nr : G.2.1 ≤ rc) (hc : c < 60) (hj : j ≤ c) (gk : h k0 = some (shCell nb rc (nI c))) (gn : h nb = some (nbCell N)) (gr : h rc = some (rcCell R)) (ga : h a = some (cnCell y ln)) (hok : ShOk h c N X) : qMet G M_X2_insert [.ref k0, .int (nI j), .ref a, .int rec] h (qI (fun v h1 => v = 1 ∧ h1 k0 = some (shCell nb rc (nI (c + 1))) ∧ h1 nb = some (nbCell (insF N j c (some a))) ∧ h1 rc = some (rcCell (insF R j c rec)) ∧ ∀ b : Nat, b ≠ k0 → b ≠ nb → b ≠ rc → h1 b = h b)) := by
  refine qMet.of (by decide) (Nat.le_of_ble_eq_true rfl) rfl ?_
  refine QP.locsE (L1 := [some (.ref k0), some (.int (nI j)), some (.ref a), some (.int (rec)), none]) rfl ?_
  refine qp_aload_n dX2_insert_0 rfl ?_
  refine qp_getf dX2_insert_1 fX2_21 gk rfl ?_
  refine qp_bipush (v := 60) dX2_insert_4 (by decide) ?_
  refine qp_icmp_ge 21 dX2_insert_6 (by decide) (fun c_6 => absurd c_6 (i32_nle.mpr (nI_lt (b := 60) hc (by decide)))) (fun c_6 => ?_)
  refine qp_iload_n dX2_insert_9 rfl ?_
  refine qp_if_lt 21 dX2_insert_10 (by decide) (fun c_10 => absurd c_10 (nI_pos (by omega))) (fun c_10 => ?_)
  refine qp_iload_n dX2_insert_13 rfl ?_
  refine qp_aload_n dX2_insert_14 rfl ?_
  refine qp_getf dX2_insert_15 fX2_21 gk rfl ?_
  refine qp_icmp_le 23 dX2_insert_18 (by decide) (fun c_18 => ?_) (fun c_18 => absurd ((nI_leI (by omega) (by omega)).mpr hj) c_18)
  refine qp_aload_n dX2_insert_23 rfl ?_
  refine qp_getf dX2_insert_24 fX2_21 gk rfl ?_
  refine qp_istore dX2_insert_27 (by decide) ?_
  refine QP.locsE (L1 := [some (.ref k0), some (.int (nI j)), some (.ref a), some (.int (rec)), some (.int (nI c))]) rfl ?_
  exact l_insert nk nn nr hc (c + 1) c h (by omega) hj (by omega) gk (by rw [shU_0]; exact gn) (by rw [shU_0]; exact gr) ga hok (fun _ _ _ _ => rfl)
def remF (f : Nat → Option Nat) (p c : Nat) : Nat → Option Nat := va_up (shD f p (c - 1)) (c - 1) none
set_option maxHeartbeats 4000000 in
set_option maxRecDepth 100000 in
theorem c_removeNot (G : qG) {h : qH} {k0 nb rc c : Nat} (p : Int32) (hc : c ≤ 60) (hp : sHas c p = false) (gk : h k0 = some (shCell nb rc (nI c))) : qMet G M_X2_remove [.ref k0, .int p] h (qV (fun h1 => h1 = h)) := by
  refine qMet.of (by decide) (Nat.le_of_ble_eq_true rfl) rfl ?_
  refine QP.locsE (L1 := [some (.ref k0), some (.int (p)), none]) rfl ?_
  refine qp_aload_n dX2_remove_0 rfl ?_
  refine qp_iload_n dX2_remove_1 rfl ?_
  refine qv_Ip dX2_remove_2 mX2_25 (c_has G (p) hc gk) gk rfl rfl rfl rfl rfl rfl rfl ?_
  refine qp_if_ne 9 dX2_remove_5 (by decide) (fun c_5 => absurd (show bI (sHas c p) = 0 by rw [hp]; rfl) c_5) (fun c_5 => ?_)
  exact qr_v dX2_remove_8 rfl rfl rfl rfl
set_option maxHeartbeats 4000000 in
set_option maxRecDepth 100000 in
theorem l_remove {G : qG} {h0 : qH} {k0 nb rc c p : Nat} {N : Nat → Option Nat} {R : Nat → Int32} {X : Nat → CNv} (nk : G.2.1 ≤ k0) (nn : G.2.1 ≤ nb) (nr : G.2.1 ≤ rc) (hc : c ≤ 60) : ∀ (n k : Nat) (h : qH), c ≤ k + n → p ≤ k → k < c → h k0 = some (shCell nb rc (nI c)) → h nb = some (nbCell (shD N p k)) → h rc = some (rcCell (shD R p k)) → ShOk h c N X → (∀ b : Nat, b ≠ k0 → b ≠ nb → b ≠ rc → h b = h0 b) → QP G M_X2_remove qTr (qMZ G M_X2_remove (qV (fun h1 => h1 k0 = some (shCell nb rc (nI (c - 1))) ∧ h1 nb = some (nbCell (remF N p c)) ∧ h1 rc = some (rcCell (shD R p (c - 1))) ∧ ∀ b : Nat, b ≠ k0 → b ≠ nb → b ≠ rc → h1 b = h0 b))) 11 [some (.ref k0), some (.int (nI p)), some (.int (nI k))] [] h 0 0 := by
  intro n
  induction n with
  | zero =>
    intro k h h1 h2 h3
    omega
  | succ n ih =>
    intro k h h1 h2 h3 gk gn gr hok hfr
    refine qp_iload_n dX2_remove_11 rfl ?_
    refine qp_aload_n dX2_remove_12 rfl ?_
    refine qp_getf dX2_remove_13 fX2_21 gk rfl ?_
    refine qp_iconst (v := 1) dX2_remove_16 (by decide) ?_
    refine qp_isub dX2_remove_17 ?_
    refine QP.topI (y := nI (c - 1)) (by rw [show c = (c - 1) + 1 by omega]; exact nI_pred _) ?_
    refine qp_icmp_ge 55 dX2_remove_18 (by decide) (fun c_18 => ?_) (fun c_18 => ?_)
    · have hkc : k = c - 1 := by have := (nI_leI (by omega) (by omega)).mp c_18; omega
      refine qp_aload_n dX2_remove_55 rfl ?_
      refine qp_dup dX2_remove_56 rfl ?_
      refine qp_getf dX2_remove_57 fX2_21 gk rfl ?_
      refine qp_iconst (v := 1) dX2_remove_60 (by decide) ?_
      refine qp_isub dX2_remove_61 ?_
      refine QP.topI (y := nI (c - 1)) (by rw [show c = (c - 1) + 1 by omega]; exact nI_pred _) ?_
      refine qk_put dX2_remove_62 fX2_21 gk nk rfl rfl rfl rfl rfl (fun h1 g2 o3 => ?_)
      have g4 : h1 nb = some (.inl (3, 60, .inr (.inr (.inr (.inr (shD N p k)))))) := (o3 _ (ne_of_cells gn gk (by simp))).trans gn
      have g5 : h1 rc = some (.inl (0, 60, .inl (shD R p k))) := (o3 _ (ne_of_cells gr gk (by simp))).trans gr
      have g2 : h1 k0 = some (.inr (3, [.ref nb, .ref rc, .int (nI (c - 1))])) := g2
      refine qp_aload_n dX2_remove_65 rfl ?_
      refine qp_getf dX2_remove_66 fX2_11 g2 rfl ?_
      refine qp_aload_n dX2_remove_69 rfl ?_
      refine qp_getf dX2_remove_70 fX2_21 g2 rfl ?_
      refine qp_null dX2_remove_73 ?_
      refine qk_aastO (o := none) (c - 1) dX2_remove_74 g4 (fun _ q => by cases q) nn rfl (by omega) (by decide) (fun h6 g7 o8 => ?_)
      have g9 : h6 rc = some (.inl (0, 60, .inl (shD R p k))) := (o8 _ (ne_of_cells g5 g4 (by simp))).trans g5
      have g10 : h6 k0 = some (.inr (3, [.ref nb, .ref rc, .int (nI (c - 1))])) := (o8 _ (ne_of_cells g2 g4 (by simp))).trans g2
      have g7 : h6 nb = some (.inl (3, 60, .inr (.inr (.inr (.inr (va_up (shD N p k) (c - 1) none)))))) := g7
      exact qr_v dX2_remove_75 rfl rfl rfl ⟨g10, by rw [hkc] at g7; exact g7, by rw [hkc] at g9; exact g9, fun b hb1 hb2 hb3 => ((o8 b hb2).trans (o3 b hb1)).trans (hfr b hb1 hb2 hb3)⟩
    · have hkc : k < c - 1 := Nat.not_le.mp fun q => c_18 ((nI_leI (by omega) (by omega)).mpr q)
      refine qp_aload_n dX2_remove_21 rfl ?_
      refine qp_getf dX2_remove_22 fX2_11 gk rfl ?_
      refine qp_iload_n dX2_remove_25 rfl ?_
      refine qp_aload_n dX2_remove_26 rfl ?_
      refine qp_getf dX2_remove_27 fX2_11 gk rfl ?_
      refine qp_iload_n dX2_remove_30 rfl ?_
      refine qp_iconst (v := 1) dX2_remove_31 (by decide) ?_
      refine qp_iadd dX2_remove_32 ?_
      refine QP.topI (y := nI (k + 1)) (nI_1 k) ?_
      refine qp_aaldN (k + 1) dX2_remove_33 gn rfl (by omega) (by decide) ?_
      refine qk_aastO (k) dX2_remove_34 gn (fun v hv => by obtain ⟨a2, ln2, e3, e4⟩ := hok (k + 1) (by omega); rw [shD_at, e3] at hv; cases hv; exact ⟨_, e4⟩) nn rfl (by omega) (by decide) (fun h11 g12 o13 => ?_)
      have g14 : h11 k0 = some (.inr (3, [.ref nb, .ref rc, .int (nI c)])) := (o13 _ (ne_of_cells gk gn (by simp))).trans gk
      have g15 : h11 rc = some (.inl (0, 60, .inl (shD R p k))) := (o13 _ (ne_of_cells gr gn (by simp))).trans gr
      have g12 : h11 nb = some (.inl (3, 60, .inr (.inr (.inr (.inr (va_up (shD N p k) (k) (shD N p k (k + 1)))))))) := g12
      have hok16 := hok.kept gn o13
      refine qp_aload_n dX2_remove_35 rfl ?_
      refine qp_getf dX2_remove_36 fX2_17 g14 rfl ?_
      refine qp_iload_n dX2_remove_39 rfl ?_
      refine qp_aload_n dX2_remove_40 rfl ?_
      refine qp_getf dX2_remove_41 fX2_17 g14 rfl ?_
      refine qp_iload_n dX2_remove_44 rfl ?_
      refine qp_iconst (v := 1) dX2_remove_45 (by decide) ?_
      refine qp_iadd dX2_remove_46 ?_
      refine QP.topI (y := nI (k + 1)) (nI_1 k) ?_
      refine qp_ialdN (k + 1) dX2_remove_47 g15 rfl (by omega) (by decide) ?_
      refine qk_iast (k) dX2_remove_48 g15 nr rfl (by omega) (by decide) (fun h17 g18 o19 => ?_)
      have g20 : h17 k0 = some (.inr (3, [.ref nb, .ref rc, .int (nI c)])) := (o19 _ (ne_of_cells g14 g15 (by simp))).trans g14
      have g21 : h17 nb = some (.inl (3, 60, .inr (.inr (.inr (.inr (va_up (shD N p k) (k) (shD N p k (k + 1)))))))) := (o19 _ (ne_of_cells g12 g15 (by simp))).trans g12
      have g18 : h17 rc = some (.inl (0, 60, .inl (upd (shD R p k) (k) (shD R p k (k + 1))))) := g18
      have hok22 := hok16.kept g15 o19
      refine qp_iinc (v := nI (k + 1)) dX2_remove_49 rfl (by decide) (nI_1 k) ?_
      refine QP.locsE (L1 := [some (.ref k0), some (.int (nI p)), some (.int (nI (k + 1)))]) rfl ?_
      refine qp_goto 11 dX2_remove_52 (by decide) ?_
      rw [shD_q (by omega)] at g21
      rw [shD_i (by omega)] at g18
      exact ih (k + 1) h17 (by omega) (by omega) (by omega) g20 g21 g18 hok22 (fun b hb1 hb2 hb3 => ((o19 b hb3).trans (o13 b hb2)).trans (hfr b hb1 hb2 hb3))
set_option maxHeartbeats 4000000 in
set_option maxRecDepth 100000 in
theorem c_remove (G : qG) {h : qH} {k0 nb rc c : Nat} {N : Nat → Option Nat} {R : Nat → Int32} {X : Nat → CNv} (p : Nat) (nk : G.2.1 ≤ k0) (nn : G.2.1 ≤ nb) (nr : G.2.1 ≤ rc) (hc : c ≤ 60) (hp : p < c) (gk : h k0 = some (shCell nb rc (nI c))) (gn : h nb = some (nbCell N)) (gr : h rc = some (rcCell R)) (hok : ShOk h c N X) : qMet G M_X2_remove [.ref k0, .int (nI p)] h (qV (fun h1 => h1 k0 = some (shCell nb rc (nI (c - 1))) ∧ h1 nb = some (nbCell (remF N p c)) ∧ h1 rc = some (rcCell (shD R p (c - 1))) ∧ ∀ b : Nat, b ≠ k0 → b ≠ nb → b ≠ rc → h1 b = h b)) := by
  refine qMet.of (by decide) (Nat.le_of_ble_eq_true rfl) rfl ?_
  refine QP.locsE (L1 := [some (.ref k0), some (.int (nI p)), none]) rfl ?_
  refine qp_aload_n dX2_remove_0 rfl ?_
  refine qp_iload_n dX2_remove_1 rfl ?_
  refine qv_Ip dX2_remove_2 mX2_25 (c_has G (nI p) hc gk) gk rfl rfl rfl rfl rfl rfl rfl ?_
  refine qp_if_ne 9 dX2_remove_5 (by decide) (fun c_5 => ?_) (fun c_5 => absurd c_5 (show ¬ bI (sHas c (nI p)) = 0 by rw [sHas_nI hp hc]; decide))
  refine qp_iload_n dX2_remove_9 rfl ?_
  refine qp_istore_n dX2_remove_10 (by decide) ?_
  refine QP.locsE (L1 := [some (.ref k0), some (.int (nI p)), some (.int (nI p))]) rfl ?_
  exact l_remove nk nn nr hc c p h (by omega) (by omega) hp gk (by rw [shD_0]; exact gn) (by rw [shD_0]; exact gr) hok (fun _ _ _ _ => rfl)
set_option maxHeartbeats 4000000 in
set_option maxRecDepth 100000 in
theorem c_shInit (G : qG) {h : qH} {k0 : Nat} (nk : G.2.1 ≤ k0) (gk : h k0 = some (.inr (3, [.null, .null, .int 0]))) : qMet G M_X2_init [.ref k0] h (qV (fun h1 => ∃ nb rc : Nat, G.2.1 ≤ nb ∧ G.2.1 ≤ rc ∧ nb ≠ rc ∧ h nb = none ∧ h rc = none ∧ h1 k0 = some (shCell nb rc 0) ∧ h1 nb = some (nbCell (fun _ => none)) ∧ h1 rc = some (rcCell (fun _ => 0)) ∧ ∀ b : Nat, b ≠ k0 → b ≠ nb → b ≠ rc → h1 b = h b)) := by
  refine qMet.of (by decide) (Nat.le_of_ble_eq_true rfl) rfl ?_
  refine QP.locsE (L1 := [some (.ref k0)]) rfl ?_
  refine qp_aload_n dX2_init_0 rfl ?_
  refine qp_objInit dX2_init_1 oiX2_3 oi_in oi_cd (Nat.le_of_ble_eq_true rfl) (Nat.le_of_ble_eq_true rfl) ?_
  refine qp_aload_n dX2_init_4 rfl ?_
  refine qp_bipush (v := 60) dX2_init_5 (by decide) ?_
  refine qk_newq 60 dX2_init_7 clX2_9 aoC (by decide) (by decide) (by decide) rfl rfl (fun nb h1 n4 z5 g2 o3 => ?_)
  have z6 : h nb = none := z5
  have g7 : h1 k0 = some (.inr (3, [.null, .null, .int (0)])) := (o3 _ (ne_of_none gk z5)).trans gk
  have g2 : h1 nb = some (.inl (3, 60, .inr (.inr (.inr (.inr (fun _ => none)))))) := g2
  refine qk_putF dX2_init_10 ffX2_11 g7 nk rfl rfl rfl rfl rfl rfl rfl (fun h8 g9 o10 => ?_)
  have g11 : h8 nb = some (.inl (3, 60, .inr (.inr (.inr (.inr (fun _ => none)))))) := (o10 _ (ne_of_cells g2 g7 (by simp))).trans g2
  have g9 : h8 k0 = some (.inr (3, [.ref nb, .null, .int (0)])) := g9
  refine qp_aload_n dX2_init_13 rfl ?_
  refine qp_bipush (v := 60) dX2_init_14 (by decide) ?_
  refine qk_newaI 60 dX2_init_16 acI (by decide) (by decide) (by decide) rfl rfl (fun rc h12 n15 z16 g13 o14 => ?_)
  have z17 : h rc = none := (((o10 rc (Ne.symm (ne_of_none g9 z16))).trans (o3 rc (Ne.symm (ne_of_none g11 z16))))).symm.trans z16
  have g18 : h12 nb = some (.inl (3, 60, .inr (.inr (.inr (.inr (fun _ => none)))))) := (o14 _ (ne_of_none g11 z16)).trans g11
  have g19 : h12 k0 = some (.inr (3, [.ref nb, .null, .int (0)])) := (o14 _ (ne_of_none g9 z16)).trans g9
  have g13 : h12 rc = some (.inl (0, 60, .inl (fun _ => 0))) := g13
  refine qk_putF dX2_init_18 ffX2_17 g19 nk rfl rfl rfl rfl rfl rfl rfl (fun h20 g21 o22 => ?_)
  have g23 : h20 nb = some (.inl (3, 60, .inr (.inr (.inr (.inr (fun _ => none)))))) := (o22 _ (ne_of_cells g18 g19 (by simp))).trans g18
  have g24 : h20 rc = some (.inl (0, 60, .inl (fun _ => 0))) := (o22 _ (ne_of_cells g13 g19 (by simp))).trans g13
  have g21 : h20 k0 = some (.inr (3, [.ref nb, .ref rc, .int (0)])) := g21
  exact qr_v dX2_init_21 rfl rfl rfl ⟨nb, rc, n4, n15, ne_of_cells g23 g24 (by simp), z6, z17, g21, g23, g24, fun b hb1 hb2 hb3 => ((((o22 b hb1).trans (o14 b hb3)).trans (o10 b hb1)).trans (o3 b hb2))⟩
