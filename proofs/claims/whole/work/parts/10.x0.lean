/-- a call number's own numbers: class letters, how many, class digits, capital, cutter, its digits, year, volume, its letter, mark, its letters, lines -/
abbrev CNv : Type := Int32 × Int32 × Int64 × Int32 × Int32 × Int32 × Int32 × Int32 × Int32 × Int64 × Int32 × Int32
abbrev CNv.cl (x : CNv) : Int32 := x.1
abbrev CNv.cc (x : CNv) : Int32 := x.2.1
abbrev CNv.cd (x : CNv) : Int64 := x.2.2.1
abbrev CNv.cap (x : CNv) : Int32 := x.2.2.2.1
abbrev CNv.cut (x : CNv) : Int32 := x.2.2.2.2.1
abbrev CNv.cutn (x : CNv) : Int32 := x.2.2.2.2.2.1
abbrev CNv.year (x : CNv) : Int32 := x.2.2.2.2.2.2.1
abbrev CNv.vol (x : CNv) : Int32 := x.2.2.2.2.2.2.2.1
abbrev CNv.voll (x : CNv) : Int32 := x.2.2.2.2.2.2.2.2.1
abbrev CNv.mark (x : CNv) : Int64 := x.2.2.2.2.2.2.2.2.2.1
abbrev CNv.markn (x : CNv) : Int32 := x.2.2.2.2.2.2.2.2.2.2.1
abbrev CNv.lc (x : CNv) : Int32 := x.2.2.2.2.2.2.2.2.2.2.2
abbrev cnCell (x : CNv) (ln : Nat) : qE := .inr (1, [.int x.1, .int x.2.1, .long x.2.2.1, .int x.2.2.2.1, .int x.2.2.2.2.1, .int x.2.2.2.2.2.1, .int x.2.2.2.2.2.2.1, .int x.2.2.2.2.2.2.2.1, .int x.2.2.2.2.2.2.2.2.1, .long x.2.2.2.2.2.2.2.2.2.1, .int x.2.2.2.2.2.2.2.2.2.2.1, .ref ln, .int x.2.2.2.2.2.2.2.2.2.2.2])
abbrev lnCell (f : Nat → Int32) : qE := .inl (0, 6, .inl f)
def sLineAt (lc : Int32) (f : Nat → Int32) (i : Int32) : Int32 := if 0 ≤ i ∧ i < lc ∧ i < 6 then f i.toNatClampNeg else -1
theorem i32_nlt {a b : Int32} : ¬ a < b ↔ b ≤ a := Int32.not_lt
theorem i32_nle {a b : Int32} : ¬ a ≤ b ↔ b < a := Int32.not_le
theorem in_of {i : Int32} {n : Nat} {m : Int32} (hm : m = nI n) (hn : n < 2147483648) (h0 : 0 ≤ i) (h1 : i < m) : vp_in i n := by
  rw [vp_in_iff]
  subst hm
  rw [Int32.le_iff_toInt_le, Int32.toInt_zero] at h0
  rw [Int32.lt_iff_toInt_lt, nI_toInt (by omega)] at h1
  exact ⟨h0, h1⟩
set_option maxHeartbeats 4000000 in
set_option maxRecDepth 100000 in
theorem c_lineAt (G : qG) {h : qH} {a ln : Nat} {x : CNv} {f : Nat → Int32} (i : Int32) (ga : h a = some (cnCell x ln)) (gl : h ln = some (lnCell f)) : qMet G M_X0_lineAt [.ref a, .int i] h (qI (fun v h1 => h1 = h ∧ v = sLineAt x.lc f i)) := by
  refine qMet.of (by decide) (Nat.le_of_ble_eq_true rfl) rfl ?_
  refine QP.locsE (L1 := [some (.ref a), some (.int (i))]) rfl ?_
  refine qp_iload_n dX0_lineAt_0 rfl ?_
  refine qp_if_lt 30 dX0_lineAt_1 (by decide) (fun c_1 => ?_) (fun c_1 => ?_)
  · refine qp_iconst (v := -1) dX0_lineAt_30 (by decide) ?_
    exact qr_i dX0_lineAt_31 rfl rfl rfl ⟨rfl, by simp only [sLineAt]; rw [if_neg (fun q => absurd q.1 (i32_nle.mpr c_1))]⟩
  · refine qp_iload_n dX0_lineAt_4 rfl ?_
    refine qp_aload_n dX0_lineAt_5 rfl ?_
    refine qp_getf dX0_lineAt_6 fX0_15 ga rfl ?_
    refine qp_icmp_ge 30 dX0_lineAt_9 (by decide) (fun c_9 => ?_) (fun c_9 => ?_)
    · refine qp_iconst (v := -1) dX0_lineAt_30 (by decide) ?_
      exact qr_i dX0_lineAt_31 rfl rfl rfl ⟨rfl, by simp only [sLineAt]; rw [if_neg (fun q => absurd c_9 (i32_nle.mpr q.2.1))]⟩
    · refine qp_iload_n dX0_lineAt_12 rfl ?_
      refine qp_aload_n dX0_lineAt_13 rfl ?_
      refine qp_getf dX0_lineAt_14 fX0_9 ga rfl ?_
      refine qp_alen (v := 6) dX0_lineAt_17 gl rfl ?_
      refine qp_icmp_ge 30 dX0_lineAt_18 (by decide) (fun c_18 => ?_) (fun c_18 => ?_)
      · refine qp_iconst (v := -1) dX0_lineAt_30 (by decide) ?_
        exact qr_i dX0_lineAt_31 rfl rfl rfl ⟨rfl, by simp only [sLineAt]; rw [if_neg (fun q => absurd c_18 (i32_nle.mpr q.2.2))]⟩
      · refine qp_aload_n dX0_lineAt_21 rfl ?_
        refine qp_getf dX0_lineAt_22 fX0_9 ga rfl ?_
        refine qp_iload_n dX0_lineAt_25 rfl ?_
        refine qp_iald dX0_lineAt_26 gl (in_of (n := 6) (m := 6) (by decide) (by decide) (i32_nlt.mp c_1) (i32_nle.mp c_18)) ?_
        refine qp_goto 31 dX0_lineAt_27 (by decide) ?_
        exact qr_i dX0_lineAt_31 rfl rfl rfl ⟨rfl, by simp only [sLineAt]; rw [if_pos ⟨i32_nlt.mp c_1, i32_nle.mp c_9, i32_nle.mp c_18⟩]⟩
def sPartCount (x : CNv) : Int32 := if 0 < x.cc then x.lc - 1 else x.lc
set_option maxHeartbeats 4000000 in
set_option maxRecDepth 100000 in
theorem c_partCount (G : qG) {h : qH} {a ln : Nat} {x : CNv} (ga : h a = some (cnCell x ln)) : qMet G M_X0_partCount [.ref a] h (qI (fun v h1 => h1 = h ∧ v = sPartCount x)) := by
  refine qMet.of (by decide) (Nat.le_of_ble_eq_true rfl) rfl ?_
  refine QP.locsE (L1 := [some (.ref a)]) rfl ?_
  refine qp_aload_n dX0_partCount_0 rfl ?_
  refine qp_getf dX0_partCount_1 fX0_19 ga rfl ?_
  refine qp_if_le 16 dX0_partCount_4 (by decide) (fun c_4 => ?_) (fun c_4 => ?_)
  · refine qp_aload_n dX0_partCount_16 rfl ?_
    refine qp_getf dX0_partCount_17 fX0_15 ga rfl ?_
    exact qr_i dX0_partCount_20 rfl rfl rfl ⟨rfl, by simp only [sPartCount]; rw [if_neg (i32_nlt.mpr c_4)]⟩
  · refine qp_aload_n dX0_partCount_7 rfl ?_
    refine qp_getf dX0_partCount_8 fX0_15 ga rfl ?_
    refine qp_iconst (v := 1) dX0_partCount_11 (by decide) ?_
    refine qp_isub dX0_partCount_12 ?_
    refine qp_goto 20 dX0_partCount_13 (by decide) ?_
    exact qr_i dX0_partCount_20 rfl rfl rfl ⟨rfl, by simp only [sPartCount]; rw [if_pos (i32_nle.mp c_4)]⟩
def sCapitalAt (x : CNv) (i : Int32) : Int32 := if i < 0 then 0 else if x.cc < i then 0 else if i = x.cc then x.cap else (x.cl >>> ((8 * (2 - i)) &&& 31)) &&& 255
set_option maxHeartbeats 4000000 in
set_option maxRecDepth 100000 in
theorem c_capitalAt (G : qG) {h : qH} {a ln : Nat} {x : CNv} (i : Int32) (ga : h a = some (cnCell x ln)) : qMet G M_X0_capitalAt [.ref a, .int i] h (qI (fun v h1 => h1 = h ∧ v = sCapitalAt x i)) := by
  refine qMet.of (by decide) (Nat.le_of_ble_eq_true rfl) rfl ?_
  refine QP.locsE (L1 := [some (.ref a), some (.int (i))]) rfl ?_
  refine qp_iload_n dX0_capitalAt_0 rfl ?_
  refine qp_if_lt 12 dX0_capitalAt_1 (by decide) (fun c_1 => ?_) (fun c_1 => ?_)
  · refine qp_iconst (v := 0) dX0_capitalAt_12 (by decide) ?_
    exact qr_i dX0_capitalAt_13 rfl rfl rfl ⟨rfl, by simp only [sCapitalAt]; rw [if_pos c_1]⟩
  · refine qp_iload_n dX0_capitalAt_4 rfl ?_
    refine qp_aload_n dX0_capitalAt_5 rfl ?_
    refine qp_getf dX0_capitalAt_6 fX0_19 ga rfl ?_
    refine qp_icmp_le 14 dX0_capitalAt_9 (by decide) (fun c_9 => ?_) (fun c_9 => ?_)
    · refine qp_iload_n dX0_capitalAt_14 rfl ?_
      refine qp_aload_n dX0_capitalAt_15 rfl ?_
      refine qp_getf dX0_capitalAt_16 fX0_19 ga rfl ?_
      refine qp_icmp_ne 27 dX0_capitalAt_19 (by decide) (fun c_19 => ?_) (fun c_19 => ?_)
      · refine qp_aload_n dX0_capitalAt_27 rfl ?_
        refine qp_getf dX0_capitalAt_28 fX0_25 ga rfl ?_
        refine qp_bipush (v := 8) dX0_capitalAt_31 (by decide) ?_
        refine qp_iconst (v := 2) dX0_capitalAt_33 (by decide) ?_
        refine qp_iload_n dX0_capitalAt_34 rfl ?_
        refine qp_isub dX0_capitalAt_35 ?_
        refine qp_imul dX0_capitalAt_36 ?_
        refine qp_ishr dX0_capitalAt_37 ?_
        refine qp_sipush (v := 255) dX0_capitalAt_38 (by decide) ?_
        refine qp_iand dX0_capitalAt_41 ?_
        exact qr_i dX0_capitalAt_42 rfl rfl rfl ⟨rfl, by simp only [sCapitalAt]; rw [if_neg c_1, if_neg (i32_nlt.mpr c_9), if_neg c_19]⟩
      · refine qp_aload_n dX0_capitalAt_22 rfl ?_
        refine qp_getf dX0_capitalAt_23 fX0_22 ga rfl ?_
        exact qr_i dX0_capitalAt_26 rfl rfl rfl ⟨rfl, by simp only [sCapitalAt]; rw [if_neg c_1, if_neg (i32_nlt.mpr c_9), if_pos c_19]⟩
    · refine qp_iconst (v := 0) dX0_capitalAt_12 (by decide) ?_
      exact qr_i dX0_capitalAt_13 rfl rfl rfl ⟨rfl, by simp only [sCapitalAt]; rw [if_neg c_1, if_pos (i32_nle.mp c_9)]⟩
def sHasClass (x y : CNv) : Bool := decide (x.cl = y.cl) && decide (x.cd = y.cd)
set_option maxHeartbeats 4000000 in
set_option maxRecDepth 100000 in
theorem c_hasClassOf (G : qG) {h : qH} {a b ln ln2 : Nat} {x y : CNv} (ga : h a = some (cnCell x ln)) (gb : h b = some (cnCell y ln2)) : qMet G M_X0_hasClassOf [.ref a, .ref b] h (qI (fun v h1 => h1 = h ∧ v = bI (sHasClass x y))) := by
  refine qMet.of (by decide) (Nat.le_of_ble_eq_true rfl) rfl ?_
  refine QP.locsE (L1 := [some (.ref a), some (.ref b)]) rfl ?_
  refine qp_aload_n dX0_hasClassOf_0 rfl ?_
  refine qp_getf dX0_hasClassOf_1 fX0_25 ga rfl ?_
  refine qp_aload_n dX0_hasClassOf_4 rfl ?_
  refine qp_getf dX0_hasClassOf_5 fX0_25 gb rfl ?_
  refine qp_icmp_ne 27 dX0_hasClassOf_8 (by decide) (fun c_8 => ?_) (fun c_8 => ?_)
  · refine qp_iconst (v := 0) dX0_hasClassOf_27 (by decide) ?_
    exact qr_z dX0_hasClassOf_28 rfl nar_0 rfl rfl ⟨rfl, by simp [sHasClass, c_8, bI]⟩
  · refine qp_aload_n dX0_hasClassOf_11 rfl ?_
    refine qp_getf dX0_hasClassOf_12 fX0_34 ga rfl ?_
    refine qp_aload_n dX0_hasClassOf_15 rfl ?_
    refine qp_getf dX0_hasClassOf_16 fX0_34 gb rfl ?_
    refine qp_lcmp dX0_hasClassOf_19 ?_
    refine qp_if_ne 27 dX0_hasClassOf_20 (by decide) (fun c_20 => ?_) (fun c_20 => ?_)
    · refine qp_iconst (v := 0) dX0_hasClassOf_27 (by decide) ?_
      exact qr_z dX0_hasClassOf_28 rfl nar_0 rfl rfl ⟨rfl, by rw [lg_cmp_eq] at c_20; simp [sHasClass, c_20, bI]⟩
    · refine qp_iconst (v := 1) dX0_hasClassOf_23 (by decide) ?_
      refine qp_goto 28 dX0_hasClassOf_24 (by decide) ?_
      exact qr_z dX0_hasClassOf_28 rfl nar_1 rfl rfl ⟨rfl, by rw [lg_cmp_eq] at c_20; simp [sHasClass, c_8, c_20, bI]⟩
abbrev cnNew : CNv := (0, 0, 0, 0, 0, 0, 0, 0, 0, 0, 0, 0)
abbrev cnBorn : qE := .inr (1, [.int 0, .int 0, .long 0, .int 0, .int 0, .int 0, .int 0, .int 0, .int 0, .long 0, .int 0, .null, .int 0])
set_option maxHeartbeats 4000000 in
set_option maxRecDepth 100000 in
theorem c_cnInit (G : qG) {h : qH} {a : Nat} (na : G.2.1 ≤ a) (ga : h a = some cnBorn) : qMet G M_X0_init [.ref a] h (qV (fun h1 => ∃ ln : Nat, G.2.1 ≤ ln ∧ h ln = none ∧ h1 a = some (cnCell cnNew ln) ∧ h1 ln = some (lnCell (fun _ => 0)) ∧ ∀ b : Nat, b ≠ a → b ≠ ln → h1 b = h b)) := by
  refine qMet.of (by decide) (Nat.le_of_ble_eq_true rfl) rfl ?_
  refine QP.locsE (L1 := [some (.ref a)]) rfl ?_
  refine qp_aload_n dX0_init_0 rfl ?_
  refine qp_objInit dX0_init_1 oiX0_3 oi_in oi_cd (Nat.le_of_ble_eq_true rfl) (Nat.le_of_ble_eq_true rfl) ?_
  refine qp_aload_n dX0_init_4 rfl ?_
  refine qp_bipush (v := 6) dX0_init_5 (by decide) ?_
  refine qk_newaI 6 dX0_init_7 acI (by decide) (by decide) (by decide) rfl rfl (fun ln h1 n4 z5 g2 o3 => ?_)
  have z6 : h ln = none := z5
  have g7 : h1 a = some (.inr (1, [.int (0), .int (0), .long (0), .int (0), .int (0), .int (0), .int (0), .int (0), .int (0), .long (0), .int (0), .null, .int (0)])) := (o3 _ (ne_of_none ga z5)).trans ga
  have g2 : h1 ln = some (.inl (0, 6, .inl (fun _ => 0))) := g2
  refine qk_putF dX0_init_9 ffX0_9 g7 na rfl rfl rfl rfl rfl rfl rfl (fun h8 g9 o10 => ?_)
  have g11 : h8 ln = some (.inl (0, 6, .inl (fun _ => 0))) := (o10 _ (ne_of_cells g2 g7 (by simp))).trans g2
  have g9 : h8 a = some (.inr (1, [.int (0), .int (0), .long (0), .int (0), .int (0), .int (0), .int (0), .int (0), .int (0), .long (0), .int (0), .ref ln, .int (0)])) := g9
  exact qr_v dX0_init_12 rfl rfl rfl ⟨ln, n4, z6, g9, g11, fun b hb hb2 => ((o10 b hb).trans (o3 b hb2))⟩
set_option maxHeartbeats 4000000 in
set_option maxRecDepth 100000 in
theorem c_addLine (G : qG) {h : qH} {a ln k : Nat} {x : CNv} {f : Nat → Int32} (v : Int32) (na : G.2.1 ≤ a) (nl : G.2.1 ≤ ln) (hk : x.lc = nI k) (hk6 : k < 6) (ga : h a = some (cnCell x ln)) (gl : h ln = some (lnCell f)) : qMet G M_X0_addLine [.ref a, .int v] h (qV (fun h1 => h1 a = some (cnCell (x.1, x.2.1, x.2.2.1, x.2.2.2.1, x.2.2.2.2.1, x.2.2.2.2.2.1, x.2.2.2.2.2.2.1, x.2.2.2.2.2.2.2.1, x.2.2.2.2.2.2.2.2.1, x.2.2.2.2.2.2.2.2.2.1, x.2.2.2.2.2.2.2.2.2.2.1, nI (k + 1)) ln) ∧ h1 ln = some (lnCell (upd f k v)) ∧ ∀ b : Nat, b ≠ a → b ≠ ln → h1 b = h b)) := by
  refine qMet.of (by decide) (Nat.le_of_ble_eq_true rfl) rfl ?_
  refine QP.locsE (L1 := [some (.ref a), some (.int (v))]) rfl ?_
  refine qp_aload_n dX0_addLine_0 rfl ?_
  refine qp_getf dX0_addLine_1 fX0_15 ga rfl ?_
  refine qp_aload_n dX0_addLine_4 rfl ?_
  refine qp_getf dX0_addLine_5 fX0_9 ga rfl ?_
  refine qp_alen (v := 6) dX0_addLine_8 gl rfl ?_
  refine qp_icmp_ge 32 dX0_addLine_9 (by decide) (fun c_9 => absurd c_9 (show ¬ (6 : Int32) ≤ x.lc by rw [hk]; exact i32_nle.mpr (nI_lt (b := 6) hk6 (by decide)))) (fun c_9 => ?_)
  refine qp_aload_n dX0_addLine_12 rfl ?_
  refine qp_getf dX0_addLine_13 fX0_9 ga rfl ?_
  refine qp_aload_n dX0_addLine_16 rfl ?_
  refine qp_getf dX0_addLine_17 fX0_15 ga rfl ?_
  refine qp_iload_n dX0_addLine_20 rfl ?_
  refine qk_iast (k) dX0_addLine_21 gl nl hk hk6 (by decide) (fun h1 g2 o3 => ?_)
  have g4 : h1 a = some (.inr (1, [.int (x.cl), .int (x.cc), .long (x.cd), .int (x.cap), .int (x.cut), .int (x.cutn), .int (x.year), .int (x.vol), .int (x.voll), .long (x.mark), .int (x.markn), .ref ln, .int (x.lc)])) := (o3 _ (ne_of_cells ga gl (by simp))).trans ga
  have g2 : h1 ln = some (.inl (0, 6, .inl (upd (f) (k) (v)))) := g2
  refine qp_aload_n dX0_addLine_22 rfl ?_
  refine qp_dup dX0_addLine_23 rfl ?_
  refine qp_getf dX0_addLine_24 fX0_15 g4 rfl ?_
  refine qp_iconst (v := 1) dX0_addLine_27 (by decide) ?_
  refine qp_iadd dX0_addLine_28 ?_
  refine QP.topI (y := nI (k + 1)) (show x.lc + 1 = nI (k + 1) by rw [hk]; exact nI_1 k) ?_
  refine qk_put dX0_addLine_29 fX0_15 g4 na rfl rfl rfl rfl rfl (fun h5 g6 o7 => ?_)
  have g8 : h5 ln = some (.inl (0, 6, .inl (upd (f) (k) (v)))) := (o7 _ (ne_of_cells g2 g4 (by simp))).trans g2
  have g6 : h5 a = some (.inr (1, [.int (x.cl), .int (x.cc), .long (x.cd), .int (x.cap), .int (x.cut), .int (x.cutn), .int (x.year), .int (x.vol), .int (x.voll), .long (x.mark), .int (x.markn), .ref ln, .int (nI (k + 1))])) := g6
  exact qr_v dX0_addLine_32 rfl rfl rfl ⟨g6, g8, fun b hb hb2 => ((o7 b hb).trans (o3 b hb2))⟩
theorem nI_of_ge {x : Int32} {k : Nat} (h : x = nI k) (hk : k < 2147483648) (hge : (6 : Int32) ≤ x) : 6 ≤ k := by
  subst h
  exact (nI_leI (a := 6) (by decide) hk).mp hge
theorem nI_of_nge {x : Int32} {k : Nat} (h : x = nI k) (hk : k < 2147483648) (hge : ¬ (6 : Int32) ≤ x) : k < 6 := by
  subst h
  exact Nat.not_le.mp fun q => hge ((nI_leI (a := 6) (by decide) hk).mpr q)
set_option maxHeartbeats 4000000 in
set_option maxRecDepth 100000 in
theorem l_cutterAsWritten {G : qG} {h : qH} {a : Nat} {r : Int32} : ∀ (n k c : Nat), 6 < k + n → k ≤ 6 → c < 2147483648 → r = nI (c / 10 ^ (6 - k)) → QP G M_X0_cutterAsWritten qTr (qMZ G M_X0_cutterAsWritten (qI (fun v h1 => h1 = h ∧ v = r))) 10 [some (.ref a), some (.int (nI c)), some (.int (nI k))] [] h 0 0 := by
  intro n
  induction n with
  | zero =>
    intro k c h1 h2
    omega
  | succ n ih =>
    intro k c h1 h2 h3 hQ
    refine qp_iload_n dX0_cutterAsWritten_10 rfl ?_
    refine qp_bipush (v := 6) dX0_cutterAsWritten_11 (by decide) ?_
    refine qp_icmp_ge 27 dX0_cutterAsWritten_13 (by decide) (fun c_13 => ?_) (fun c_13 => ?_)
    · have hk6 := nI_of_ge rfl (by omega) c_13
      refine qp_iload_n dX0_cutterAsWritten_27 rfl ?_
      exact qr_i dX0_cutterAsWritten_28 rfl rfl rfl ⟨rfl, by rw [hQ, show 6 - k = 0 by omega]; simp⟩
    · have hk6 := nI_of_nge rfl (by omega) c_13
      refine qp_iload_n dX0_cutterAsWritten_16 rfl ?_
      refine qp_bipush (v := 10) dX0_cutterAsWritten_17 (by decide) ?_
      refine qp_idiv dX0_cutterAsWritten_19 (by decide) ?_
      refine QP.topI (y := nI (c / 10)) (pk_div (by omega) (by decide) (by decide)) ?_
      refine qp_istore_n dX0_cutterAsWritten_20 (by decide) ?_
      refine QP.locsE (L1 := [some (.ref a), some (.int (nI (c / 10))), some (.int (nI k))]) rfl ?_
      refine qp_iinc (v := nI (k + 1)) dX0_cutterAsWritten_21 rfl (by decide) (nI_1 k) ?_
      refine QP.locsE (L1 := [some (.ref a), some (.int (nI (c / 10))), some (.int (nI (k + 1)))]) rfl ?_
      refine qp_goto 10 dX0_cutterAsWritten_24 (by decide) ?_
      refine ih (k + 1) (c / 10) (by omega) (by omega) (by omega) ?_
      rw [hQ, show 6 - k = (6 - (k + 1)) + 1 by omega, Nat.pow_succ, Nat.mul_comm, Nat.div_div_eq_div_mul]
set_option maxHeartbeats 4000000 in
set_option maxRecDepth 100000 in
theorem c_cutterAsWritten (G : qG) {h : qH} {a ln c n : Nat} {x : CNv} (hc : x.cut = nI c) (hn : x.cutn = nI n) (hn6 : n ≤ 6) (hc31 : c < 2147483648) (ga : h a = some (cnCell x ln)) : qMet G M_X0_cutterAsWritten [.ref a] h (qI (fun v h1 => h1 = h ∧ v = nI (c / 10 ^ (6 - n)))) := by
  refine qMet.of (by decide) (Nat.le_of_ble_eq_true rfl) rfl ?_
  refine QP.locsE (L1 := [some (.ref a), none, none]) rfl ?_
  refine qp_aload_n dX0_cutterAsWritten_0 rfl ?_
  refine qp_getf dX0_cutterAsWritten_1 fX0_28 ga rfl ?_
  refine qp_istore_n dX0_cutterAsWritten_4 (by decide) ?_
  refine QP.locsE (L1 := [some (.ref a), some (.int (x.cut)), none]) rfl ?_
  refine qp_aload_n dX0_cutterAsWritten_5 rfl ?_
  refine qp_getf dX0_cutterAsWritten_6 fX0_31 ga rfl ?_
  refine qp_istore_n dX0_cutterAsWritten_9 (by decide) ?_
  refine QP.locsE (L1 := [some (.ref a), some (.int (x.cut)), some (.int (x.cutn))]) rfl ?_
  rw [hc, hn]
  exact l_cutterAsWritten 7 n c (by omega) hn6 hc31 rfl
