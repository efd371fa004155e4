theorem sYear_ok {S : Nat → Int32} {p k : Nat} {x y : CNv} {fl g : Nat → Int32} {q : Nat} (h : sYear S p k x fl = .inr (q, y, g)) : y.lc = nI (k + 1) ∧ p ≤ q ∧ q ≤ p + 4 := by
  have b1 := sNumber_le S p 4 4
  have b2 := sNumber_ge S p 4 4
  simp only [sYear] at h
  split at h
  · cases h
  · cases h; exact ⟨rfl, b2, b1⟩
theorem sVolume_ok {S : Nat → Int32} {p k : Nat} {x y : CNv} {fl g : Nat → Int32} {q : Nat} (h : sVolume S p k x fl = .inr (q, y, g)) : y.lc = nI (k + 1) ∧ p ≤ q ∧ q ≤ p + 7 := by
  have b1 := sNumber_le S (p + 2) 1 4
  have b2 := sNumber_ge S (p + 2) 1 4
  simp only [sVolume] at h
  split at h
  · cases h
  · split at h
    · cases h; exact ⟨rfl, by omega, by omega⟩
    · cases h; exact ⟨rfl, by omega, by omega⟩
theorem sMark_ok {S : Nat → Int32} {p k : Nat} {x y : CNv} {fl g : Nat → Int32} {q : Nat} (h : sMark S p k x fl = .inr (q, y, g)) : y.lc = nI (k + 1) ∧ p ≤ q ∧ q ≤ p + 8 := by
  have b1 := mkS_bd S p 8
  simp only [sMark] at h
  split at h
  · cases h
  · cases h; exact ⟨rfl, b1.1, b1.2⟩
theorem sCutter_ok {S : Nat → Int32} {p k : Nat} {x y : CNv} {fl g : Nat → Int32} {q : Nat} (h : sCutter S p k x fl = .inr (q, y, g)) : y.lc = nI (k + 1) ∧ p ≤ q ∧ q ≤ p + 7 := by
  have b1 := sDecimals_le S (p + 1) 6
  have b2 := sDecimals_ge S (p + 1) 6
  simp only [sCutter] at h
  split at h
  · cases h
  · split at h
    · cases h
    · cases h; exact ⟨rfl, by omega, by omega⟩
/-- the class's letters after j turns: packed, the place -/
def ltS (S : Nat → Int32) (p : Nat) : Nat → Int32 × Nat
  | 0 => (0, p)
  | j + 1 => if (ltS S p j).2 = p + j ∧ isCap (S (ltS S p j).2) = true then (((ltS S p j).1 <<< ((8 : Int32) &&& 31)) ||| S (ltS S p j).2, (ltS S p j).2 + 1) else ((ltS S p j).1 <<< ((8 : Int32) &&& 31), (ltS S p j).2)
theorem ltS_bd (S : Nat → Int32) (p : Nat) : ∀ j, p ≤ (ltS S p j).2 ∧ (ltS S p j).2 ≤ p + j
  | 0 => ⟨Nat.le_refl p, Nat.le_refl p⟩
  | j + 1 => by
    have := ltS_bd S p j
    simp only [ltS]
    split
    · exact ⟨by show p ≤ _ + 1; omega, by show _ + 1 ≤ _; omega⟩
    · exact ⟨by show p ≤ _; omega, by show _ ≤ _; omega⟩
def sLetters (S : Nat → Int32) (p k : Nat) (x : CNv) (fl : Nat → Int32) : ROut := if (ltS S p 3).2 ≤ p then .inl (ltS S p 3).2 else .inr ((ltS S p 3).2, ((ltS S p 3).1, nI ((ltS S p 3).2 - p), x.cd, x.cap, x.cut, x.cutn, x.year, x.vol, x.voll, x.mark, x.markn, nI (k + 1)), upd fl k (nI ((ltS S p 3).2 - p)))
theorem sLetters_ok {S : Nat → Int32} {p k : Nat} {x y : CNv} {fl g : Nat → Int32} {q : Nat} (h : sLetters S p k x fl = .inr (q, y, g)) : y.lc = nI (k + 1) ∧ p ≤ q ∧ q ≤ p + 3 := by
  have b1 := ltS_bd S p 3
  simp only [sLetters] at h
  split at h
  · cases h
  · cases h; exact ⟨rfl, b1.1, b1.2⟩
set_option maxHeartbeats 4000000 in
set_option maxRecDepth 100000 in
theorem l_readClassLetters {G : qG} {h0 : qH} {lt : Int32} {r sgn c n ln p k : Nat} {f : Nat → Int32} {x : CNv} {fl : Nat → Int32} (nr : G.2.1 ≤ r) (nn : G.2.1 ≤ n) (nl : G.2.1 ≤ ln) (hc : c ≤ 60) (hp : p ≤ 100) (hk : x.lc = nI k) (hk6 : k < 6) : ∀ (m j : Nat) (h : qH), 3 < j + m → j ≤ 3 → h r = some (rdCell lt sgn (nI c) (nI (ltS (Sg c f) p j).2)) → h sgn = some (sgCell f) → h n = some (cnCell x ln) → h ln = some (lnCell fl) → (∀ b : Nat, b ≠ r → b ≠ n → b ≠ ln → h b = h0 b) → QP G M_X1_readClassLetters qTr (qMZ G M_X1_readClassLetters (qI (fun v h1 => v = bI (oOk (sLetters (Sg c f) p k x fl)) ∧ RdOut h0 h1 lt r sgn c n ln (sLetters (Sg c f) p k x fl)))) 10 [some (.ref r), some (.ref n), some (.int (ltS (Sg c f) p j).1), some (.int (nI p)), some (.int (nI j))] [] h 0 0 := by
  intro m
  induction m with
  | zero =>
    intro j h h1 h2
    omega
  | succ m ih =>
    intro j h h1 h2 gr gs gn gl hfr
    refine qp_iload dX1_readClassLetters_10 rfl ?_
    refine qp_iconst (v := 3) dX1_readClassLetters_12 (by decide) ?_
    refine qp_icmp_ge 73 dX1_readClassLetters_13 (by decide) (fun c_13 => ?_) (fun c_13 => ?_)
    · have hj3 : j = 3 := by have := (nI_leI (a := 3) (by decide) (by omega)).mp c_13; omega
      subst hj3
      have bd := ltS_bd (Sg c f) p 3
      refine qp_aload_n dX1_readClassLetters_73 rfl ?_
      refine qp_iload_n dX1_readClassLetters_74 rfl ?_
      refine qk_put dX1_readClassLetters_75 fX1_80 gn nn rfl rfl rfl rfl rfl (fun h1 g2 o3 => ?_)
      have g4 : h1 r = some (.inr (2, [.int (lt), .ref sgn, .int (nI c), .int (nI ((ltS (Sg c f) p 3).2))])) := (o3 _ (ne_of_cells gr gn (by simp))).trans gr
      have g5 : h1 sgn = some (.inl (0, 60, .inl (f))) := (o3 _ (ne_of_cells gs gn (by simp))).trans gs
      have g6 : h1 ln = some (.inl (0, 6, .inl (fl))) := (o3 _ (ne_of_cells gl gn (by simp))).trans gl
      have g2 : h1 n = some (.inr (1, [.int ((ltS (Sg c f) p 3).1), .int (x.cc), .long (x.cd), .int (x.cap), .int (x.cut), .int (x.cutn), .int (x.year), .int (x.vol), .int (x.voll), .long (x.mark), .int (x.markn), .ref ln, .int (x.lc)])) := g2
      refine qp_aload_n dX1_readClassLetters_78 rfl ?_
      refine qp_aload_n dX1_readClassLetters_79 rfl ?_
      refine qp_getf dX1_readClassLetters_80 fX1_23 g4 rfl ?_
      refine qp_iload_n dX1_readClassLetters_83 rfl ?_
      refine qp_isub dX1_readClassLetters_84 ?_
      refine QP.topI (y := nI ((ltS (Sg c f) p 3).2 - p)) (pk_sub (by omega)) ?_
      refine qk_put dX1_readClassLetters_85 fX1_83 g2 nn rfl rfl rfl rfl rfl (fun h7 g8 o9 => ?_)
      have g10 : h7 r = some (.inr (2, [.int (lt), .ref sgn, .int (nI c), .int (nI ((ltS (Sg c f) p 3).2))])) := (o9 _ (ne_of_cells g4 g2 (by simp))).trans g4
      have g11 : h7 sgn = some (.inl (0, 60, .inl (f))) := (o9 _ (ne_of_cells g5 g2 (by simp))).trans g5
      have g12 : h7 ln = some (.inl (0, 6, .inl (fl))) := (o9 _ (ne_of_cells g6 g2 (by simp))).trans g6
      have g8 : h7 n = some (.inr (1, [.int ((ltS (Sg c f) p 3).1), .int (nI ((ltS (Sg c f) p 3).2 - p)), .long (x.cd), .int (x.cap), .int (x.cut), .int (x.cutn), .int (x.year), .int (x.vol), .int (x.voll), .long (x.mark), .int (x.markn), .ref ln, .int (x.lc)])) := g8
      refine qp_aload_n dX1_readClassLetters_88 rfl ?_
      refine qp_aload_n dX1_readClassLetters_89 rfl ?_
      refine qp_getf dX1_readClassLetters_90 fX1_23 g10 rfl ?_
      refine qp_iload_n dX1_readClassLetters_93 rfl ?_
      refine qp_isub dX1_readClassLetters_94 ?_
      refine QP.topI (y := nI ((ltS (Sg c f) p 3).2 - p)) (pk_sub (by omega)) ?_
      refine qv_V dX1_readClassLetters_95 mX1_69 (c_addLine G (x := ((ltS (Sg c f) p 3).1, nI ((ltS (Sg c f) p 3).2 - p), x.cd, x.cap, x.cut, x.cutn, x.year, x.vol, x.voll, x.mark, x.markn, x.lc)) (k := k) (nI ((ltS (Sg c f) p 3).2 - p)) nn nl hk (by omega) g8 g12) g8 rfl rfl rfl rfl rfl rfl rfl (fun h14 p15 => ?_)
      obtain ⟨g16, g17, o18⟩ := p15
      have g19 : h14 r = some (.inr (2, [.int (lt), .ref sgn, .int (nI c), .int (nI ((ltS (Sg c f) p 3).2))])) := (o18 _ (ne_of_cells g10 g8 (by simp)) (ne_of_cells g10 g12 (by simp))).trans g10
      have g20 : h14 sgn = some (.inl (0, 60, .inl (f))) := (o18 _ (ne_of_cells g11 g8 (by simp)) (ne_of_cells g11 g12 (by simp))).trans g11
      have g16 : h14 n = some (.inr (1, [.int ((ltS (Sg c f) p 3).1), .int (nI ((ltS (Sg c f) p 3).2 - p)), .long (x.cd), .int (x.cap), .int (x.cut), .int (x.cutn), .int (x.year), .int (x.vol), .int (x.voll), .long (x.mark), .int (x.markn), .ref ln, .int (nI (k + 1))])) := g16
      have g17 : h14 ln = some (.inl (0, 6, .inl (upd (fl) (k) (nI ((ltS (Sg c f) p 3).2 - p))))) := g17
      refine qp_aload_n dX1_readClassLetters_98 rfl ?_
      refine qp_getf dX1_readClassLetters_99 fX1_23 g19 rfl ?_
      refine qp_iload_n dX1_readClassLetters_102 rfl ?_
      refine qp_icmp_le 110 dX1_readClassLetters_103 (by decide) (fun c_103 => ?_) (fun c_103 => ?_)
      · rw [nI_leI (by omega) (by omega)] at c_103
        refine qp_iconst (v := 0) dX1_readClassLetters_110 (by decide) ?_
        exact qr_z dX1_readClassLetters_111 rfl nar_0 rfl rfl ⟨by simp only [sLetters]; rw [if_pos c_103]; rfl, by simp only [sLetters]; rw [if_pos c_103]; exact ⟨g19, fun b hb1 hb2 hb3 => (((o18 b hb2 hb3).trans (o9 b hb2)).trans (o3 b hb2)).trans (hfr b hb1 hb2 hb3)⟩⟩
      · rw [nI_leI (by omega) (by omega)] at c_103
        refine qp_iconst (v := 1) dX1_readClassLetters_106 (by decide) ?_
        refine qp_goto 111 dX1_readClassLetters_107 (by decide) ?_
        exact qr_z dX1_readClassLetters_111 rfl nar_1 rfl rfl ⟨by simp only [sLetters]; rw [if_neg c_103]; rfl, by simp only [sLetters]; rw [if_neg c_103]; exact ⟨g19, g16, g17, fun b hb1 hb2 hb3 => (((o18 b hb2 hb3).trans (o9 b hb2)).trans (o3 b hb2)).trans (hfr b hb1 hb2 hb3)⟩⟩
    · have hj3 : j < 3 := Nat.not_le.mp fun q => c_13 ((nI_leI (a := 3) (by decide) (by omega)).mpr q)
      have bd := ltS_bd (Sg c f) p j
      refine qp_iload_n dX1_readClassLetters_16 rfl ?_
      refine qp_bipush (v := 8) dX1_readClassLetters_17 (by decide) ?_
      refine qp_ishl dX1_readClassLetters_19 ?_
      refine qp_istore_n dX1_readClassLetters_20 (by decide) ?_
      refine QP.locsE (L1 := [some (.ref r), some (.ref n), some (.int (((ltS (Sg c f) p j).1) <<< ((8) &&& 31))), some (.int (nI p)), some (.int (nI j))]) rfl ?_
      refine qp_aload_n dX1_readClassLetters_21 rfl ?_
      refine qp_getf dX1_readClassLetters_22 fX1_23 gr rfl ?_
      refine qp_iload_n dX1_readClassLetters_25 rfl ?_
      refine qp_iload dX1_readClassLetters_26 rfl ?_
      refine qp_iadd dX1_readClassLetters_28 ?_
      refine QP.topI (y := nI (p + j)) (nI_add p j) ?_
      refine qp_icmp_ne 67 dX1_readClassLetters_29 (by decide) (fun c_29 => ?_) (fun c_29 => ?_)
      · refine qp_iinc (v := nI (j + 1)) dX1_readClassLetters_67 rfl (by decide) (nI_1 j) ?_
        refine QP.locsE (L1 := [some (.ref r), some (.ref n), some (.int (((ltS (Sg c f) p j).1) <<< ((8) &&& 31))), some (.int (nI p)), some (.int (nI (j + 1)))]) rfl ?_
        refine qp_goto 10 dX1_readClassLetters_70 (by decide) ?_
        have e9 : ltS (Sg c f) p (j + 1) = ((((ltS (Sg c f) p j).1) <<< ((8) &&& 31), (ltS (Sg c f) p j).2) : Int32 × Nat) := by simp only [ltS]; rw [if_neg (fun q => c_29 (by rw [q.1]))]
        have e10 : h r = some (rdCell lt sgn (nI c) (nI (ltS (Sg c f) p (j + 1)).2)) := by rw [e9]; exact gr
        refine QP.topL2 (v := (ltS (Sg c f) p (j + 1)).1) (by rw [e9]) ?_
        exact ih (j + 1) h (by omega) (by omega) e10 gs gn gl hfr
      · refine qp_aload_n dX1_readClassLetters_32 rfl ?_
        refine qp_aload_n dX1_readClassLetters_33 rfl ?_
        refine qp_getf dX1_readClassLetters_34 fX1_23 gr rfl ?_
        refine qv_Ip dX1_readClassLetters_37 mX1_73 (c_signAt G ((ltS (Sg c f) p j).2) (by omega) hc gr gs) gr rfl rfl rfl rfl rfl rfl rfl ?_
        refine qs_Ip dX1_readClassLetters_40 mX1_77 (c_isCapital G (Sg c f ((ltS (Sg c f) p j).2))) rfl rfl rfl rfl rfl rfl ?_
        refine qp_if_eq 67 dX1_readClassLetters_43 (by decide) (fun c_43 => ?_) (fun c_43 => ?_)
        · rw [bI_0] at c_43
          refine qp_iinc (v := nI (j + 1)) dX1_readClassLetters_67 rfl (by decide) (nI_1 j) ?_
          refine QP.locsE (L1 := [some (.ref r), some (.ref n), some (.int (((ltS (Sg c f) p j).1) <<< ((8) &&& 31))), some (.int (nI p)), some (.int (nI (j + 1)))]) rfl ?_
          refine qp_goto 10 dX1_readClassLetters_70 (by decide) ?_
          have e9 : ltS (Sg c f) p (j + 1) = ((((ltS (Sg c f) p j).1) <<< ((8) &&& 31), (ltS (Sg c f) p j).2) : Int32 × Nat) := by simp only [ltS]; rw [if_neg (fun q => by rw [q.2] at c_43; exact absurd c_43 (by decide))]
          have e10 : h r = some (rdCell lt sgn (nI c) (nI (ltS (Sg c f) p (j + 1)).2)) := by rw [e9]; exact gr
          refine QP.topL2 (v := (ltS (Sg c f) p (j + 1)).1) (by rw [e9]) ?_
          exact ih (j + 1) h (by omega) (by omega) e10 gs gn gl hfr
        · rw [bI_n0] at c_43
          refine qp_iload_n dX1_readClassLetters_46 rfl ?_
          refine qp_aload_n dX1_readClassLetters_47 rfl ?_
          refine qp_aload_n dX1_readClassLetters_48 rfl ?_
          refine qp_getf dX1_readClassLetters_49 fX1_23 gr rfl ?_
          refine qv_Ip dX1_readClassLetters_52 mX1_73 (c_signAt G ((ltS (Sg c f) p j).2) (by omega) hc gr gs) gr rfl rfl rfl rfl rfl rfl rfl ?_
          refine qp_ior dX1_readClassLetters_55 ?_
          refine qp_istore_n dX1_readClassLetters_56 (by decide) ?_
          refine QP.locsE (L1 := [some (.ref r), some (.ref n), some (.int ((((ltS (Sg c f) p j).1) <<< ((8) &&& 31)) ||| (Sg c f ((ltS (Sg c f) p j).2)))), some (.int (nI p)), some (.int (nI j))]) rfl ?_
          refine qp_aload_n dX1_readClassLetters_57 rfl ?_
          refine qp_dup dX1_readClassLetters_58 rfl ?_
          refine qp_getf dX1_readClassLetters_59 fX1_23 gr rfl ?_
          refine qp_iconst (v := 1) dX1_readClassLetters_62 (by decide) ?_
          refine qp_iadd dX1_readClassLetters_63 ?_
          refine QP.topI (y := nI ((ltS (Sg c f) p j).2 + 1)) (nI_1 _) ?_
          refine qk_put dX1_readClassLetters_64 fX1_23 gr nr rfl rfl rfl rfl rfl (fun h30 g31 o32 => ?_)
          have g33 : h30 sgn = some (.inl (0, 60, .inl (f))) := (o32 _ (ne_of_cells gs gr (by simp))).trans gs
          have g34 : h30 n = some (.inr (1, [.int (x.cl), .int (x.cc), .long (x.cd), .int (x.cap), .int (x.cut), .int (x.cutn), .int (x.year), .int (x.vol), .int (x.voll), .long (x.mark), .int (x.markn), .ref ln, .int (x.lc)])) := (o32 _ (ne_of_cells gn gr (by simp))).trans gn
          have g35 : h30 ln = some (.inl (0, 6, .inl (fl))) := (o32 _ (ne_of_cells gl gr (by simp))).trans gl
          have g31 : h30 r = some (.inr (2, [.int (lt), .ref sgn, .int (nI c), .int (nI ((ltS (Sg c f) p j).2 + 1))])) := g31
          refine qp_iinc (v := nI (j + 1)) dX1_readClassLetters_67 rfl (by decide) (nI_1 j) ?_
          refine QP.locsE (L1 := [some (.ref r), some (.ref n), some (.int ((((ltS (Sg c f) p j).1) <<< ((8) &&& 31)) ||| (Sg c f ((ltS (Sg c f) p j).2)))), some (.int (nI p)), some (.int (nI (j + 1)))]) rfl ?_
          refine qp_goto 10 dX1_readClassLetters_70 (by decide) ?_
          have e9 : ltS (Sg c f) p (j + 1) = (((((ltS (Sg c f) p j).1) <<< ((8) &&& 31)) ||| (Sg c f ((ltS (Sg c f) p j).2)), (ltS (Sg c f) p j).2 + 1) : Int32 × Nat) := by simp only [ltS]; rw [if_pos ⟨(nI_eq (by omega) (by omega)).mp c_29, c_43⟩]
          have e10 : h30 r = some (rdCell lt sgn (nI c) (nI (ltS (Sg c f) p (j + 1)).2)) := by rw [e9]; exact g31
          refine QP.topL2 (v := (ltS (Sg c f) p (j + 1)).1) (by rw [e9]) ?_
          exact ih (j + 1) h30 (by omega) (by omega) e10 g33 g34 g35 (fun b hb1 hb2 hb3 => (o32 b hb1).trans (hfr b hb1 hb2 hb3))
set_option maxHeartbeats 4000000 in
set_option maxRecDepth 100000 in
theorem c_readClassLetters (G : qG) {h : qH} {lt : Int32} {r sgn c n ln p k : Nat} {f : Nat → Int32} {x : CNv} {fl : Nat → Int32} (hin : RdIn G h lt r sgn c n ln p k f x fl) : qMet G M_X1_readClassLetters [.ref r, .ref n] h (qI (fun v h1 => v = bI (oOk (sLetters (Sg c f) p k x fl)) ∧ RdOut h h1 lt r sgn c n ln (sLetters (Sg c f) p k x fl))) := by
  obtain ⟨nr, nn, nl, hc, hp, hk, hk6, gr, gs, gn, gl⟩ := hin
  refine qMet.of (by decide) (Nat.le_of_ble_eq_true rfl) rfl ?_
  refine QP.locsE (L1 := [some (.ref r), some (.ref n), none, none, none]) rfl ?_
  refine qp_iconst (v := 0) dX1_readClassLetters_0 (by decide) ?_
  refine qp_istore_n dX1_readClassLetters_1 (by decide) ?_
  refine QP.locsE (L1 := [some (.ref r), some (.ref n), some (.int (0)), none, none]) rfl ?_
  refine qp_aload_n dX1_readClassLetters_2 rfl ?_
  refine qp_getf dX1_readClassLetters_3 fX1_23 gr rfl ?_
  refine qp_istore_n dX1_readClassLetters_6 (by decide) ?_
  refine QP.locsE (L1 := [some (.ref r), some (.ref n), some (.int (0)), some (.int (nI p)), none]) rfl ?_
  refine qp_iconst (v := 0) dX1_readClassLetters_7 (by decide) ?_
  refine qp_istore dX1_readClassLetters_8 (by decide) ?_
  refine QP.locsE (L1 := [some (.ref r), some (.ref n), some (.int (0)), some (.int (nI p)), some (.int (0))]) rfl ?_
  exact l_readClassLetters nr nn nl hc hp hk hk6 4 0 h (by omega) (by omega) gr gs gn gl (fun _ _ _ _ => rfl)
def sClassD (S : Nat → Int32) (p k : Nat) (x : CNv) (fl : Nat → Int32) : ROut := if (sDigits S p 3 3).1 = false then .inl (sDigits S p 3 3).2 else if (sFraction S (sDigits S p 3 3).2 9).1 = false then .inl (sFraction S (sDigits S p 3 3).2 9).2 else .inr ((sFraction S (sDigits S p 3 3).2 9).2, (x.cl, x.cc, (sFill S p (sDigits S p 3 3).2 ((sDigits S p 3 3).2 - p)) * lN (10 ^ 9) + sFill S ((sDigits S p 3 3).2 + 1) (sFraction S (sDigits S p 3 3).2 9).2 9, x.cap, x.cut, x.cutn, x.year, x.vol, x.voll, x.mark, x.markn, nI (k + 1)), upd fl k (nI ((sFraction S (sDigits S p 3 3).2 9).2 - p)))
def sClassN (S : Nat → Int32) (p k : Nat) (x : CNv) (fl : Nat → Int32) : ROut := if (sNumber S p 1 4).1 = false then .inl (sNumber S p 1 4).2 else if (sFraction S (sNumber S p 1 4).2 4).1 = false then .inl (sFraction S (sNumber S p 1 4).2 4).2 else .inr ((sFraction S (sNumber S p 1 4).2 4).2, (x.cl, x.cc, (sFill S p (sNumber S p 1 4).2 ((sNumber S p 1 4).2 - p)) * lN (10 ^ 4) + sFill S ((sNumber S p 1 4).2 + 1) (sFraction S (sNumber S p 1 4).2 4).2 4, x.cap, x.cut, x.cutn, x.year, x.vol, x.voll, x.mark, x.markn, nI (k + 1)), upd fl k (nI ((sFraction S (sNumber S p 1 4).2 4).2 - p)))
theorem sClassD_ok {S : Nat → Int32} {p k : Nat} {x y : CNv} {fl g : Nat → Int32} {q : Nat} (h : sClassD S p k x fl = .inr (q, y, g)) : y.lc = nI (k + 1) ∧ p ≤ q ∧ q ≤ p + 13 := by
  have b1 := sDigits_le S p 3 3
  have b2 := sDigits_ge S p 3 3
  have b3 := sFraction_le S (sDigits S p 3 3).2 9
  have b4 := sFraction_ge S (sDigits S p 3 3).2 9
  simp only [sClassD] at h
  split at h
  · cases h
  · split at h
    · cases h
    · cases h; exact ⟨rfl, by omega, by omega⟩
theorem sClassN_ok {S : Nat → Int32} {p k : Nat} {x y : CNv} {fl g : Nat → Int32} {q : Nat} (h : sClassN S p k x fl = .inr (q, y, g)) : y.lc = nI (k + 1) ∧ p ≤ q ∧ q ≤ p + 9 := by
  have b1 := sNumber_le S p 1 4
  have b2 := sNumber_ge S p 1 4
  have b3 := sFraction_le S (sNumber S p 1 4).2 4
  have b4 := sFraction_ge S (sNumber S p 1 4).2 4
  simp only [sClassN] at h
  split at h
  · cases h
  · split at h
    · cases h
    · cases h; exact ⟨rfl, by omega, by omega⟩
def oThen (o : ROut) (g : Nat → CNv → (Nat → Int32) → ROut) : ROut := match o with
  | .inl w => .inl w
  | .inr y => g y.1 y.2.1 y.2.2
def sClassL (S : Nat → Int32) (p k : Nat) (x : CNv) (fl : Nat → Int32) : ROut := oThen (sLetters S p k x fl) (fun q y g => sClassN S q (k + 1) y g)
theorem sClassL_ok {S : Nat → Int32} {p k : Nat} {x y : CNv} {fl g : Nat → Int32} {q : Nat} (h : sClassL S p k x fl = .inr (q, y, g)) : y.lc = nI (k + 2) ∧ p ≤ q ∧ q ≤ p + 12 := by
  simp only [sClassL, oThen] at h
  split at h
  · cases h
  · next z hz =>
    obtain ⟨a, b, d⟩ := z
    have h1 := sLetters_ok hz
    have h2 := sClassN_ok h
    exact ⟨h2.1, by omega, by omega⟩
set_option maxHeartbeats 4000000 in
set_option maxRecDepth 100000 in
theorem c_readClassD (G : qG) {h : qH} {r sgn c n ln p k : Nat} {f : Nat → Int32} {x : CNv} {fl : Nat → Int32} (hin : RdIn G h 0 r sgn c n ln p k f x fl) : qMet G M_X1_readClass [.ref r, .ref n] h (qI (fun v h1 => v = bI (oOk (sClassD (Sg c f) p k x fl)) ∧ RdOut h h1 0 r sgn c n ln (sClassD (Sg c f) p k x fl))) := by
  obtain ⟨nr, nn, nl, hc, hp, hk, hk6, gr, gs, gn, gl⟩ := hin
  refine qMet.of (by decide) (Nat.le_of_ble_eq_true rfl) rfl ?_
  refine QP.locsE (L1 := [some (.ref r), some (.ref n), none, none, none, none, none, none]) rfl ?_
  refine qp_aload_n dX1_readClass_0 rfl ?_
  refine qp_getf dX1_readClass_1 fX1_15 gr rfl ?_
  refine qp_if_eq 17 dX1_readClass_4 (by decide) (fun c_4 => ?_) (fun c_4 => absurd rfl c_4)
  refine qp_aload_n dX1_readClass_17 rfl ?_
  refine qp_getf dX1_readClass_18 fX1_23 gr rfl ?_
  refine qp_istore_n dX1_readClass_21 (by decide) ?_
  refine QP.locsE (L1 := [some (.ref r), some (.ref n), some (.int (nI p)), none, none, none, none, none]) rfl ?_
  refine qp_aload_n dX1_readClass_22 rfl ?_
  refine qp_getf dX1_readClass_23 fX1_15 gr rfl ?_
  refine qp_if_eq 38 dX1_readClass_26 (by decide) (fun c_26 => ?_) (fun c_26 => absurd rfl c_26)
  refine qp_aload_n dX1_readClass_38 rfl ?_
  refine qp_iconst (v := 3) dX1_readClass_39 (by decide) ?_
  refine qp_iconst (v := 3) dX1_readClass_40 (by decide) ?_
  refine qv_Iq dX1_readClass_41 mX1_50 (c_readDigits G (3) (3) (by omega) (by omega) nr hc (by omega) gr gs) gr rfl rfl rfl rfl rfl rfl rfl (fun h3 p4 => ?_)
  have le1 := sDigits_le (Sg c f) (p) (3) (3)
  have ge1 := sDigits_ge (Sg c f) (p) (3) (3)
  rcases hd1 : sDigits (Sg c f) (p) (3) (3) with ⟨b1, q1⟩
  rw [hd1] at p4 le1 ge1
  dsimp only at le1 ge1
  obtain ⟨g5, o6⟩ := p4
  have g7 : h3 sgn = some (.inl (0, 60, .inl (f))) := (o6 _ (ne_of_cells gs gr (by simp))).trans gs
  have g8 : h3 n = some (.inr (1, [.int (x.cl), .int (x.cc), .long (x.cd), .int (x.cap), .int (x.cut), .int (x.cutn), .int (x.year), .int (x.vol), .int (x.voll), .long (x.mark), .int (x.markn), .ref ln, .int (x.lc)])) := (o6 _ (ne_of_cells gn gr (by simp))).trans gn
  have g9 : h3 ln = some (.inl (0, 6, .inl (fl))) := (o6 _ (ne_of_cells gl gr (by simp))).trans gl
  have g5 : h3 r = some (.inr (2, [.int (0), .ref sgn, .int (nI c), .int (nI q1)])) := g5
  refine QP.topI (y := bI b1) rfl ?_
  refine qp_istore_n dX1_readClass_44 (by decide) ?_
  refine QP.locsE (L1 := [some (.ref r), some (.ref n), some (.int (nI p)), some (.int (bI b1)), none, none, none, none]) rfl ?_
  refine qp_aload_n dX1_readClass_45 rfl ?_
  refine qp_getf dX1_readClass_46 fX1_23 g5 rfl ?_
  refine qp_istore dX1_readClass_49 (by decide) ?_
  refine QP.locsE (L1 := [some (.ref r), some (.ref n), some (.int (nI p)), some (.int (bI b1)), some (.int (nI q1)), none, none, none]) rfl ?_
  refine qp_aload_n dX1_readClass_51 rfl ?_
  refine qp_getf dX1_readClass_52 fX1_15 g5 rfl ?_
  refine qp_if_eq 62 dX1_readClass_55 (by decide) (fun c_55 => ?_) (fun c_55 => absurd rfl c_55)
  refine qp_bipush (v := 9) dX1_readClass_62 (by decide) ?_
  refine qp_istore dX1_readClass_64 (by decide) ?_
  refine QP.locsE (L1 := [some (.ref r), some (.ref n), some (.int (nI p)), some (.int (bI b1)), some (.int (nI q1)), some (.int (9)), none, none]) rfl ?_
  refine qp_iload_n dX1_readClass_66 rfl ?_
  refine qp_if_eq 79 dX1_readClass_67 (by decide) (fun c_67 => ?_) (fun c_67 => ?_)
  · rw [bI_0] at c_67
    refine qp_iconst (v := 0) dX1_readClass_79 (by decide) ?_
    exact qr_z dX1_readClass_80 rfl nar_0 rfl rfl ⟨by simp only [sClassD, hd1, -Nat.reducePow]; rw [if_pos c_67]; rfl, by simp only [sClassD, hd1, -Nat.reducePow]; rw [if_pos c_67]; exact ⟨g5, fun b hb1 hb2 hb3 => (o6 b hb1)⟩⟩
  · rw [bI_n0] at c_67
    refine qp_aload_n dX1_readClass_70 rfl ?_
    refine qp_iload dX1_readClass_71 rfl ?_
    refine qv_Iq dX1_readClass_73 mX1_53 (c_readFraction G (9) (by omega) nr hc (by omega) g5 g7) g5 rfl rfl rfl rfl rfl rfl rfl (fun h12 p13 => ?_)
    have le10 := sFraction_le (Sg c f) (q1) (9)
    have ge10 := sFraction_ge (Sg c f) (q1) (9)
    rcases hd10 : sFraction (Sg c f) (q1) (9) with ⟨b10, q10⟩
    rw [hd10] at p13 le10 ge10
    dsimp only at le10 ge10
    obtain ⟨g14, o15⟩ := p13
    have g16 : h12 sgn = some (.inl (0, 60, .inl (f))) := (o15 _ (ne_of_cells g7 g5 (by simp))).trans g7
    have g17 : h12 n = some (.inr (1, [.int (x.cl), .int (x.cc), .long (x.cd), .int (x.cap), .int (x.cut), .int (x.cutn), .int (x.year), .int (x.vol), .int (x.voll), .long (x.mark), .int (x.markn), .ref ln, .int (x.lc)])) := (o15 _ (ne_of_cells g8 g5 (by simp))).trans g8
    have g18 : h12 ln = some (.inl (0, 6, .inl (fl))) := (o15 _ (ne_of_cells g9 g5 (by simp))).trans g9
    have g14 : h12 r = some (.inr (2, [.int (0), .ref sgn, .int (nI c), .int (nI q10)])) := g14
    refine QP.topI (y := bI b10) rfl ?_
    refine qp_if_ne 81 dX1_readClass_76 (by decide) (fun c_76 => ?_) (fun c_76 => ?_)
    · rw [bI_n0] at c_76
      refine qp_aload_n dX1_readClass_81 rfl ?_
      refine qp_iload_n dX1_readClass_82 rfl ?_
      refine qp_iload dX1_readClass_83 rfl ?_
      refine qp_iload dX1_readClass_85 rfl ?_
      refine qp_iload_n dX1_readClass_87 rfl ?_
      refine qp_isub dX1_readClass_88 ?_
      refine QP.topI (y := nI (q1 - p)) (pk_sub (by omega)) ?_
      refine qv_Jp dX1_readClass_89 mX1_57 (c_filledUp G (p) (q1) (q1 - p) (by omega) (by omega) (by omega) hc g14 g16) g14 rfl rfl rfl rfl rfl rfl rfl ?_
      refine qp_lstore dX1_readClass_92 (by decide) ?_
      refine QP.locsE (L1 := [some (.ref r), some (.ref n), some (.int (nI p)), some (.int (bI b1)), some (.int (nI q1)), some (.int (9)), some (.long (sFill (Sg c f) (p) (q1) (q1 - p))), none]) rfl ?_
      refine qp_aload_n dX1_readClass_94 rfl ?_
      refine qp_lload dX1_readClass_95 rfl ?_
      refine qp_iload dX1_readClass_97 rfl ?_
      refine qs_Jp dX1_readClass_99 mX1_61 (c_powerOfTen G (9) (by omega)) rfl rfl rfl rfl rfl rfl ?_
      refine qp_lmul dX1_readClass_102 ?_
      refine qp_aload_n dX1_readClass_103 rfl ?_
      refine qp_iload dX1_readClass_104 rfl ?_
      refine qp_iconst (v := 1) dX1_readClass_106 (by decide) ?_
      refine qp_iadd dX1_readClass_107 ?_
      refine QP.topI (y := nI (q1 + 1)) (nI_1 _) ?_
      refine qp_aload_n dX1_readClass_108 rfl ?_
      refine qp_getf dX1_readClass_109 fX1_23 g14 rfl ?_
      refine qp_iload dX1_readClass_112 rfl ?_
      refine qv_Jp dX1_readClass_114 mX1_57 (c_filledUp G (q1 + 1) (q10) (9) (by omega) (by omega) (by omega) hc g14 g16) g14 rfl rfl rfl rfl rfl rfl rfl ?_
      refine qp_ladd dX1_readClass_117 ?_
      refine QP.nameJ (fun V eV => ?_)
      refine qk_put dX1_readClass_118 fX1_65 g17 nn rfl rfl rfl rfl rfl (fun h28 g29 o30 => ?_)
      have g31 : h28 sgn = some (.inl (0, 60, .inl (f))) := (o30 _ (ne_of_cells g16 g17 (by simp))).trans g16
      have g32 : h28 ln = some (.inl (0, 6, .inl (fl))) := (o30 _ (ne_of_cells g18 g17 (by simp))).trans g18
      have g33 : h28 r = some (.inr (2, [.int (0), .ref sgn, .int (nI c), .int (nI q10)])) := (o30 _ (ne_of_cells g14 g17 (by simp))).trans g14
      have g29 : h28 n = some (.inr (1, [.int (x.cl), .int (x.cc), .long (V), .int (x.cap), .int (x.cut), .int (x.cutn), .int (x.year), .int (x.vol), .int (x.voll), .long (x.mark), .int (x.markn), .ref ln, .int (x.lc)])) := g29
      refine qp_aload_n dX1_readClass_121 rfl ?_
      refine qp_aload_n dX1_readClass_122 rfl ?_
      refine qp_getf dX1_readClass_123 fX1_23 g33 rfl ?_
      refine qp_iload_n dX1_readClass_126 rfl ?_
      refine qp_isub dX1_readClass_127 ?_
      refine QP.topI (y := nI (q10 - p)) (pk_sub (by omega)) ?_
      refine qv_V dX1_readClass_128 mX1_69 (c_addLine G (x := (x.cl, x.cc, V, x.cap, x.cut, x.cutn, x.year, x.vol, x.voll, x.mark, x.markn, x.lc)) (k := k) (nI (q10 - p)) nn nl hk (by omega) g29 g32) g29 rfl rfl rfl rfl rfl rfl rfl (fun h35 p36 => ?_)
      obtain ⟨g37, g38, o39⟩ := p36
      have g40 : h35 sgn = some (.inl (0, 60, .inl (f))) := (o39 _ (ne_of_cells g31 g29 (by simp)) (ne_of_cells g31 g32 (by simp))).trans g31
      have g41 : h35 r = some (.inr (2, [.int (0), .ref sgn, .int (nI c), .int (nI q10)])) := (o39 _ (ne_of_cells g33 g29 (by simp)) (ne_of_cells g33 g32 (by simp))).trans g33
      have g37 : h35 n = some (.inr (1, [.int (x.cl), .int (x.cc), .long (V), .int (x.cap), .int (x.cut), .int (x.cutn), .int (x.year), .int (x.vol), .int (x.voll), .long (x.mark), .int (x.markn), .ref ln, .int (nI (k + 1))])) := g37
      have g38 : h35 ln = some (.inl (0, 6, .inl (upd (fl) (k) (nI (q10 - p))))) := g38
      refine qp_iconst (v := 1) dX1_readClass_131 (by decide) ?_
      exact qr_z dX1_readClass_132 rfl nar_1 rfl rfl ⟨by simp only [sClassD, hd1, hd10, -Nat.reducePow]; rw [if_neg (by rw [c_67]; decide), if_neg (by rw [c_76]; decide)]; rfl, by simp only [sClassD, hd1, hd10, -Nat.reducePow]; rw [if_neg (by rw [c_67]; decide), if_neg (by rw [c_76]; decide)]; rw [← eV]; exact ⟨g41, g37, g38, fun b hb1 hb2 hb3 => ((((o39 b hb2 hb3).trans (o30 b hb2)).trans (o15 b hb1)).trans (o6 b hb1))⟩⟩
    · rw [bI_0] at c_76
      refine qp_iconst (v := 0) dX1_readClass_79 (by decide) ?_
      exact qr_z dX1_readClass_80 rfl nar_0 rfl rfl ⟨by simp only [sClassD, hd1, hd10, -Nat.reducePow]; rw [if_neg (by rw [c_67]; decide), if_pos c_76]; rfl, by simp only [sClassD, hd1, hd10, -Nat.reducePow]; rw [if_neg (by rw [c_67]; decide), if_pos c_76]; exact ⟨g14, fun b hb1 hb2 hb3 => ((o15 b hb1).trans (o6 b hb1))⟩⟩
set_option maxHeartbeats 4000000 in
set_option maxRecDepth 100000 in
theorem c_readClassL (G : qG) {h : qH} {r sgn c n ln p k : Nat} {f : Nat → Int32} {x : CNv} {fl : Nat → Int32} (hk5 : k < 5) (hin : RdIn G h 1 r sgn c n ln p k f x fl) : qMet G M_X1_readClass [.ref r, .ref n] h (qI (fun v h1 => v = bI (oOk (sClassL (Sg c f) p k x fl)) ∧ RdOut h h1 1 r sgn c n ln (sClassL (Sg c f) p k x fl))) := by
  obtain ⟨nr, nn, nl, hc, hp, hk, hk6, gr, gs, gn, gl⟩ := hin
  refine qMet.of (by decide) (Nat.le_of_ble_eq_true rfl) rfl ?_
  refine QP.locsE (L1 := [some (.ref r), some (.ref n), none, none, none, none, none, none]) rfl ?_
  refine qp_aload_n dX1_readClass_0 rfl ?_
  refine qp_getf dX1_readClass_1 fX1_15 gr rfl ?_
  refine qp_if_eq 17 dX1_readClass_4 (by decide) (fun c_4 => absurd c_4 (by decide)) (fun c_4 => ?_)
  refine qp_aload_n dX1_readClass_7 rfl ?_
  refine qp_aload_n dX1_readClass_8 rfl ?_
  refine qv_Iq dX1_readClass_9 mX1_43 (c_readClassLetters G (p := p) (x := x) (k := k) ⟨nr, nn, nl, hc, by omega, hk, by omega, gr, gs, gn, gl⟩) gr rfl rfl rfl rfl rfl rfl rfl (fun h2 p3 => ?_)
  rcases hs4 : sLetters (Sg c f) (p) (k) x (fl) with w4 | ⟨q4, y4, f4⟩
  · rw [hs4] at p3
    obtain ⟨g5, o6⟩ := p3
    have g7 : h2 sgn = some (.inl (0, 60, .inl (f))) := (o6 _ (ne_of_cells gs gr (by simp)) (ne_of_cells gs gn (by simp)) (ne_of_cells gs gl (by simp))).trans gs
    have g5 : h2 r = some (.inr (2, [.int (1), .ref sgn, .int (nI c), .int (nI w4)])) := g5
    refine QP.topI (y := 0) rfl ?_
    refine qp_if_ne 17 dX1_readClass_12 (by decide) (fun c_12 => absurd rfl c_12) (fun c_12 => ?_)
    refine qp_iconst (v := 0) dX1_readClass_15 (by decide) ?_
    exact qr_z dX1_readClass_16 rfl nar_0 rfl rfl ⟨by simp only [sClassL]; rw [hs4]; rfl, by simp only [sClassL]; rw [hs4]; exact ⟨g5, fun b hb1 hb2 hb3 => (o6 b hb1 hb2 hb3)⟩⟩
  · rw [hs4] at p3
    obtain ⟨g8, g10, g11, o9⟩ := p3
    obtain ⟨ok12, b13, b14⟩ := sLetters_ok hs4
    have g15 : h2 sgn = some (.inl (0, 60, .inl (f))) := (o9 _ (ne_of_cells gs gr (by simp)) (ne_of_cells gs gn (by simp)) (ne_of_cells gs gl (by simp))).trans gs
    have g8 : h2 r = some (.inr (2, [.int (1), .ref sgn, .int (nI c), .int (nI q4)])) := g8
    have g10 : h2 n = some (.inr (1, [.int (y4.cl), .int (y4.cc), .long (y4.cd), .int (y4.cap), .int (y4.cut), .int (y4.cutn), .int (y4.year), .int (y4.vol), .int (y4.voll), .long (y4.mark), .int (y4.markn), .ref ln, .int (y4.lc)])) := g10
    have g11 : h2 ln = some (.inl (0, 6, .inl (f4))) := g11
    refine QP.topI (y := 1) rfl ?_
    refine qp_if_ne 17 dX1_readClass_12 (by decide) (fun c_12 => ?_) (fun c_12 => absurd c_12 (by decide))
    refine qp_aload_n dX1_readClass_17 rfl ?_
    refine qp_getf dX1_readClass_18 fX1_23 g8 rfl ?_
    refine qp_istore_n dX1_readClass_21 (by decide) ?_
    refine QP.locsE (L1 := [some (.ref r), some (.ref n), some (.int (nI q4)), none, none, none, none, none]) rfl ?_
    refine qp_aload_n dX1_readClass_22 rfl ?_
    refine qp_getf dX1_readClass_23 fX1_15 g8 rfl ?_
    refine qp_if_eq 38 dX1_readClass_26 (by decide) (fun c_26 => absurd c_26 (by decide)) (fun c_26 => ?_)
    refine qp_aload_n dX1_readClass_29 rfl ?_
    refine qp_iconst (v := 1) dX1_readClass_30 (by decide) ?_
    refine qp_iconst (v := 4) dX1_readClass_31 (by decide) ?_
    refine qv_Iq dX1_readClass_32 mX1_46 (c_readNumber G (1) (4) (by omega) (by omega) nr hc (by omega) g8 g15) g8 rfl rfl rfl rfl rfl rfl rfl (fun h18 p19 => ?_)
    have le16 := sNumber_le (Sg c f) (q4) (1) (4)
    have ge16 := sNumber_ge (Sg c f) (q4) (1) (4)
    rcases hd16 : sNumber (Sg c f) (q4) (1) (4) with ⟨b16, q16⟩
    rw [hd16] at p19 le16 ge16
    dsimp only at le16 ge16
    obtain ⟨g20, o21⟩ := p19
    have g22 : h18 sgn = some (.inl (0, 60, .inl (f))) := (o21 _ (ne_of_cells g15 g8 (by simp))).trans g15
    have g23 : h18 n = some (.inr (1, [.int (y4.cl), .int (y4.cc), .long (y4.cd), .int (y4.cap), .int (y4.cut), .int (y4.cutn), .int (y4.year), .int (y4.vol), .int (y4.voll), .long (y4.mark), .int (y4.markn), .ref ln, .int (y4.lc)])) := (o21 _ (ne_of_cells g10 g8 (by simp))).trans g10
    have g24 : h18 ln = some (.inl (0, 6, .inl (f4))) := (o21 _ (ne_of_cells g11 g8 (by simp))).trans g11
    have g20 : h18 r = some (.inr (2, [.int (1), .ref sgn, .int (nI c), .int (nI q16)])) := g20
    refine QP.topI (y := bI b16) rfl ?_
    refine qp_goto 44 dX1_readClass_35 (by decide) ?_
    refine qp_istore_n dX1_readClass_44 (by decide) ?_
    refine QP.locsE (L1 := [some (.ref r), some (.ref n), some (.int (nI q4)), some (.int (bI b16)), none, none, none, none]) rfl ?_
    refine qp_aload_n dX1_readClass_45 rfl ?_
    refine qp_getf dX1_readClass_46 fX1_23 g20 rfl ?_
    refine qp_istore dX1_readClass_49 (by decide) ?_
    refine QP.locsE (L1 := [some (.ref r), some (.ref n), some (.int (nI q4)), some (.int (bI b16)), some (.int (nI q16)), none, none, none]) rfl ?_
    refine qp_aload_n dX1_readClass_51 rfl ?_
    refine qp_getf dX1_readClass_52 fX1_15 g20 rfl ?_
    refine qp_if_eq 62 dX1_readClass_55 (by decide) (fun c_55 => absurd c_55 (by decide)) (fun c_55 => ?_)
    refine qp_iconst (v := 4) dX1_readClass_58 (by decide) ?_
    refine qp_goto 64 dX1_readClass_59 (by decide) ?_
    refine qp_istore dX1_readClass_64 (by decide) ?_
    refine QP.locsE (L1 := [some (.ref r), some (.ref n), some (.int (nI q4)), some (.int (bI b16)), some (.int (nI q16)), some (.int (4)), none, none]) rfl ?_
    refine qp_iload_n dX1_readClass_66 rfl ?_
    refine qp_if_eq 79 dX1_readClass_67 (by decide) (fun c_67 => ?_) (fun c_67 => ?_)
    · rw [bI_0] at c_67
      refine qp_iconst (v := 0) dX1_readClass_79 (by decide) ?_
      exact qr_z dX1_readClass_80 rfl nar_0 rfl rfl ⟨by simp only [sClassL]; rw [hs4]; simp only [oThen, sClassN, hd16, -Nat.reducePow]; rw [if_pos c_67]; rfl, by simp only [sClassL]; rw [hs4]; simp only [oThen, sClassN, hd16, -Nat.reducePow]; rw [if_pos c_67]; exact ⟨g20, fun b hb1 hb2 hb3 => ((o21 b hb1).trans (o9 b hb1 hb2 hb3))⟩⟩
    · rw [bI_n0] at c_67
      refine qp_aload_n dX1_readClass_70 rfl ?_
      refine qp_iload dX1_readClass_71 rfl ?_
      refine qv_Iq dX1_readClass_73 mX1_53 (c_readFraction G (4) (by omega) nr hc (by omega) g20 g22) g20 rfl rfl rfl rfl rfl rfl rfl (fun h27 p28 => ?_)
      have le25 := sFraction_le (Sg c f) (q16) (4)
      have ge25 := sFraction_ge (Sg c f) (q16) (4)
      rcases hd25 : sFraction (Sg c f) (q16) (4) with ⟨b25, q25⟩
      rw [hd25] at p28 le25 ge25
      dsimp only at le25 ge25
      obtain ⟨g29, o30⟩ := p28
      have g31 : h27 sgn = some (.inl (0, 60, .inl (f))) := (o30 _ (ne_of_cells g22 g20 (by simp))).trans g22
      have g32 : h27 n = some (.inr (1, [.int (y4.cl), .int (y4.cc), .long (y4.cd), .int (y4.cap), .int (y4.cut), .int (y4.cutn), .int (y4.year), .int (y4.vol), .int (y4.voll), .long (y4.mark), .int (y4.markn), .ref ln, .int (y4.lc)])) := (o30 _ (ne_of_cells g23 g20 (by simp))).trans g23
      have g33 : h27 ln = some (.inl (0, 6, .inl (f4))) := (o30 _ (ne_of_cells g24 g20 (by simp))).trans g24
      have g29 : h27 r = some (.inr (2, [.int (1), .ref sgn, .int (nI c), .int (nI q25)])) := g29
      refine QP.topI (y := bI b25) rfl ?_
      refine qp_if_ne 81 dX1_readClass_76 (by decide) (fun c_76 => ?_) (fun c_76 => ?_)
      · rw [bI_n0] at c_76
        refine qp_aload_n dX1_readClass_81 rfl ?_
        refine qp_iload_n dX1_readClass_82 rfl ?_
        refine qp_iload dX1_readClass_83 rfl ?_
        refine qp_iload dX1_readClass_85 rfl ?_
        refine qp_iload_n dX1_readClass_87 rfl ?_
        refine qp_isub dX1_readClass_88 ?_
        refine QP.topI (y := nI (q16 - q4)) (pk_sub (by omega)) ?_
        refine qv_Jp dX1_readClass_89 mX1_57 (c_filledUp G (q4) (q16) (q16 - q4) (by omega) (by omega) (by omega) hc g29 g31) g29 rfl rfl rfl rfl rfl rfl rfl ?_
        refine qp_lstore dX1_readClass_92 (by decide) ?_
        refine QP.locsE (L1 := [some (.ref r), some (.ref n), some (.int (nI q4)), some (.int (bI b16)), some (.int (nI q16)), some (.int (4)), some (.long (sFill (Sg c f) (q4) (q16) (q16 - q4))), none]) rfl ?_
        refine qp_aload_n dX1_readClass_94 rfl ?_
        refine qp_lload dX1_readClass_95 rfl ?_
        refine qp_iload dX1_readClass_97 rfl ?_
        refine qs_Jp dX1_readClass_99 mX1_61 (c_powerOfTen G (4) (by omega)) rfl rfl rfl rfl rfl rfl ?_
        refine qp_lmul dX1_readClass_102 ?_
        refine qp_aload_n dX1_readClass_103 rfl ?_
        refine qp_iload dX1_readClass_104 rfl ?_
        refine qp_iconst (v := 1) dX1_readClass_106 (by decide) ?_
        refine qp_iadd dX1_readClass_107 ?_
        refine QP.topI (y := nI (q16 + 1)) (nI_1 _) ?_
        refine qp_aload_n dX1_readClass_108 rfl ?_
        refine qp_getf dX1_readClass_109 fX1_23 g29 rfl ?_
        refine qp_iload dX1_readClass_112 rfl ?_
        refine qv_Jp dX1_readClass_114 mX1_57 (c_filledUp G (q16 + 1) (q25) (4) (by omega) (by omega) (by omega) hc g29 g31) g29 rfl rfl rfl rfl rfl rfl rfl ?_
        refine qp_ladd dX1_readClass_117 ?_
        refine QP.nameJ (fun V eV => ?_)
        refine qk_put dX1_readClass_118 fX1_65 g32 nn rfl rfl rfl rfl rfl (fun h43 g44 o45 => ?_)
        have g46 : h43 sgn = some (.inl (0, 60, .inl (f))) := (o45 _ (ne_of_cells g31 g32 (by simp))).trans g31
        have g47 : h43 ln = some (.inl (0, 6, .inl (f4))) := (o45 _ (ne_of_cells g33 g32 (by simp))).trans g33
        have g48 : h43 r = some (.inr (2, [.int (1), .ref sgn, .int (nI c), .int (nI q25)])) := (o45 _ (ne_of_cells g29 g32 (by simp))).trans g29
        have g44 : h43 n = some (.inr (1, [.int (y4.cl), .int (y4.cc), .long (V), .int (y4.cap), .int (y4.cut), .int (y4.cutn), .int (y4.year), .int (y4.vol), .int (y4.voll), .long (y4.mark), .int (y4.markn), .ref ln, .int (y4.lc)])) := g44
        refine qp_aload_n dX1_readClass_121 rfl ?_
        refine qp_aload_n dX1_readClass_122 rfl ?_
        refine qp_getf dX1_readClass_123 fX1_23 g48 rfl ?_
        refine qp_iload_n dX1_readClass_126 rfl ?_
        refine qp_isub dX1_readClass_127 ?_
        refine QP.topI (y := nI (q25 - q4)) (pk_sub (by omega)) ?_
        refine qv_V dX1_readClass_128 mX1_69 (c_addLine G (x := (y4.cl, y4.cc, V, y4.cap, y4.cut, y4.cutn, y4.year, y4.vol, y4.voll, y4.mark, y4.markn, y4.lc)) (k := k + 1) (nI (q25 - q4)) nn nl ok12 (by omega) g44 g47) g44 rfl rfl rfl rfl rfl rfl rfl (fun h50 p51 => ?_)
        obtain ⟨g52, g53, o54⟩ := p51
        have g55 : h50 sgn = some (.inl (0, 60, .inl (f))) := (o54 _ (ne_of_cells g46 g44 (by simp)) (ne_of_cells g46 g47 (by simp))).trans g46
        have g56 : h50 r = some (.inr (2, [.int (1), .ref sgn, .int (nI c), .int (nI q25)])) := (o54 _ (ne_of_cells g48 g44 (by simp)) (ne_of_cells g48 g47 (by simp))).trans g48
        have g52 : h50 n = some (.inr (1, [.int (y4.cl), .int (y4.cc), .long (V), .int (y4.cap), .int (y4.cut), .int (y4.cutn), .int (y4.year), .int (y4.vol), .int (y4.voll), .long (y4.mark), .int (y4.markn), .ref ln, .int (nI (k + 1 + 1))])) := g52
        have g53 : h50 ln = some (.inl (0, 6, .inl (upd (f4) (k + 1) (nI (q25 - q4))))) := g53
        refine qp_iconst (v := 1) dX1_readClass_131 (by decide) ?_
        exact qr_z dX1_readClass_132 rfl nar_1 rfl rfl ⟨by simp only [sClassL]; rw [hs4]; simp only [oThen, sClassN, hd16, hd25, -Nat.reducePow]; rw [if_neg (by rw [c_67]; decide), if_neg (by rw [c_76]; decide)]; rfl, by simp only [sClassL]; rw [hs4]; simp only [oThen, sClassN, hd16, hd25, -Nat.reducePow]; rw [if_neg (by rw [c_67]; decide), if_neg (by rw [c_76]; decide)]; rw [← eV]; exact ⟨g56, g52, g53, fun b hb1 hb2 hb3 => (((((o54 b hb2 hb3).trans (o45 b hb2)).trans (o30 b hb1)).trans (o21 b hb1)).trans (o9 b hb1 hb2 hb3))⟩⟩
      · rw [bI_0] at c_76
        refine qp_iconst (v := 0) dX1_readClass_79 (by decide) ?_
        exact qr_z dX1_readClass_80 rfl nar_0 rfl rfl ⟨by simp only [sClassL]; rw [hs4]; simp only [oThen, sClassN, hd16, hd25, -Nat.reducePow]; rw [if_neg (by rw [c_67]; decide), if_pos c_76]; rfl, by simp only [sClassL]; rw [hs4]; simp only [oThen, sClassN, hd16, hd25, -Nat.reducePow]; rw [if_neg (by rw [c_67]; decide), if_pos c_76]; exact ⟨g29, fun b hb1 hb2 hb3 => (((o30 b hb1).trans (o21 b hb1)).trans (o9 b hb1 hb2 hb3))⟩⟩
