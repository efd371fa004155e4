theorem sNumber_le (S : Nat → Int32) (p l m : Nat) : (sNumber S p l m).2 ≤ p + m := by
  have := sDigits_le S p l m
  simp only [sNumber]
  split
  · show p ≤ p + m; omega
  · exact this
theorem sNumber_ge (S : Nat → Int32) (p l m : Nat) : p ≤ (sNumber S p l m).2 := by
  have := sDigits_ge S p l m
  simp only [sNumber]
  split
  · exact Nat.le_refl p
  · exact this
theorem sDecimals_le (S : Nat → Int32) (p m : Nat) : (sDecimals S p m).2 ≤ p + m := by
  have := sDigits_le S p 1 m
  simp only [sDecimals]
  split
  · exact this
  · split
    · show _ - 1 ≤ _; omega
    · exact this
theorem sDecimals_ge (S : Nat → Int32) (p m : Nat) : p ≤ (sDecimals S p m).2 := by
  have := sDigits_ge S p 1 m
  simp only [sDecimals]
  split
  · exact this
  · next h =>
    have h2 := sDigits_run (S := S) (p := p) (m := m) (by simpa using h)
    split
    · show p ≤ _ - 1; omega
    · exact this
theorem sFraction_le (S : Nat → Int32) (p m : Nat) : (sFraction S p m).2 ≤ p + m + 1 := by
  have := sDecimals_le S (p + 1) m
  simp only [sFraction]
  split
  · omega
  · show p ≤ _; omega
theorem sFraction_ge (S : Nat → Int32) (p m : Nat) : p ≤ (sFraction S p m).2 := by
  have := sDecimals_ge S (p + 1) m
  simp only [sFraction]
  split
  · omega
  · exact Nat.le_refl p
theorem sSpace_le (S : Nat → Int32) (p : Nat) : (sSpace S p).2 ≤ p + 1 := by
  simp only [sSpace]
  split
  · exact Nat.le_refl _
  · show p ≤ p + 1; omega
theorem sSpace_ge (S : Nat → Int32) (p : Nat) : p ≤ (sSpace S p).2 := by
  simp only [sSpace]
  split
  · show p ≤ p + 1; omega
  · exact Nat.le_refl p
/-- what reading a part comes to: the wrong place, or the next place with the call number and its lines -/
abbrev ROut : Type := Nat ⊕ (Nat × CNv × (Nat → Int32))
def oOk (o : ROut) : Bool := match o with
  | .inl _ => false
  | .inr _ => true
def RdOut (h h1 : qH) (lt : Int32) (r sgn c n ln : Nat) (o : ROut) : Prop := match o with
  | .inl w => h1 r = some (rdCell lt sgn (nI c) (nI w)) ∧ ∀ b : Nat, b ≠ r → b ≠ n → b ≠ ln → h1 b = h b
  | .inr y => h1 r = some (rdCell lt sgn (nI c) (nI y.1)) ∧ h1 n = some (cnCell y.2.1 ln) ∧ h1 ln = some (lnCell y.2.2) ∧ ∀ b : Nat, b ≠ r → b ≠ n → b ≠ ln → h1 b = h b
/-- the state in which a part is read -/
def RdIn (G : qG) (h : qH) (lt : Int32) (r sgn c n ln p k : Nat) (f : Nat → Int32) (x : CNv) (fl : Nat → Int32) : Prop := G.2.1 ≤ r ∧ G.2.1 ≤ n ∧ G.2.1 ≤ ln ∧ c ≤ 60 ∧ p ≤ 100 ∧ x.lc = nI k ∧ k < 6 ∧ h r = some (rdCell lt sgn (nI c) (nI p)) ∧ h sgn = some (sgCell f) ∧ h n = some (cnCell x ln) ∧ h ln = some (lnCell fl)
def sYear (S : Nat → Int32) (p k : Nat) (x : CNv) (fl : Nat → Int32) : ROut := if (sNumber S p 4 4).1 = false then .inl (sNumber S p 4 4).2 else .inr ((sNumber S p 4 4).2, (x.cl, x.cc, x.cd, x.cap, x.cut, x.cutn, (sFill S p (sNumber S p 4 4).2 4).toInt32, x.vol, x.voll, x.mark, x.markn, nI (k + 1)), upd fl k (nI ((sNumber S p 4 4).2 - p)))
set_option maxHeartbeats 4000000 in
set_option maxRecDepth 100000 in
theorem c_readYear (G : qG) {h : qH} {lt : Int32} {r sgn c n ln p k : Nat} {f : Nat → Int32} {x : CNv} {fl : Nat → Int32} (hin : RdIn G h lt r sgn c n ln p k f x fl) : qMet G M_X1_readYear [.ref r, .ref n] h (qI (fun v h1 => v = bI (oOk (sYear (Sg c f) p k x fl)) ∧ RdOut h h1 lt r sgn c n ln (sYear (Sg c f) p k x fl))) := by
  obtain ⟨nr, nn, nl, hc, hp, hk, hk6, gr, gs, gn, gl⟩ := hin
  refine qMet.of (by decide) (Nat.le_of_ble_eq_true rfl) rfl ?_
  refine QP.locsE (L1 := [some (.ref r), some (.ref n), none]) rfl ?_
  refine qp_aload_n dX1_readYear_0 rfl ?_
  refine qp_getf dX1_readYear_1 fX1_23 gr rfl ?_
  refine qp_istore_n dX1_readYear_4 (by decide) ?_
  refine QP.locsE (L1 := [some (.ref r), some (.ref n), some (.int (nI p))]) rfl ?_
  refine qp_aload_n dX1_readYear_5 rfl ?_
  refine qp_iconst (v := 4) dX1_readYear_6 (by decide) ?_
  refine qp_iconst (v := 4) dX1_readYear_7 (by decide) ?_
  refine qv_Iq dX1_readYear_8 mX1_46 (c_readNumber G (4) (4) (by omega) (by omega) nr hc (by omega) gr gs) gr rfl rfl rfl rfl rfl rfl rfl (fun h2 p3 => ?_)
  have b4 := sNumber_le (Sg c f) (p) (4) (4)
  have b5 := sNumber_ge (Sg c f) (p) (4) (4)
  obtain ⟨g6, o7⟩ := p3
  have g8 : h2 sgn = some (.inl (0, 60, .inl (f))) := (o7 _ (ne_of_cells gs gr (by simp))).trans gs
  have g9 : h2 n = some (.inr (1, [.int (x.cl), .int (x.cc), .long (x.cd), .int (x.cap), .int (x.cut), .int (x.cutn), .int (x.year), .int (x.vol), .int (x.voll), .long (x.mark), .int (x.markn), .ref ln, .int (x.lc)])) := (o7 _ (ne_of_cells gn gr (by simp))).trans gn
  have g10 : h2 ln = some (.inl (0, 6, .inl (fl))) := (o7 _ (ne_of_cells gl gr (by simp))).trans gl
  have g6 : h2 r = some (.inr (2, [.int (lt), .ref sgn, .int (nI c), .int (nI ((sNumber (Sg c f) (p) (4) (4)).2))])) := g6
  refine qp_if_ne 16 dX1_readYear_11 (by decide) (fun c_11 => ?_) (fun c_11 => ?_)
  · rw [bI_n0] at c_11
    refine qp_aload_n dX1_readYear_16 rfl ?_
    refine qp_aload_n dX1_readYear_17 rfl ?_
    refine qp_iload_n dX1_readYear_18 rfl ?_
    refine qp_aload_n dX1_readYear_19 rfl ?_
    refine qp_getf dX1_readYear_20 fX1_23 g6 rfl ?_
    refine qp_iconst (v := 4) dX1_readYear_23 (by decide) ?_
    refine qv_Jp dX1_readYear_24 mX1_57 (c_filledUp G (p) ((sNumber (Sg c f) (p) (4) (4)).2) (4) (by omega) (by omega) (by omega) hc g6 g8) g6 rfl rfl rfl rfl rfl rfl rfl ?_
    refine qp_l2i dX1_readYear_27 ?_
    refine qk_put dX1_readYear_28 fX1_117 g9 nn rfl rfl rfl rfl rfl (fun h14 g15 o16 => ?_)
    have g17 : h14 sgn = some (.inl (0, 60, .inl (f))) := (o16 _ (ne_of_cells g8 g9 (by simp))).trans g8
    have g18 : h14 ln = some (.inl (0, 6, .inl (fl))) := (o16 _ (ne_of_cells g10 g9 (by simp))).trans g10
    have g19 : h14 r = some (.inr (2, [.int (lt), .ref sgn, .int (nI c), .int (nI ((sNumber (Sg c f) (p) (4) (4)).2))])) := (o16 _ (ne_of_cells g6 g9 (by simp))).trans g6
    have g15 : h14 n = some (.inr (1, [.int (x.cl), .int (x.cc), .long (x.cd), .int (x.cap), .int (x.cut), .int (x.cutn), .int (Int64.toInt32 (sFill (Sg c f) (p) ((sNumber (Sg c f) (p) (4) (4)).2) (4))), .int (x.vol), .int (x.voll), .long (x.mark), .int (x.markn), .ref ln, .int (x.lc)])) := g15
    refine qp_aload_n dX1_readYear_31 rfl ?_
    refine qp_aload_n dX1_readYear_32 rfl ?_
    refine qp_getf dX1_readYear_33 fX1_23 g19 rfl ?_
    refine qp_iload_n dX1_readYear_36 rfl ?_
    refine qp_isub dX1_readYear_37 ?_
    refine QP.topI (y := nI ((sNumber (Sg c f) (p) (4) (4)).2 - p)) (pk_sub (by omega)) ?_
    refine qv_V dX1_readYear_38 mX1_69 (c_addLine G (x := (x.cl, x.cc, x.cd, x.cap, x.cut, x.cutn, Int64.toInt32 (sFill (Sg c f) (p) ((sNumber (Sg c f) (p) (4) (4)).2) (4)), x.vol, x.voll, x.mark, x.markn, x.lc)) (k := k) (nI ((sNumber (Sg c f) (p) (4) (4)).2 - p)) nn nl hk (by omega) g15 g18) g15 rfl rfl rfl rfl rfl rfl rfl (fun h21 p22 => ?_)
    obtain ⟨g23, g24, o25⟩ := p22
    have g26 : h21 sgn = some (.inl (0, 60, .inl (f))) := (o25 _ (ne_of_cells g17 g15 (by simp)) (ne_of_cells g17 g18 (by simp))).trans g17
    have g27 : h21 r = some (.inr (2, [.int (lt), .ref sgn, .int (nI c), .int (nI ((sNumber (Sg c f) (p) (4) (4)).2))])) := (o25 _ (ne_of_cells g19 g15 (by simp)) (ne_of_cells g19 g18 (by simp))).trans g19
    have g23 : h21 n = some (.inr (1, [.int (x.cl), .int (x.cc), .long (x.cd), .int (x.cap), .int (x.cut), .int (x.cutn), .int (Int64.toInt32 (sFill (Sg c f) (p) ((sNumber (Sg c f) (p) (4) (4)).2) (4))), .int (x.vol), .int (x.voll), .long (x.mark), .int (x.markn), .ref ln, .int (nI (k + 1))])) := g23
    have g24 : h21 ln = some (.inl (0, 6, .inl (upd (fl) (k) (nI ((sNumber (Sg c f) (p) (4) (4)).2 - p))))) := g24
    refine qp_iconst (v := 1) dX1_readYear_41 (by decide) ?_
    exact qr_z dX1_readYear_42 rfl nar_1 rfl rfl ⟨by simp only [sYear]; rw [if_neg (by rw [c_11]; decide)]; rfl, by simp only [sYear]; rw [if_neg (by rw [c_11]; decide)]; exact ⟨g27, g23, g24, fun b hb1 hb2 hb3 => (((o25 b hb2 hb3).trans (o16 b hb2)).trans (o7 b hb1))⟩⟩
  · rw [bI_0] at c_11
    refine qp_iconst (v := 0) dX1_readYear_14 (by decide) ?_
    exact qr_z dX1_readYear_15 rfl nar_0 rfl rfl ⟨by simp only [sYear]; rw [if_pos c_11]; rfl, by simp only [sYear]; rw [if_pos c_11]; exact ⟨g6, fun b hb1 hb2 hb3 => (o7 b hb1)⟩⟩
def sVolume (S : Nat → Int32) (p k : Nat) (x : CNv) (fl : Nat → Int32) : ROut := if (sNumber S (p + 2) 1 4).1 = false then .inl (sNumber S (p + 2) 1 4).2 else
  if isSml (S (sNumber S (p + 2) 1 4).2) = true then .inr ((sNumber S (p + 2) 1 4).2 + 1, (x.cl, x.cc, x.cd, x.cap, x.cut, x.cutn, x.year, (sFill S (p + 2) (sNumber S (p + 2) 1 4).2 ((sNumber S (p + 2) 1 4).2 - (p + 2))).toInt32, S (sNumber S (p + 2) 1 4).2, x.mark, x.markn, nI (k + 1)), upd fl k (nI ((sNumber S (p + 2) 1 4).2 + 1 - p)))
  else .inr ((sNumber S (p + 2) 1 4).2, (x.cl, x.cc, x.cd, x.cap, x.cut, x.cutn, x.year, (sFill S (p + 2) (sNumber S (p + 2) 1 4).2 ((sNumber S (p + 2) 1 4).2 - (p + 2))).toInt32, x.voll, x.mark, x.markn, nI (k + 1)), upd fl k (nI ((sNumber S (p + 2) 1 4).2 - p)))
set_option maxHeartbeats 4000000 in
set_option maxRecDepth 100000 in
theorem c_readVolume (G : qG) {h : qH} {lt : Int32} {r sgn c n ln p k : Nat} {f : Nat → Int32} {x : CNv} {fl : Nat → Int32} (hin : RdIn G h lt r sgn c n ln p k f x fl) : qMet G M_X1_readVolume [.ref r, .ref n] h (qI (fun v h1 => v = bI (oOk (sVolume (Sg c f) p k x fl)) ∧ RdOut h h1 lt r sgn c n ln (sVolume (Sg c f) p k x fl))) := by
  obtain ⟨nr, nn, nl, hc, hp, hk, hk6, gr, gs, gn, gl⟩ := hin
  refine qMet.of (by decide) (Nat.le_of_ble_eq_true rfl) rfl ?_
  refine QP.locsE (L1 := [some (.ref r), some (.ref n), none, none]) rfl ?_
  refine qp_aload_n dX1_readVolume_0 rfl ?_
  refine qp_getf dX1_readVolume_1 fX1_23 gr rfl ?_
  refine qp_istore_n dX1_readVolume_4 (by decide) ?_
  refine QP.locsE (L1 := [some (.ref r), some (.ref n), some (.int (nI p)), none]) rfl ?_
  refine qp_iload_n dX1_readVolume_5 rfl ?_
  refine qp_iconst (v := 2) dX1_readVolume_6 (by decide) ?_
  refine qp_iadd dX1_readVolume_7 ?_
  refine QP.topI (y := nI (p + 2)) (nI_add p 2) ?_
  refine qp_istore_n dX1_readVolume_8 (by decide) ?_
  refine QP.locsE (L1 := [some (.ref r), some (.ref n), some (.int (nI p)), some (.int (nI (p + 2)))]) rfl ?_
  refine qp_aload_n dX1_readVolume_9 rfl ?_
  refine qp_iload_n dX1_readVolume_10 rfl ?_
  refine qk_put dX1_readVolume_11 fX1_23 gr nr rfl rfl rfl rfl rfl (fun h1 g2 o3 => ?_)
  have g4 : h1 sgn = some (.inl (0, 60, .inl (f))) := (o3 _ (ne_of_cells gs gr (by simp))).trans gs
  have g5 : h1 n = some (.inr (1, [.int (x.cl), .int (x.cc), .long (x.cd), .int (x.cap), .int (x.cut), .int (x.cutn), .int (x.year), .int (x.vol), .int (x.voll), .long (x.mark), .int (x.markn), .ref ln, .int (x.lc)])) := (o3 _ (ne_of_cells gn gr (by simp))).trans gn
  have g6 : h1 ln = some (.inl (0, 6, .inl (fl))) := (o3 _ (ne_of_cells gl gr (by simp))).trans gl
  have g2 : h1 r = some (.inr (2, [.int (lt), .ref sgn, .int (nI c), .int (nI (p + 2))])) := g2
  refine qp_aload_n dX1_readVolume_14 rfl ?_
  refine qp_iconst (v := 1) dX1_readVolume_15 (by decide) ?_
  refine qp_iconst (v := 4) dX1_readVolume_16 (by decide) ?_
  refine qv_Iq dX1_readVolume_17 mX1_46 (c_readNumber G (1) (4) (by omega) (by omega) nr hc (by omega) g2 g4) g2 rfl rfl rfl rfl rfl rfl rfl (fun h8 p9 => ?_)
  have b10 := sNumber_le (Sg c f) (p + 2) (1) (4)
  have b11 := sNumber_ge (Sg c f) (p + 2) (1) (4)
  obtain ⟨g12, o13⟩ := p9
  have g14 : h8 sgn = some (.inl (0, 60, .inl (f))) := (o13 _ (ne_of_cells g4 g2 (by simp))).trans g4
  have g15 : h8 n = some (.inr (1, [.int (x.cl), .int (x.cc), .long (x.cd), .int (x.cap), .int (x.cut), .int (x.cutn), .int (x.year), .int (x.vol), .int (x.voll), .long (x.mark), .int (x.markn), .ref ln, .int (x.lc)])) := (o13 _ (ne_of_cells g5 g2 (by simp))).trans g5
  have g16 : h8 ln = some (.inl (0, 6, .inl (fl))) := (o13 _ (ne_of_cells g6 g2 (by simp))).trans g6
  have g12 : h8 r = some (.inr (2, [.int (lt), .ref sgn, .int (nI c), .int (nI ((sNumber (Sg c f) (p + 2) (1) (4)).2))])) := g12
  refine qp_if_ne 25 dX1_readVolume_20 (by decide) (fun c_20 => ?_) (fun c_20 => ?_)
  · rw [bI_n0] at c_20
    refine qp_aload_n dX1_readVolume_25 rfl ?_
    refine qp_aload_n dX1_readVolume_26 rfl ?_
    refine qp_iload_n dX1_readVolume_27 rfl ?_
    refine qp_aload_n dX1_readVolume_28 rfl ?_
    refine qp_getf dX1_readVolume_29 fX1_23 g12 rfl ?_
    refine qp_aload_n dX1_readVolume_32 rfl ?_
    refine qp_getf dX1_readVolume_33 fX1_23 g12 rfl ?_
    refine qp_iload_n dX1_readVolume_36 rfl ?_
    refine qp_isub dX1_readVolume_37 ?_
    refine QP.topI (y := nI ((sNumber (Sg c f) (p + 2) (1) (4)).2 - (p + 2))) (pk_sub (by omega)) ?_
    refine qv_Jp dX1_readVolume_38 mX1_57 (c_filledUp G (p + 2) ((sNumber (Sg c f) (p + 2) (1) (4)).2) ((sNumber (Sg c f) (p + 2) (1) (4)).2 - (p + 2)) (by omega) (by omega) (by omega) hc g12 g14) g12 rfl rfl rfl rfl rfl rfl rfl ?_
    refine qp_l2i dX1_readVolume_41 ?_
    refine qk_put dX1_readVolume_42 fX1_120 g15 nn rfl rfl rfl rfl rfl (fun h20 g21 o22 => ?_)
    have g23 : h20 sgn = some (.inl (0, 60, .inl (f))) := (o22 _ (ne_of_cells g14 g15 (by simp))).trans g14
    have g24 : h20 ln = some (.inl (0, 6, .inl (fl))) := (o22 _ (ne_of_cells g16 g15 (by simp))).trans g16
    have g25 : h20 r = some (.inr (2, [.int (lt), .ref sgn, .int (nI c), .int (nI ((sNumber (Sg c f) (p + 2) (1) (4)).2))])) := (o22 _ (ne_of_cells g12 g15 (by simp))).trans g12
    have g21 : h20 n = some (.inr (1, [.int (x.cl), .int (x.cc), .long (x.cd), .int (x.cap), .int (x.cut), .int (x.cutn), .int (x.year), .int (Int64.toInt32 (sFill (Sg c f) (p + 2) ((sNumber (Sg c f) (p + 2) (1) (4)).2) ((sNumber (Sg c f) (p + 2) (1) (4)).2 - (p + 2)))), .int (x.voll), .long (x.mark), .int (x.markn), .ref ln, .int (x.lc)])) := g21
    refine qp_aload_n dX1_readVolume_45 rfl ?_
    refine qp_aload_n dX1_readVolume_46 rfl ?_
    refine qp_getf dX1_readVolume_47 fX1_23 g25 rfl ?_
    refine qv_Ip dX1_readVolume_50 mX1_73 (c_signAt G ((sNumber (Sg c f) (p + 2) (1) (4)).2) (by omega) hc g25 g23) g25 rfl rfl rfl rfl rfl rfl rfl ?_
    refine qs_Ip dX1_readVolume_53 mX1_114 (c_isSmall G (Sg c f ((sNumber (Sg c f) (p + 2) (1) (4)).2))) rfl rfl rfl rfl rfl rfl ?_
    refine qp_if_eq 81 dX1_readVolume_56 (by decide) (fun c_56 => ?_) (fun c_56 => ?_)
    · rw [bI_0] at c_56
      refine qp_aload_n dX1_readVolume_81 rfl ?_
      refine qp_aload_n dX1_readVolume_82 rfl ?_
      refine qp_getf dX1_readVolume_83 fX1_23 g25 rfl ?_
      refine qp_iload_n dX1_readVolume_86 rfl ?_
      refine qp_isub dX1_readVolume_87 ?_
      refine QP.topI (y := nI ((sNumber (Sg c f) (p + 2) (1) (4)).2 - p)) (pk_sub (by omega)) ?_
      refine qv_V dX1_readVolume_88 mX1_69 (c_addLine G (x := (x.cl, x.cc, x.cd, x.cap, x.cut, x.cutn, x.year, Int64.toInt32 (sFill (Sg c f) (p + 2) ((sNumber (Sg c f) (p + 2) (1) (4)).2) ((sNumber (Sg c f) (p + 2) (1) (4)).2 - (p + 2))), x.voll, x.mark, x.markn, x.lc)) (k := k) (nI ((sNumber (Sg c f) (p + 2) (1) (4)).2 - p)) nn nl hk (by omega) g21 g24) g21 rfl rfl rfl rfl rfl rfl rfl (fun h33 p34 => ?_)
      obtain ⟨g35, g36, o37⟩ := p34
      have g38 : h33 sgn = some (.inl (0, 60, .inl (f))) := (o37 _ (ne_of_cells g23 g21 (by simp)) (ne_of_cells g23 g24 (by simp))).trans g23
      have g39 : h33 r = some (.inr (2, [.int (lt), .ref sgn, .int (nI c), .int (nI ((sNumber (Sg c f) (p + 2) (1) (4)).2))])) := (o37 _ (ne_of_cells g25 g21 (by simp)) (ne_of_cells g25 g24 (by simp))).trans g25
      have g35 : h33 n = some (.inr (1, [.int (x.cl), .int (x.cc), .long (x.cd), .int (x.cap), .int (x.cut), .int (x.cutn), .int (x.year), .int (Int64.toInt32 (sFill (Sg c f) (p + 2) ((sNumber (Sg c f) (p + 2) (1) (4)).2) ((sNumber (Sg c f) (p + 2) (1) (4)).2 - (p + 2)))), .int (x.voll), .long (x.mark), .int (x.markn), .ref ln, .int (nI (k + 1))])) := g35
      have g36 : h33 ln = some (.inl (0, 6, .inl (upd (fl) (k) (nI ((sNumber (Sg c f) (p + 2) (1) (4)).2 - p))))) := g36
      refine qp_iconst (v := 1) dX1_readVolume_91 (by decide) ?_
      exact qr_z dX1_readVolume_92 rfl nar_1 rfl rfl ⟨by simp only [sVolume]; rw [if_neg (by rw [c_20]; decide), if_neg (by rw [c_56]; decide)]; rfl, by simp only [sVolume]; rw [if_neg (by rw [c_20]; decide), if_neg (by rw [c_56]; decide)]; exact ⟨g39, g35, g36, fun b hb1 hb2 hb3 => ((((o37 b hb2 hb3).trans (o22 b hb2)).trans (o13 b hb1)).trans (o3 b hb1))⟩⟩
    · rw [bI_n0] at c_56
      refine qp_aload_n dX1_readVolume_59 rfl ?_
      refine qp_aload_n dX1_readVolume_60 rfl ?_
      refine qp_aload_n dX1_readVolume_61 rfl ?_
      refine qp_getf dX1_readVolume_62 fX1_23 g25 rfl ?_
      refine qv_Ip dX1_readVolume_65 mX1_73 (c_signAt G ((sNumber (Sg c f) (p + 2) (1) (4)).2) (by omega) hc g25 g23) g25 rfl rfl rfl rfl rfl rfl rfl ?_
      refine qk_put dX1_readVolume_68 fX1_123 g21 nn rfl rfl rfl rfl rfl (fun h43 g44 o45 => ?_)
      have g46 : h43 sgn = some (.inl (0, 60, .inl (f))) := (o45 _ (ne_of_cells g23 g21 (by simp))).trans g23
      have g47 : h43 ln = some (.inl (0, 6, .inl (fl))) := (o45 _ (ne_of_cells g24 g21 (by simp))).trans g24
      have g48 : h43 r = some (.inr (2, [.int (lt), .ref sgn, .int (nI c), .int (nI ((sNumber (Sg c f) (p + 2) (1) (4)).2))])) := (o45 _ (ne_of_cells g25 g21 (by simp))).trans g25
      have g44 : h43 n = some (.inr (1, [.int (x.cl), .int (x.cc), .long (x.cd), .int (x.cap), .int (x.cut), .int (x.cutn), .int (x.year), .int (Int64.toInt32 (sFill (Sg c f) (p + 2) ((sNumber (Sg c f) (p + 2) (1) (4)).2) ((sNumber (Sg c f) (p + 2) (1) (4)).2 - (p + 2)))), .int (Sg c f ((sNumber (Sg c f) (p + 2) (1) (4)).2)), .long (x.mark), .int (x.markn), .ref ln, .int (x.lc)])) := g44
      refine qp_aload_n dX1_readVolume_71 rfl ?_
      refine qp_dup dX1_readVolume_72 rfl ?_
      refine qp_getf dX1_readVolume_73 fX1_23 g48 rfl ?_
      refine qp_iconst (v := 1) dX1_readVolume_76 (by decide) ?_
      refine qp_iadd dX1_readVolume_77 ?_
      refine QP.topI (y := nI ((sNumber (Sg c f) (p + 2) (1) (4)).2 + 1)) (nI_1 _) ?_
      refine qk_put dX1_readVolume_78 fX1_23 g48 nr rfl rfl rfl rfl rfl (fun h49 g50 o51 => ?_)
      have g52 : h49 sgn = some (.inl (0, 60, .inl (f))) := (o51 _ (ne_of_cells g46 g48 (by simp))).trans g46
      have g53 : h49 ln = some (.inl (0, 6, .inl (fl))) := (o51 _ (ne_of_cells g47 g48 (by simp))).trans g47
      have g54 : h49 n = some (.inr (1, [.int (x.cl), .int (x.cc), .long (x.cd), .int (x.cap), .int (x.cut), .int (x.cutn), .int (x.year), .int (Int64.toInt32 (sFill (Sg c f) (p + 2) ((sNumber (Sg c f) (p + 2) (1) (4)).2) ((sNumber (Sg c f) (p + 2) (1) (4)).2 - (p + 2)))), .int (Sg c f ((sNumber (Sg c f) (p + 2) (1) (4)).2)), .long (x.mark), .int (x.markn), .ref ln, .int (x.lc)])) := (o51 _ (ne_of_cells g44 g48 (by simp))).trans g44
      have g50 : h49 r = some (.inr (2, [.int (lt), .ref sgn, .int (nI c), .int (nI ((sNumber (Sg c f) (p + 2) (1) (4)).2 + 1))])) := g50
      refine qp_aload_n dX1_readVolume_81 rfl ?_
      refine qp_aload_n dX1_readVolume_82 rfl ?_
      refine qp_getf dX1_readVolume_83 fX1_23 g50 rfl ?_
      refine qp_iload_n dX1_readVolume_86 rfl ?_
      refine qp_isub dX1_readVolume_87 ?_
      refine QP.topI (y := nI ((sNumber (Sg c f) (p + 2) (1) (4)).2 + 1 - p)) (pk_sub (by omega)) ?_
      refine qv_V dX1_readVolume_88 mX1_69 (c_addLine G (x := (x.cl, x.cc, x.cd, x.cap, x.cut, x.cutn, x.year, Int64.toInt32 (sFill (Sg c f) (p + 2) ((sNumber (Sg c f) (p + 2) (1) (4)).2) ((sNumber (Sg c f) (p + 2) (1) (4)).2 - (p + 2))), Sg c f ((sNumber (Sg c f) (p + 2) (1) (4)).2), x.mark, x.markn, x.lc)) (k := k) (nI ((sNumber (Sg c f) (p + 2) (1) (4)).2 + 1 - p)) nn nl hk (by omega) g54 g53) g54 rfl rfl rfl rfl rfl rfl rfl (fun h56 p57 => ?_)
      obtain ⟨g58, g59, o60⟩ := p57
      have g61 : h56 sgn = some (.inl (0, 60, .inl (f))) := (o60 _ (ne_of_cells g52 g54 (by simp)) (ne_of_cells g52 g53 (by simp))).trans g52
      have g62 : h56 r = some (.inr (2, [.int (lt), .ref sgn, .int (nI c), .int (nI ((sNumber (Sg c f) (p + 2) (1) (4)).2 + 1))])) := (o60 _ (ne_of_cells g50 g54 (by simp)) (ne_of_cells g50 g53 (by simp))).trans g50
      have g58 : h56 n = some (.inr (1, [.int (x.cl), .int (x.cc), .long (x.cd), .int (x.cap), .int (x.cut), .int (x.cutn), .int (x.year), .int (Int64.toInt32 (sFill (Sg c f) (p + 2) ((sNumber (Sg c f) (p + 2) (1) (4)).2) ((sNumber (Sg c f) (p + 2) (1) (4)).2 - (p + 2)))), .int (Sg c f ((sNumber (Sg c f) (p + 2) (1) (4)).2)), .long (x.mark), .int (x.markn), .ref ln, .int (nI (k + 1))])) := g58
      have g59 : h56 ln = some (.inl (0, 6, .inl (upd (fl) (k) (nI ((sNumber (Sg c f) (p + 2) (1) (4)).2 + 1 - p))))) := g59
      refine qp_iconst (v := 1) dX1_readVolume_91 (by decide) ?_
      exact qr_z dX1_readVolume_92 rfl nar_1 rfl rfl ⟨by simp only [sVolume]; rw [if_neg (by rw [c_20]; decide), if_pos c_56]; rfl, by simp only [sVolume]; rw [if_neg (by rw [c_20]; decide), if_pos c_56]; exact ⟨g62, g58, g59, fun b hb1 hb2 hb3 => ((((((o60 b hb2 hb3).trans (o51 b hb1)).trans (o45 b hb2)).trans (o22 b hb2)).trans (o13 b hb1)).trans (o3 b hb1))⟩⟩
  · rw [bI_0] at c_20
    refine qp_iconst (v := 0) dX1_readVolume_23 (by decide) ?_
    exact qr_z dX1_readVolume_24 rfl nar_0 rfl rfl ⟨by simp only [sVolume]; rw [if_pos c_20]; rfl, by simp only [sVolume]; rw [if_pos c_20]; exact ⟨g12, fun b hb1 hb2 hb3 => ((o13 b hb1).trans (o3 b hb1))⟩⟩
/-- the mark's letters after j turns: the packed letters, the place -/
def mkS (S : Nat → Int32) (p : Nat) : Nat → Int64 × Nat
  | 0 => (0, p)
  | j + 1 => if (mkS S p j).2 = p + j ∧ isSml (S (mkS S p j).2) = true then (((mkS S p j).1 <<< (Int32.toInt64 8 &&& 63)) ||| (S (mkS S p j).2).toInt64, (mkS S p j).2 + 1) else ((mkS S p j).1 <<< (Int32.toInt64 8 &&& 63), (mkS S p j).2)
theorem mkS_bd (S : Nat → Int32) (p : Nat) : ∀ j, p ≤ (mkS S p j).2 ∧ (mkS S p j).2 ≤ p + j
  | 0 => ⟨Nat.le_refl p, Nat.le_refl p⟩
  | j + 1 => by
    have := mkS_bd S p j
    simp only [mkS]
    split
    · exact ⟨by show p ≤ _ + 1; omega, by show _ + 1 ≤ _; omega⟩
    · exact ⟨by show p ≤ _; omega, by show _ ≤ _; omega⟩
def sMark (S : Nat → Int32) (p k : Nat) (x : CNv) (fl : Nat → Int32) : ROut := if (mkS S p 8).2 ≤ p then .inl (mkS S p 8).2 else .inr ((mkS S p 8).2, (x.cl, x.cc, x.cd, x.cap, x.cut, x.cutn, x.year, x.vol, x.voll, (mkS S p 8).1, nI ((mkS S p 8).2 - p), nI (k + 1)), upd fl k (nI ((mkS S p 8).2 - p)))
theorem QP.topL3 {G : qG} {M : qM} {E : qX} {Z : qZ} {pc : Nat} {a b c0 : Option Value} {u v : Int64} {t : List (Option Value)} {st : List Value} {h : qH} {cn sn : Nat} (e : u = v) (k : QP G M E Z pc (a :: b :: c0 :: some (.long v) :: t) st h cn sn) : QP G M E Z pc (a :: b :: c0 :: some (.long u) :: t) st h cn sn := by subst e; exact k
theorem QP.topL2 {G : qG} {M : qM} {E : qX} {Z : qZ} {pc : Nat} {a b : Option Value} {u v : Int32} {t : List (Option Value)} {st : List Value} {h : qH} {cn sn : Nat} (e : u = v) (k : QP G M E Z pc (a :: b :: some (.int v) :: t) st h cn sn) : QP G M E Z pc (a :: b :: some (.int u) :: t) st h cn sn := by subst e; exact k
set_option maxHeartbeats 4000000 in
set_option maxRecDepth 100000 in
theorem l_readMark {G : qG} {h0 : qH} {lt : Int32} {r sgn c n ln p k : Nat} {f : Nat → Int32} {x : CNv} {fl : Nat → Int32} (nr : G.2.1 ≤ r) (nn : G.2.1 ≤ n) (nl : G.2.1 ≤ ln) (hc : c ≤ 60) (hp : p ≤ 100) (hk : x.lc = nI k) (hk6 : k < 6) : ∀ (m j : Nat) (h : qH), 8 < j + m → j ≤ 8 → h r = some (rdCell lt sgn (nI c) (nI (mkS (Sg c f) p j).2)) → h sgn = some (sgCell f) → h n = some (cnCell x ln) → h ln = some (lnCell fl) → (∀ b : Nat, b ≠ r → b ≠ n → b ≠ ln → h b = h0 b) → QP G M_X1_readMark qTr (qMZ G M_X1_readMark (qI (fun v h1 => v = bI (oOk (sMark (Sg c f) p k x fl)) ∧ RdOut h0 h1 lt r sgn c n ln (sMark (Sg c f) p k x fl)))) 10 [some (.ref r), some (.ref n), some (.int (nI p)), some (.long (mkS (Sg c f) p j).1), none, some (.int (nI j))] [] h 0 0 := by
  intro m
  induction m with
  | zero =>
    intro j h h1 h2
    omega
  | succ m ih =>
    intro j h h1 h2 gr gs gn gl hfr
    refine qp_iload dX1_readMark_10 rfl ?_
    refine qp_bipush (v := 8) dX1_readMark_12 (by decide) ?_
    refine qp_icmp_ge 75 dX1_readMark_14 (by decide) (fun c_14 => ?_) (fun c_14 => ?_)
    · have hj8 : j = 8 := by have := (nI_leI (a := 8) (by decide) (by omega)).mp c_14; omega
      subst hj8
      have bd := mkS_bd (Sg c f) p 8
      refine qp_aload_n dX1_readMark_75 rfl ?_
      refine qp_lload_n dX1_readMark_76 rfl ?_
      refine qk_put dX1_readMark_77 fX1_126 gn nn rfl rfl rfl rfl rfl (fun h1 g2 o3 => ?_)
      have g4 : h1 r = some (.inr (2, [.int (lt), .ref sgn, .int (nI c), .int (nI ((mkS (Sg c f) p 8).2))])) := (o3 _ (ne_of_cells gr gn (by simp))).trans gr
      have g5 : h1 sgn = some (.inl (0, 60, .inl (f))) := (o3 _ (ne_of_cells gs gn (by simp))).trans gs
      have g6 : h1 ln = some (.inl (0, 6, .inl (fl))) := (o3 _ (ne_of_cells gl gn (by simp))).trans gl
      have g2 : h1 n = some (.inr (1, [.int (x.cl), .int (x.cc), .long (x.cd), .int (x.cap), .int (x.cut), .int (x.cutn), .int (x.year), .int (x.vol), .int (x.voll), .long ((mkS (Sg c f) p 8).1), .int (x.markn), .ref ln, .int (x.lc)])) := g2
      refine qp_aload_n dX1_readMark_80 rfl ?_
      refine qp_aload_n dX1_readMark_81 rfl ?_
      refine qp_getf dX1_readMark_82 fX1_23 g4 rfl ?_
      refine qp_iload_n dX1_readMark_85 rfl ?_
      refine qp_isub dX1_readMark_86 ?_
      refine QP.topI (y := nI ((mkS (Sg c f) p 8).2 - p)) (pk_sub (by omega)) ?_
      refine qk_put dX1_readMark_87 fX1_129 g2 nn rfl rfl rfl rfl rfl (fun h7 g8 o9 => ?_)
      have g10 : h7 r = some (.inr (2, [.int (lt), .ref sgn, .int (nI c), .int (nI ((mkS (Sg c f) p 8).2))])) := (o9 _ (ne_of_cells g4 g2 (by simp))).trans g4
      have g11 : h7 sgn = some (.inl (0, 60, .inl (f))) := (o9 _ (ne_of_cells g5 g2 (by simp))).trans g5
      have g12 : h7 ln = some (.inl (0, 6, .inl (fl))) := (o9 _ (ne_of_cells g6 g2 (by simp))).trans g6
      have g8 : h7 n = some (.inr (1, [.int (x.cl), .int (x.cc), .long (x.cd), .int (x.cap), .int (x.cut), .int (x.cutn), .int (x.year), .int (x.vol), .int (x.voll), .long ((mkS (Sg c f) p 8).1), .int (nI ((mkS (Sg c f) p 8).2 - p)), .ref ln, .int (x.lc)])) := g8
      refine qp_aload_n dX1_readMark_90 rfl ?_
      refine qp_aload_n dX1_readMark_91 rfl ?_
      refine qp_getf dX1_readMark_92 fX1_23 g10 rfl ?_
      refine qp_iload_n dX1_readMark_95 rfl ?_
      refine qp_isub dX1_readMark_96 ?_
      refine QP.topI (y := nI ((mkS (Sg c f) p 8).2 - p)) (pk_sub (by omega)) ?_
      refine qv_V dX1_readMark_97 mX1_69 (c_addLine G (x := (x.cl, x.cc, x.cd, x.cap, x.cut, x.cutn, x.year, x.vol, x.voll, (mkS (Sg c f) p 8).1, nI ((mkS (Sg c f) p 8).2 - p), x.lc)) (k := k) (nI ((mkS (Sg c f) p 8).2 - p)) nn nl hk (by omega) g8 g12) g8 rfl rfl rfl rfl rfl rfl rfl (fun h14 p15 => ?_)
      obtain ⟨g16, g17, o18⟩ := p15
      have g19 : h14 r = some (.inr (2, [.int (lt), .ref sgn, .int (nI c), .int (nI ((mkS (Sg c f) p 8).2))])) := (o18 _ (ne_of_cells g10 g8 (by simp)) (ne_of_cells g10 g12 (by simp))).trans g10
      have g20 : h14 sgn = some (.inl (0, 60, .inl (f))) := (o18 _ (ne_of_cells g11 g8 (by simp)) (ne_of_cells g11 g12 (by simp))).trans g11
      have g16 : h14 n = some (.inr (1, [.int (x.cl), .int (x.cc), .long (x.cd), .int (x.cap), .int (x.cut), .int (x.cutn), .int (x.year), .int (x.vol), .int (x.voll), .long ((mkS (Sg c f) p 8).1), .int (nI ((mkS (Sg c f) p 8).2 - p)), .ref ln, .int (nI (k + 1))])) := g16
      have g17 : h14 ln = some (.inl (0, 6, .inl (upd (fl) (k) (nI ((mkS (Sg c f) p 8).2 - p))))) := g17
      refine qp_aload_n dX1_readMark_100 rfl ?_
      refine qp_getf dX1_readMark_101 fX1_23 g19 rfl ?_
      refine qp_iload_n dX1_readMark_104 rfl ?_
      refine qp_icmp_le 112 dX1_readMark_105 (by decide) (fun c_105 => ?_) (fun c_105 => ?_)
      · rw [nI_leI (by omega) (by omega)] at c_105
        refine qp_iconst (v := 0) dX1_readMark_112 (by decide) ?_
        exact qr_z dX1_readMark_113 rfl nar_0 rfl rfl ⟨by simp only [sMark]; rw [if_pos c_105]; rfl, by simp only [sMark]; rw [if_pos c_105]; exact ⟨g19, fun b hb1 hb2 hb3 => (((o18 b hb2 hb3).trans (o9 b hb2)).trans (o3 b hb2)).trans (hfr b hb1 hb2 hb3)⟩⟩
      · rw [nI_leI (by omega) (by omega)] at c_105
        refine qp_iconst (v := 1) dX1_readMark_108 (by decide) ?_
        refine qp_goto 113 dX1_readMark_109 (by decide) ?_
        exact qr_z dX1_readMark_113 rfl nar_1 rfl rfl ⟨by simp only [sMark]; rw [if_neg c_105]; rfl, by simp only [sMark]; rw [if_neg c_105]; exact ⟨g19, g16, g17, fun b hb1 hb2 hb3 => (((o18 b hb2 hb3).trans (o9 b hb2)).trans (o3 b hb2)).trans (hfr b hb1 hb2 hb3)⟩⟩
    · have hj8 : j < 8 := Nat.not_le.mp fun q => c_14 ((nI_leI (a := 8) (by decide) (by omega)).mpr q)
      have bd := mkS_bd (Sg c f) p j
      refine qp_lload_n dX1_readMark_17 rfl ?_
      refine qp_bipush (v := 8) dX1_readMark_18 (by decide) ?_
      refine qp_lshl dX1_readMark_20 ?_
      refine qp_lstore_n dX1_readMark_21 (by decide) ?_
      refine QP.locsE (L1 := [some (.ref r), some (.ref n), some (.int (nI p)), some (.long (((mkS (Sg c f) p j).1) <<< (Int32.toInt64 (8) &&& 63))), none, some (.int (nI j))]) rfl ?_
      refine qp_aload_n dX1_readMark_22 rfl ?_
      refine qp_getf dX1_readMark_23 fX1_23 gr rfl ?_
      refine qp_iload_n dX1_readMark_26 rfl ?_
      refine qp_iload dX1_readMark_27 rfl ?_
      refine qp_iadd dX1_readMark_29 ?_
      refine QP.topI (y := nI (p + j)) (nI_add p j) ?_
      refine qp_icmp_ne 69 dX1_readMark_30 (by decide) (fun c_30 => ?_) (fun c_30 => ?_)
      · refine qp_iinc (v := nI (j + 1)) dX1_readMark_69 rfl (by decide) (nI_1 j) ?_
        refine QP.locsE (L1 := [some (.ref r), some (.ref n), some (.int (nI p)), some (.long (((mkS (Sg c f) p j).1) <<< (Int32.toInt64 (8) &&& 63))), none, some (.int (nI (j + 1)))]) rfl ?_
        refine qp_goto 10 dX1_readMark_72 (by decide) ?_
        have e9 : mkS (Sg c f) p (j + 1) = ((((mkS (Sg c f) p j).1) <<< (Int32.toInt64 (8) &&& 63), (mkS (Sg c f) p j).2) : Int64 × Nat) := by simp only [mkS]; rw [if_neg (fun q => c_30 (by rw [q.1]))]
        have e10 : h r = some (rdCell lt sgn (nI c) (nI (mkS (Sg c f) p (j + 1)).2)) := by rw [e9]; exact gr
        refine QP.topL3 (v := (mkS (Sg c f) p (j + 1)).1) (by rw [e9]) ?_
        exact ih (j + 1) h (by omega) (by omega) e10 gs gn gl hfr
      · refine qp_aload_n dX1_readMark_33 rfl ?_
        refine qp_aload_n dX1_readMark_34 rfl ?_
        refine qp_getf dX1_readMark_35 fX1_23 gr rfl ?_
        refine qv_Ip dX1_readMark_38 mX1_73 (c_signAt G ((mkS (Sg c f) p j).2) (by omega) hc gr gs) gr rfl rfl rfl rfl rfl rfl rfl ?_
        refine qs_Ip dX1_readMark_41 mX1_114 (c_isSmall G (Sg c f ((mkS (Sg c f) p j).2))) rfl rfl rfl rfl rfl rfl ?_
        refine qp_if_eq 69 dX1_readMark_44 (by decide) (fun c_44 => ?_) (fun c_44 => ?_)
        · rw [bI_0] at c_44
          refine qp_iinc (v := nI (j + 1)) dX1_readMark_69 rfl (by decide) (nI_1 j) ?_
          refine QP.locsE (L1 := [some (.ref r), some (.ref n), some (.int (nI p)), some (.long (((mkS (Sg c f) p j).1) <<< (Int32.toInt64 (8) &&& 63))), none, some (.int (nI (j + 1)))]) rfl ?_
          refine qp_goto 10 dX1_readMark_72 (by decide) ?_
          have e9 : mkS (Sg c f) p (j + 1) = ((((mkS (Sg c f) p j).1) <<< (Int32.toInt64 (8) &&& 63), (mkS (Sg c f) p j).2) : Int64 × Nat) := by simp only [mkS]; rw [if_neg (fun q => by rw [q.2] at c_44; exact absurd c_44 (by decide))]
          have e10 : h r = some (rdCell lt sgn (nI c) (nI (mkS (Sg c f) p (j + 1)).2)) := by rw [e9]; exact gr
          refine QP.topL3 (v := (mkS (Sg c f) p (j + 1)).1) (by rw [e9]) ?_
          exact ih (j + 1) h (by omega) (by omega) e10 gs gn gl hfr
        · rw [bI_n0] at c_44
          refine qp_lload_n dX1_readMark_47 rfl ?_
          refine qp_aload_n dX1_readMark_48 rfl ?_
          refine qp_aload_n dX1_readMark_49 rfl ?_
          refine qp_getf dX1_readMark_50 fX1_23 gr rfl ?_
          refine qv_Ip dX1_readMark_53 mX1_73 (c_signAt G ((mkS (Sg c f) p j).2) (by omega) hc gr gs) gr rfl rfl rfl rfl rfl rfl rfl ?_
          refine qp_i2l dX1_readMark_56 ?_
          refine qp_lor dX1_readMark_57 ?_
          refine qp_lstore_n dX1_readMark_58 (by decide) ?_
          refine QP.locsE (L1 := [some (.ref r), some (.ref n), some (.int (nI p)), some (.long ((((mkS (Sg c f) p j).1) <<< (Int32.toInt64 (8) &&& 63)) ||| (Int32.toInt64 (Sg c f ((mkS (Sg c f) p j).2))))), none, some (.int (nI j))]) rfl ?_
          refine qp_aload_n dX1_readMark_59 rfl ?_
          refine qp_dup dX1_readMark_60 rfl ?_
          refine qp_getf dX1_readMark_61 fX1_23 gr rfl ?_
          refine qp_iconst (v := 1) dX1_readMark_64 (by decide) ?_
          refine qp_iadd dX1_readMark_65 ?_
          refine QP.topI (y := nI ((mkS (Sg c f) p j).2 + 1)) (nI_1 _) ?_
          refine qk_put dX1_readMark_66 fX1_23 gr nr rfl rfl rfl rfl rfl (fun h30 g31 o32 => ?_)
          have g33 : h30 sgn = some (.inl (0, 60, .inl (f))) := (o32 _ (ne_of_cells gs gr (by simp))).trans gs
          have g34 : h30 n = some (.inr (1, [.int (x.cl), .int (x.cc), .long (x.cd), .int (x.cap), .int (x.cut), .int (x.cutn), .int (x.year), .int (x.vol), .int (x.voll), .long (x.mark), .int (x.markn), .ref ln, .int (x.lc)])) := (o32 _ (ne_of_cells gn gr (by simp))).trans gn
          have g35 : h30 ln = some (.inl (0, 6, .inl (fl))) := (o32 _ (ne_of_cells gl gr (by simp))).trans gl
          have g31 : h30 r = some (.inr (2, [.int (lt), .ref sgn, .int (nI c), .int (nI ((mkS (Sg c f) p j).2 + 1))])) := g31
          refine qp_iinc (v := nI (j + 1)) dX1_readMark_69 rfl (by decide) (nI_1 j) ?_
          refine QP.locsE (L1 := [some (.ref r), some (.ref n), some (.int (nI p)), some (.long ((((mkS (Sg c f) p j).1) <<< (Int32.toInt64 (8) &&& 63)) ||| (Int32.toInt64 (Sg c f ((mkS (Sg c f) p j).2))))), none, some (.int (nI (j + 1)))]) rfl ?_
          refine qp_goto 10 dX1_readMark_72 (by decide) ?_
          have e9 : mkS (Sg c f) p (j + 1) = (((((mkS (Sg c f) p j).1) <<< (Int32.toInt64 (8) &&& 63)) ||| (Int32.toInt64 (Sg c f ((mkS (Sg c f) p j).2))), (mkS (Sg c f) p j).2 + 1) : Int64 × Nat) := by simp only [mkS]; rw [if_pos ⟨(nI_eq (by omega) (by omega)).mp c_30, c_44⟩]
          have e10 : h30 r = some (rdCell lt sgn (nI c) (nI (mkS (Sg c f) p (j + 1)).2)) := by rw [e9]; exact g31
          refine QP.topL3 (v := (mkS (Sg c f) p (j + 1)).1) (by rw [e9]) ?_
          exact ih (j + 1) h30 (by omega) (by omega) e10 g33 g34 g35 (fun b hb1 hb2 hb3 => (o32 b hb1).trans (hfr b hb1 hb2 hb3))
set_option maxHeartbeats 4000000 in
set_option maxRecDepth 100000 in
theorem c_readMark (G : qG) {h : qH} {lt : Int32} {r sgn c n ln p k : Nat} {f : Nat → Int32} {x : CNv} {fl : Nat → Int32} (hin : RdIn G h lt r sgn c n ln p k f x fl) : qMet G M_X1_readMark [.ref r, .ref n] h (qI (fun v h1 => v = bI (oOk (sMark (Sg c f) p k x fl)) ∧ RdOut h h1 lt r sgn c n ln (sMark (Sg c f) p k x fl))) := by
  obtain ⟨nr, nn, nl, hc, hp, hk, hk6, gr, gs, gn, gl⟩ := hin
  refine qMet.of (by decide) (Nat.le_of_ble_eq_true rfl) rfl ?_
  refine QP.locsE (L1 := [some (.ref r), some (.ref n), none, none, none, none]) rfl ?_
  refine qp_aload_n dX1_readMark_0 rfl ?_
  refine qp_getf dX1_readMark_1 fX1_23 gr rfl ?_
  refine qp_istore_n dX1_readMark_4 (by decide) ?_
  refine QP.locsE (L1 := [some (.ref r), some (.ref n), some (.int (nI p)), none, none, none]) rfl ?_
  refine qp_lconst (v := 0) dX1_readMark_5 (by decide) ?_
  refine qp_lstore_n dX1_readMark_6 (by decide) ?_
  refine QP.locsE (L1 := [some (.ref r), some (.ref n), some (.int (nI p)), some (.long (0)), none, none]) rfl ?_
  refine qp_iconst (v := 0) dX1_readMark_7 (by decide) ?_
  refine qp_istore dX1_readMark_8 (by decide) ?_
  refine QP.locsE (L1 := [some (.ref r), some (.ref n), some (.int (nI p)), some (.long (0)), none, some (.int (0))]) rfl ?_
  exact l_readMark nr nn nl hc hp hk hk6 9 0 h (by omega) (by omega) gr gs gn gl (fun _ _ _ _ => rfl)
def sCutter (S : Nat → Int32) (p k : Nat) (x : CNv) (fl : Nat → Int32) : ROut := if isCap (S p) = false then .inl p else if (sDecimals S (p + 1) 6).1 = false then .inl (sDecimals S (p + 1) 6).2 else
  .inr ((sDecimals S (p + 1) 6).2, (x.cl, x.cc, x.cd, S p, (sFill S (p + 1) (sDecimals S (p + 1) 6).2 6).toInt32, nI ((sDecimals S (p + 1) 6).2 - p - 1), x.year, x.vol, x.voll, x.mark, x.markn, nI (k + 1)), upd fl k (nI ((sDecimals S (p + 1) 6).2 - p)))
set_option maxHeartbeats 4000000 in
set_option maxRecDepth 100000 in
theorem c_readCutter (G : qG) {h : qH} {lt : Int32} {r sgn c n ln p k : Nat} {f : Nat → Int32} {x : CNv} {fl : Nat → Int32} (hin : RdIn G h lt r sgn c n ln p k f x fl) : qMet G M_X1_readCutter [.ref r, .ref n] h (qI (fun v h1 => v = bI (oOk (sCutter (Sg c f) p k x fl)) ∧ RdOut h h1 lt r sgn c n ln (sCutter (Sg c f) p k x fl))) := by
  obtain ⟨nr, nn, nl, hc, hp, hk, hk6, gr, gs, gn, gl⟩ := hin
  refine qMet.of (by decide) (Nat.le_of_ble_eq_true rfl) rfl ?_
  refine QP.locsE (L1 := [some (.ref r), some (.ref n), none]) rfl ?_
  refine qp_aload_n dX1_readCutter_0 rfl ?_
  refine qp_getf dX1_readCutter_1 fX1_23 gr rfl ?_
  refine qp_istore_n dX1_readCutter_4 (by decide) ?_
  refine QP.locsE (L1 := [some (.ref r), some (.ref n), some (.int (nI p))]) rfl ?_
  refine qp_aload_n dX1_readCutter_5 rfl ?_
  refine qp_iload_n dX1_readCutter_6 rfl ?_
  refine qv_Ip dX1_readCutter_7 mX1_73 (c_signAt G (p) (by omega) hc gr gs) gr rfl rfl rfl rfl rfl rfl rfl ?_
  refine qs_Ip dX1_readCutter_10 mX1_77 (c_isCapital G (Sg c f (p))) rfl rfl rfl rfl rfl rfl ?_
  refine qp_if_ne 18 dX1_readCutter_13 (by decide) (fun c_13 => ?_) (fun c_13 => ?_)
  · rw [bI_n0] at c_13
    refine qp_aload_n dX1_readCutter_18 rfl ?_
    refine qp_dup dX1_readCutter_19 rfl ?_
    refine qp_getf dX1_readCutter_20 fX1_23 gr rfl ?_
    refine qp_iconst (v := 1) dX1_readCutter_23 (by decide) ?_
    refine qp_iadd dX1_readCutter_24 ?_
    refine QP.topI (y := nI (p + 1)) (nI_1 p) ?_
    refine qk_put dX1_readCutter_25 fX1_23 gr nr rfl rfl rfl rfl rfl (fun h7 g8 o9 => ?_)
    have g10 : h7 sgn = some (.inl (0, 60, .inl (f))) := (o9 _ (ne_of_cells gs gr (by simp))).trans gs
    have g11 : h7 n = some (.inr (1, [.int (x.cl), .int (x.cc), .long (x.cd), .int (x.cap), .int (x.cut), .int (x.cutn), .int (x.year), .int (x.vol), .int (x.voll), .long (x.mark), .int (x.markn), .ref ln, .int (x.lc)])) := (o9 _ (ne_of_cells gn gr (by simp))).trans gn
    have g12 : h7 ln = some (.inl (0, 6, .inl (fl))) := (o9 _ (ne_of_cells gl gr (by simp))).trans gl
    have g8 : h7 r = some (.inr (2, [.int (lt), .ref sgn, .int (nI c), .int (nI (p + 1))])) := g8
    refine qp_aload_n dX1_readCutter_28 rfl ?_
    refine qp_bipush (v := 6) dX1_readCutter_29 (by decide) ?_
    refine qv_Iq dX1_readCutter_31 mX1_86 (c_readDecimals G (6) (by omega) nr hc (by omega) g8 g10) g8 rfl rfl rfl rfl rfl rfl rfl (fun h14 p15 => ?_)
    have b16 := sDecimals_le (Sg c f) (p + 1) (6)
    have b17 := sDecimals_ge (Sg c f) (p + 1) (6)
    obtain ⟨g18, o19⟩ := p15
    have g20 : h14 sgn = some (.inl (0, 60, .inl (f))) := (o19 _ (ne_of_cells g10 g8 (by simp))).trans g10
    have g21 : h14 n = some (.inr (1, [.int (x.cl), .int (x.cc), .long (x.cd), .int (x.cap), .int (x.cut), .int (x.cutn), .int (x.year), .int (x.vol), .int (x.voll), .long (x.mark), .int (x.markn), .ref ln, .int (x.lc)])) := (o19 _ (ne_of_cells g11 g8 (by simp))).trans g11
    have g22 : h14 ln = some (.inl (0, 6, .inl (fl))) := (o19 _ (ne_of_cells g12 g8 (by simp))).trans g12
    have g18 : h14 r = some (.inr (2, [.int (lt), .ref sgn, .int (nI c), .int (nI ((sDecimals (Sg c f) (p + 1) (6)).2))])) := g18
    refine qp_if_ne 39 dX1_readCutter_34 (by decide) (fun c_34 => ?_) (fun c_34 => ?_)
    · rw [bI_n0] at c_34
      refine qp_aload_n dX1_readCutter_39 rfl ?_
      refine qp_aload_n dX1_readCutter_40 rfl ?_
      refine qp_iload_n dX1_readCutter_41 rfl ?_
      refine qv_Ip dX1_readCutter_42 mX1_73 (c_signAt G (p) (by omega) hc g18 g20) g18 rfl rfl rfl rfl rfl rfl rfl ?_
      refine qk_put dX1_readCutter_45 fX1_89 g21 nn rfl rfl rfl rfl rfl (fun h26 g27 o28 => ?_)
      have g29 : h26 sgn = some (.inl (0, 60, .inl (f))) := (o28 _ (ne_of_cells g20 g21 (by simp))).trans g20
      have g30 : h26 ln = some (.inl (0, 6, .inl (fl))) := (o28 _ (ne_of_cells g22 g21 (by simp))).trans g22
      have g31 : h26 r = some (.inr (2, [.int (lt), .ref sgn, .int (nI c), .int (nI ((sDecimals (Sg c f) (p + 1) (6)).2))])) := (o28 _ (ne_of_cells g18 g21 (by simp))).trans g18
      have g27 : h26 n = some (.inr (1, [.int (x.cl), .int (x.cc), .long (x.cd), .int (Sg c f (p)), .int (x.cut), .int (x.cutn), .int (x.year), .int (x.vol), .int (x.voll), .long (x.mark), .int (x.markn), .ref ln, .int (x.lc)])) := g27
      refine qp_aload_n dX1_readCutter_48 rfl ?_
      refine qp_aload_n dX1_readCutter_49 rfl ?_
      refine qp_iload_n dX1_readCutter_50 rfl ?_
      refine qp_iconst (v := 1) dX1_readCutter_51 (by decide) ?_
      refine qp_iadd dX1_readCutter_52 ?_
      refine QP.topI (y := nI (p + 1)) (nI_1 p) ?_
      refine qp_aload_n dX1_readCutter_53 rfl ?_
      refine qp_getf dX1_readCutter_54 fX1_23 g31 rfl ?_
      refine qp_bipush (v := 6) dX1_readCutter_57 (by decide) ?_
      refine qv_Jp dX1_readCutter_59 mX1_57 (c_filledUp G (p + 1) ((sDecimals (Sg c f) (p + 1) (6)).2) (6) (by omega) (by omega) (by omega) hc g31 g29) g31 rfl rfl rfl rfl rfl rfl rfl ?_
      refine qp_l2i dX1_readCutter_62 ?_
      refine qk_put dX1_readCutter_63 fX1_92 g27 nn rfl rfl rfl rfl rfl (fun h35 g36 o37 => ?_)
      have g38 : h35 sgn = some (.inl (0, 60, .inl (f))) := (o37 _ (ne_of_cells g29 g27 (by simp))).trans g29
      have g39 : h35 ln = some (.inl (0, 6, .inl (fl))) := (o37 _ (ne_of_cells g30 g27 (by simp))).trans g30
      have g40 : h35 r = some (.inr (2, [.int (lt), .ref sgn, .int (nI c), .int (nI ((sDecimals (Sg c f) (p + 1) (6)).2))])) := (o37 _ (ne_of_cells g31 g27 (by simp))).trans g31
      have g36 : h35 n = some (.inr (1, [.int (x.cl), .int (x.cc), .long (x.cd), .int (Sg c f (p)), .int (Int64.toInt32 (sFill (Sg c f) (p + 1) ((sDecimals (Sg c f) (p + 1) (6)).2) (6))), .int (x.cutn), .int (x.year), .int (x.vol), .int (x.voll), .long (x.mark), .int (x.markn), .ref ln, .int (x.lc)])) := g36
      refine qp_aload_n dX1_readCutter_66 rfl ?_
      refine qp_aload_n dX1_readCutter_67 rfl ?_
      refine qp_getf dX1_readCutter_68 fX1_23 g40 rfl ?_
      refine qp_iload_n dX1_readCutter_71 rfl ?_
      refine qp_isub dX1_readCutter_72 ?_
      refine QP.topI (y := nI ((sDecimals (Sg c f) (p + 1) (6)).2 - p)) (pk_sub (by omega)) ?_
      refine qp_iconst (v := 1) dX1_readCutter_73 (by decide) ?_
      refine qp_isub dX1_readCutter_74 ?_
      refine QP.topI (y := nI ((sDecimals (Sg c f) (p + 1) (6)).2 - p - 1)) (pk_sub (a := (sDecimals (Sg c f) (p + 1) (6)).2 - p) (b := 1) (by omega)) ?_
      refine qk_put dX1_readCutter_75 fX1_95 g36 nn rfl rfl rfl rfl rfl (fun h41 g42 o43 => ?_)
      have g44 : h41 sgn = some (.inl (0, 60, .inl (f))) := (o43 _ (ne_of_cells g38 g36 (by simp))).trans g38
      have g45 : h41 ln = some (.inl (0, 6, .inl (fl))) := (o43 _ (ne_of_cells g39 g36 (by simp))).trans g39
      have g46 : h41 r = some (.inr (2, [.int (lt), .ref sgn, .int (nI c), .int (nI ((sDecimals (Sg c f) (p + 1) (6)).2))])) := (o43 _ (ne_of_cells g40 g36 (by simp))).trans g40
      have g42 : h41 n = some (.inr (1, [.int (x.cl), .int (x.cc), .long (x.cd), .int (Sg c f (p)), .int (Int64.toInt32 (sFill (Sg c f) (p + 1) ((sDecimals (Sg c f) (p + 1) (6)).2) (6))), .int (nI ((sDecimals (Sg c f) (p + 1) (6)).2 - p - 1)), .int (x.year), .int (x.vol), .int (x.voll), .long (x.mark), .int (x.markn), .ref ln, .int (x.lc)])) := g42
      refine qp_aload_n dX1_readCutter_78 rfl ?_
      refine qp_aload_n dX1_readCutter_79 rfl ?_
      refine qp_getf dX1_readCutter_80 fX1_23 g46 rfl ?_
      refine qp_iload_n dX1_readCutter_83 rfl ?_
      refine qp_isub dX1_readCutter_84 ?_
      refine QP.topI (y := nI ((sDecimals (Sg c f) (p + 1) (6)).2 - p)) (pk_sub (by omega)) ?_
      refine qv_V dX1_readCutter_85 mX1_69 (c_addLine G (x := (x.cl, x.cc, x.cd, Sg c f (p), Int64.toInt32 (sFill (Sg c f) (p + 1) ((sDecimals (Sg c f) (p + 1) (6)).2) (6)), nI ((sDecimals (Sg c f) (p + 1) (6)).2 - p - 1), x.year, x.vol, x.voll, x.mark, x.markn, x.lc)) (k := k) (nI ((sDecimals (Sg c f) (p + 1) (6)).2 - p)) nn nl hk (by omega) g42 g45) g42 rfl rfl rfl rfl rfl rfl rfl (fun h48 p49 => ?_)
      obtain ⟨g50, g51, o52⟩ := p49
      have g53 : h48 sgn = some (.inl (0, 60, .inl (f))) := (o52 _ (ne_of_cells g44 g42 (by simp)) (ne_of_cells g44 g45 (by simp))).trans g44
      have g54 : h48 r = some (.inr (2, [.int (lt), .ref sgn, .int (nI c), .int (nI ((sDecimals (Sg c f) (p + 1) (6)).2))])) := (o52 _ (ne_of_cells g46 g42 (by simp)) (ne_of_cells g46 g45 (by simp))).trans g46
      have g50 : h48 n = some (.inr (1, [.int (x.cl), .int (x.cc), .long (x.cd), .int (Sg c f (p)), .int (Int64.toInt32 (sFill (Sg c f) (p + 1) ((sDecimals (Sg c f) (p + 1) (6)).2) (6))), .int (nI ((sDecimals (Sg c f) (p + 1) (6)).2 - p - 1)), .int (x.year), .int (x.vol), .int (x.voll), .long (x.mark), .int (x.markn), .ref ln, .int (nI (k + 1))])) := g50
      have g51 : h48 ln = some (.inl (0, 6, .inl (upd (fl) (k) (nI ((sDecimals (Sg c f) (p + 1) (6)).2 - p))))) := g51
      refine qp_iconst (v := 1) dX1_readCutter_88 (by decide) ?_
      exact qr_z dX1_readCutter_89 rfl nar_1 rfl rfl ⟨by simp only [sCutter]; rw [if_neg (by rw [c_13]; decide), if_neg (by rw [c_34]; decide)]; rfl, by simp only [sCutter]; rw [if_neg (by rw [c_13]; decide), if_neg (by rw [c_34]; decide)]; exact ⟨g54, g50, g51, fun b hb1 hb2 hb3 => ((((((o52 b hb2 hb3).trans (o43 b hb2)).trans (o37 b hb2)).trans (o28 b hb2)).trans (o19 b hb1)).trans (o9 b hb1))⟩⟩
    · rw [bI_0] at c_34
      refine qp_iconst (v := 0) dX1_readCutter_37 (by decide) ?_
      exact qr_z dX1_readCutter_38 rfl nar_0 rfl rfl ⟨by simp only [sCutter]; rw [if_neg (by rw [c_13]; decide), if_pos c_34]; rfl, by simp only [sCutter]; rw [if_neg (by rw [c_13]; decide), if_pos c_34]; exact ⟨g18, fun b hb1 hb2 hb3 => ((o19 b hb1).trans (o9 b hb1))⟩⟩
  · rw [bI_0] at c_13
    refine qp_iconst (v := 0) dX1_readCutter_16 (by decide) ?_
    exact qr_z dX1_readCutter_17 rfl nar_0 rfl rfl ⟨by simp only [sCutter]; rw [if_pos c_13]; rfl, by simp only [sCutter]; rw [if_pos c_13]; exact ⟨gr, fun _ _ _ _ => rfl⟩⟩
