def sAllD (S : Nat → Int32) (c : Nat) : ROut := oThen (sClassD S 0 0 cnNew (fun _ => 0)) (fun q x fl => if (sSpace S q).1 = false then .inl (sSpace S q).2 else oThen (sCutter S (sSpace S q).2 1 x fl) (fun q2 x2 fl2 => sRest S c 4 1 q2 2 x2 fl2))
def sAllL (S : Nat → Int32) (c : Nat) : ROut := oThen (sClassL S 0 0 cnNew (fun _ => 0)) (fun q x fl => if (sSpace S q).1 = false then .inl (sSpace S q).2 else oThen (sCutter S (sSpace S q).2 2 x fl) (fun q2 x2 fl2 => sRest S c 4 1 q2 3 x2 fl2))
theorem sRest_ok : True := trivial
theorem sRest_all {S : Nat → Int32} {c t : Nat} {l : Int32} {p k : Nat} {x y : CNv} {fl g : Nat → Int32} {q : Nat} (_ : sRest S c t l p k x fl = .inr (q, y, g)) : True ∧ True ∧ True := ⟨trivial, trivial, trivial⟩
set_option maxHeartbeats 4000000 in
set_option maxRecDepth 100000 in
theorem c_readCollectedD (G : qG) {h : qH} {r sgn c : Nat} {pp : Int32} {f : Nat → Int32} (nr : G.2.1 ≤ r) (hc : c ≤ 60) (gr : h r = some (rdCell 0 sgn (nI c) pp)) (gs : h sgn = some (sgCell f)) : qMet G M_X1_readCollected [.ref r] h (qA (fun v h1 => ∃ n ln : Nat, G.2.1 ≤ n ∧ G.2.1 ≤ ln ∧ h n = none ∧ h ln = none ∧ n ≠ ln ∧ v = (if oOk (sAllD (Sg c f) c) = true then some n else none) ∧ RdOut h h1 0 r sgn c n ln (sAllD (Sg c f) c))) := by
  refine qMet.of (by decide) (Nat.le_of_ble_eq_true rfl) rfl ?_
  refine QP.locsE (L1 := [some (.ref r), none, none]) rfl ?_
  refine qk_new dX1_readCollected_0 nX1_26 rfl rfl rfl (fun n h1 n4 z5 g2 o3 => ?_)
  have z6 : h n = none := z5
  have g7 : h1 r = some (.inr (2, [.int (0), .ref sgn, .int (nI c), .int (pp)])) := (o3 _ (ne_of_none gr z5)).trans gr
  have g8 : h1 sgn = some (.inl (0, 60, .inl (f))) := (o3 _ (ne_of_none gs z5)).trans gs
  have g2 : h1 n = some (.inr (1, [.int (0), .int (0), .long (0), .int (0), .int (0), .int (0), .int (0), .int (0), .int (0), .long (0), .int (0), .null, .int (0)])) := g2
  refine qp_dup dX1_readCollected_3 rfl ?_
  refine qi_V dX1_readCollected_4 mX1_28 (c_cnInit G n4 g2) rfl rfl rfl rfl rfl rfl (fun h10 p11 => ?_)
  obtain ⟨ln, n15, z16, g12, g13, o14⟩ := p11
  have z17 : h ln = none := ((o3 ln (Ne.symm (ne_of_none g2 z16)))).symm.trans z16
  have g18 : h10 r = some (.inr (2, [.int (0), .ref sgn, .int (nI c), .int (pp)])) := (o14 _ (ne_of_cells g7 g2 (by simp)) (ne_of_none g7 z16)).trans g7
  have g19 : h10 sgn = some (.inl (0, 60, .inl (f))) := (o14 _ (ne_of_cells g8 g2 (by simp)) (ne_of_none g8 z16)).trans g8
  have g12 : h10 n = some (.inr (1, [.int (cnNew.cl), .int (cnNew.cc), .long (cnNew.cd), .int (cnNew.cap), .int (cnNew.cut), .int (cnNew.cutn), .int (cnNew.year), .int (cnNew.vol), .int (cnNew.voll), .long (cnNew.mark), .int (cnNew.markn), .ref ln, .int (cnNew.lc)])) := g12
  have g13 : h10 ln = some (.inl (0, 6, .inl (fun _ => 0))) := g13
  have nl := n15
  have hnl : n ≠ ln := ne_of_cells g12 g13 (by simp)
  have nn := n4
  refine qp_astore_n dX1_readCollected_7 (by decide) ?_
  refine QP.locsE (L1 := [some (.ref r), some (.ref n), none]) rfl ?_
  refine qp_aload_n dX1_readCollected_8 rfl ?_
  refine qp_iconst (v := 0) dX1_readCollected_9 (by decide) ?_
  refine qk_put dX1_readCollected_10 fX1_23 g18 nr rfl rfl rfl rfl rfl (fun h20 g21 o22 => ?_)
  have g23 : h20 sgn = some (.inl (0, 60, .inl (f))) := (o22 _ (ne_of_cells g19 g18 (by simp))).trans g19
  have g24 : h20 n = some (.inr (1, [.int (cnNew.cl), .int (cnNew.cc), .long (cnNew.cd), .int (cnNew.cap), .int (cnNew.cut), .int (cnNew.cutn), .int (cnNew.year), .int (cnNew.vol), .int (cnNew.voll), .long (cnNew.mark), .int (cnNew.markn), .ref ln, .int (cnNew.lc)])) := (o22 _ (ne_of_cells g12 g18 (by simp))).trans g12
  have g25 : h20 ln = some (.inl (0, 6, .inl (fun _ => 0))) := (o22 _ (ne_of_cells g13 g18 (by simp))).trans g13
  have g21 : h20 r = some (.inr (2, [.int (0), .ref sgn, .int (nI c), .int (0)])) := g21
  refine qp_aload_n dX1_readCollected_13 rfl ?_
  refine qp_aload_n dX1_readCollected_14 rfl ?_
  refine qv_Iq dX1_readCollected_15 mX1_29 (c_readClassD G (p := 0) (x := cnNew) (k := 0) ⟨nr, nn, nl, hc, by omega, rfl, by omega, g21, g23, g24, g25⟩) g21 rfl rfl rfl rfl rfl rfl rfl (fun h27 p28 => ?_)
  rcases hs29 : sClassD (Sg c f) (0) (0) cnNew (fun _ => 0) with w29 | ⟨q29, y29, f29⟩
  · rw [hs29] at p28
    obtain ⟨g30, o31⟩ := p28
    have g32 : h27 sgn = some (.inl (0, 60, .inl (f))) := (o31 _ (ne_of_cells g23 g21 (by simp)) (ne_of_cells g23 g24 (by simp)) (ne_of_cells g23 g25 (by simp))).trans g23
    have g30 : h27 r = some (.inr (2, [.int (0), .ref sgn, .int (nI c), .int (nI w29)])) := g30
    refine QP.topI (y := 0) rfl ?_
    refine qp_if_eq 48 dX1_readCollected_18 (by decide) (fun c_18 => ?_) (fun c_18 => absurd rfl c_18)
    refine qp_iconst (v := 0) dX1_readCollected_48 (by decide) ?_
    refine qp_istore_n dX1_readCollected_49 (by decide) ?_
    refine QP.locsE (L1 := [some (.ref r), some (.ref n), some (.int (0))]) rfl ?_
    refine qp_iload_n dX1_readCollected_50 rfl ?_
    refine qp_if_eq 58 dX1_readCollected_51 (by decide) (fun c_51 => ?_) (fun c_51 => absurd rfl c_51)
    refine qp_null dX1_readCollected_58 ?_
    have eR : sAllD (Sg c f) c = .inl w29 := by simp only [sAllD]; rw [hs29]; rfl
    exact qr_a (v := none) dX1_readCollected_59 rfl rfl rfl ⟨n, ln, nn, nl, z6, z17, hnl, by rw [eR]; rfl, by rw [eR]; exact ⟨g30, fun b hb1 hb2 hb3 => ((((o31 b hb1 hb2 hb3).trans (o22 b hb1)).trans (o14 b hb2 hb3)).trans (o3 b hb2))⟩⟩
  · rw [hs29] at p28
    obtain ⟨g33, g35, g36, o34⟩ := p28
    obtain ⟨ok37, b38, b39⟩ := sClassD_ok hs29
    have g40 : h27 sgn = some (.inl (0, 60, .inl (f))) := (o34 _ (ne_of_cells g23 g21 (by simp)) (ne_of_cells g23 g24 (by simp)) (ne_of_cells g23 g25 (by simp))).trans g23
    have g33 : h27 r = some (.inr (2, [.int (0), .ref sgn, .int (nI c), .int (nI q29)])) := g33
    have g35 : h27 n = some (.inr (1, [.int (y29.cl), .int (y29.cc), .long (y29.cd), .int (y29.cap), .int (y29.cut), .int (y29.cutn), .int (y29.year), .int (y29.vol), .int (y29.voll), .long (y29.mark), .int (y29.markn), .ref ln, .int (y29.lc)])) := g35
    have g36 : h27 ln = some (.inl (0, 6, .inl (f29))) := g36
    refine QP.topI (y := 1) rfl ?_
    refine qp_if_eq 48 dX1_readCollected_18 (by decide) (fun c_18 => absurd c_18 (by decide)) (fun c_18 => ?_)
    refine qp_aload_n dX1_readCollected_21 rfl ?_
    refine qv_Iq dX1_readCollected_22 mX1_33 (c_readSpace G nr hc (by omega) g33 g40) g33 rfl rfl rfl rfl rfl rfl rfl (fun h43 p44 => ?_)
    have le41 := sSpace_le (Sg c f) (q29)
    have ge41 := sSpace_ge (Sg c f) (q29)
    rcases hd41 : sSpace (Sg c f) (q29) with ⟨b41, q41⟩
    rw [hd41] at p44 le41 ge41
    dsimp only at le41 ge41
    obtain ⟨g45, o46⟩ := p44
    have g47 : h43 sgn = some (.inl (0, 60, .inl (f))) := (o46 _ (ne_of_cells g40 g33 (by simp))).trans g40
    have g48 : h43 n = some (.inr (1, [.int (y29.cl), .int (y29.cc), .long (y29.cd), .int (y29.cap), .int (y29.cut), .int (y29.cutn), .int (y29.year), .int (y29.vol), .int (y29.voll), .long (y29.mark), .int (y29.markn), .ref ln, .int (y29.lc)])) := (o46 _ (ne_of_cells g35 g33 (by simp))).trans g35
    have g49 : h43 ln = some (.inl (0, 6, .inl (f29))) := (o46 _ (ne_of_cells g36 g33 (by simp))).trans g36
    have g45 : h43 r = some (.inr (2, [.int (0), .ref sgn, .int (nI c), .int (nI q41)])) := g45
    refine QP.topI (y := bI b41) rfl ?_
    refine qp_if_eq 48 dX1_readCollected_25 (by decide) (fun c_25 => ?_) (fun c_25 => ?_)
    · rw [bI_0] at c_25
      refine qp_iconst (v := 0) dX1_readCollected_48 (by decide) ?_
      refine qp_istore_n dX1_readCollected_49 (by decide) ?_
      refine QP.locsE (L1 := [some (.ref r), some (.ref n), some (.int (0))]) rfl ?_
      refine qp_iload_n dX1_readCollected_50 rfl ?_
      refine qp_if_eq 58 dX1_readCollected_51 (by decide) (fun c_51 => ?_) (fun c_51 => absurd rfl c_51)
      refine qp_null dX1_readCollected_58 ?_
      have eR : sAllD (Sg c f) c = .inl q41 := by simp only [sAllD]; rw [hs29]; simp only [oThen]; rw [hd41]; dsimp only; rw [if_pos c_25]
      exact qr_a (v := none) dX1_readCollected_59 rfl rfl rfl ⟨n, ln, nn, nl, z6, z17, hnl, by rw [eR]; rfl, by rw [eR]; exact ⟨g45, fun b hb1 hb2 hb3 => (((((o46 b hb1).trans (o34 b hb1 hb2 hb3)).trans (o22 b hb1)).trans (o14 b hb2 hb3)).trans (o3 b hb2))⟩⟩
    · rw [bI_n0] at c_25
      refine qp_aload_n dX1_readCollected_28 rfl ?_
      refine qp_aload_n dX1_readCollected_29 rfl ?_
      refine qv_Iq dX1_readCollected_30 mX1_37 (c_readCutter G (p := q41) (x := y29) (k := 1) ⟨nr, nn, nl, hc, by omega, ok37, by omega, g45, g47, g48, g49⟩) g45 rfl rfl rfl rfl rfl rfl rfl (fun h51 p52 => ?_)
      rcases hs53 : sCutter (Sg c f) (q41) (1) y29 (f29) with w53 | ⟨q53, y53, f53⟩
      · rw [hs53] at p52
        obtain ⟨g54, o55⟩ := p52
        have g56 : h51 sgn = some (.inl (0, 60, .inl (f))) := (o55 _ (ne_of_cells g47 g45 (by simp)) (ne_of_cells g47 g48 (by simp)) (ne_of_cells g47 g49 (by simp))).trans g47
        have g54 : h51 r = some (.inr (2, [.int (0), .ref sgn, .int (nI c), .int (nI w53)])) := g54
        refine QP.topI (y := 0) rfl ?_
        refine qp_if_eq 48 dX1_readCollected_33 (by decide) (fun c_33 => ?_) (fun c_33 => absurd rfl c_33)
        refine qp_iconst (v := 0) dX1_readCollected_48 (by decide) ?_
        refine qp_istore_n dX1_readCollected_49 (by decide) ?_
        refine QP.locsE (L1 := [some (.ref r), some (.ref n), some (.int (0))]) rfl ?_
        refine qp_iload_n dX1_readCollected_50 rfl ?_
        refine qp_if_eq 58 dX1_readCollected_51 (by decide) (fun c_51 => ?_) (fun c_51 => absurd rfl c_51)
        refine qp_null dX1_readCollected_58 ?_
        have eR : sAllD (Sg c f) c = .inl w53 := by simp only [sAllD]; rw [hs29]; simp only [oThen]; rw [hd41]; dsimp only; rw [if_neg (by rw [c_25]; decide), hs53]
        exact qr_a (v := none) dX1_readCollected_59 rfl rfl rfl ⟨n, ln, nn, nl, z6, z17, hnl, by rw [eR]; rfl, by rw [eR]; exact ⟨g54, fun b hb1 hb2 hb3 => ((((((o55 b hb1 hb2 hb3).trans (o46 b hb1)).trans (o34 b hb1 hb2 hb3)).trans (o22 b hb1)).trans (o14 b hb2 hb3)).trans (o3 b hb2))⟩⟩
      · rw [hs53] at p52
        obtain ⟨g57, g59, g60, o58⟩ := p52
        obtain ⟨ok61, b62, b63⟩ := sCutter_ok hs53
        have g64 : h51 sgn = some (.inl (0, 60, .inl (f))) := (o58 _ (ne_of_cells g47 g45 (by simp)) (ne_of_cells g47 g48 (by simp)) (ne_of_cells g47 g49 (by simp))).trans g47
        have g57 : h51 r = some (.inr (2, [.int (0), .ref sgn, .int (nI c), .int (nI q53)])) := g57
        have g59 : h51 n = some (.inr (1, [.int (y53.cl), .int (y53.cc), .long (y53.cd), .int (y53.cap), .int (y53.cut), .int (y53.cutn), .int (y53.year), .int (y53.vol), .int (y53.voll), .long (y53.mark), .int (y53.markn), .ref ln, .int (y53.lc)])) := g59
        have g60 : h51 ln = some (.inl (0, 6, .inl (f53))) := g60
        refine QP.topI (y := 1) rfl ?_
        refine qp_if_eq 48 dX1_readCollected_33 (by decide) (fun c_33 => absurd c_33 (by decide)) (fun c_33 => ?_)
        refine qp_aload_n dX1_readCollected_36 rfl ?_
        refine qp_aload_n dX1_readCollected_37 rfl ?_
        refine qv_Iq dX1_readCollected_38 mX1_40 (c_readRest G (p := q53) (x := y53) (k := 2) (by omega) (by omega) ⟨nr, nn, nl, hc, by omega, ok61, by omega, g57, g64, g59, g60⟩) g57 rfl rfl rfl rfl rfl rfl rfl (fun h66 p67 => ?_)
        rcases hs68 : sRest (Sg c f) c 4 1 (q53) (2) y53 (f53) with w68 | ⟨q68, y68, f68⟩
        · rw [hs68] at p67
          obtain ⟨g69, o70⟩ := p67
          have g71 : h66 sgn = some (.inl (0, 60, .inl (f))) := (o70 _ (ne_of_cells g64 g57 (by simp)) (ne_of_cells g64 g59 (by simp)) (ne_of_cells g64 g60 (by simp))).trans g64
          have g69 : h66 r = some (.inr (2, [.int (0), .ref sgn, .int (nI c), .int (nI w68)])) := g69
          refine QP.topI (y := 0) rfl ?_
          refine qp_if_eq 48 dX1_readCollected_41 (by decide) (fun c_41 => ?_) (fun c_41 => absurd rfl c_41)
          refine qp_iconst (v := 0) dX1_readCollected_48 (by decide) ?_
          refine qp_istore_n dX1_readCollected_49 (by decide) ?_
          refine QP.locsE (L1 := [some (.ref r), some (.ref n), some (.int (0))]) rfl ?_
          refine qp_iload_n dX1_readCollected_50 rfl ?_
          refine qp_if_eq 58 dX1_readCollected_51 (by decide) (fun c_51 => ?_) (fun c_51 => absurd rfl c_51)
          refine qp_null dX1_readCollected_58 ?_
          have eR : sAllD (Sg c f) c = .inl w68 := by simp only [sAllD]; rw [hs29]; simp only [oThen]; rw [hd41]; dsimp only; rw [if_neg (by rw [c_25]; decide), hs53]; dsimp only; rw [hs68]
          exact qr_a (v := none) dX1_readCollected_59 rfl rfl rfl ⟨n, ln, nn, nl, z6, z17, hnl, by rw [eR]; rfl, by rw [eR]; exact ⟨g69, fun b hb1 hb2 hb3 => (((((((o70 b hb1 hb2 hb3).trans (o58 b hb1 hb2 hb3)).trans (o46 b hb1)).trans (o34 b hb1 hb2 hb3)).trans (o22 b hb1)).trans (o14 b hb2 hb3)).trans (o3 b hb2))⟩⟩
        · rw [hs68] at p67
          obtain ⟨g72, g74, g75, o73⟩ := p67
          obtain ⟨ok76, b77, b78⟩ := sRest_all hs68
          have g79 : h66 sgn = some (.inl (0, 60, .inl (f))) := (o73 _ (ne_of_cells g64 g57 (by simp)) (ne_of_cells g64 g59 (by simp)) (ne_of_cells g64 g60 (by simp))).trans g64
          have g72 : h66 r = some (.inr (2, [.int (0), .ref sgn, .int (nI c), .int (nI q68)])) := g72
          have g74 : h66 n = some (.inr (1, [.int (y68.cl), .int (y68.cc), .long (y68.cd), .int (y68.cap), .int (y68.cut), .int (y68.cutn), .int (y68.year), .int (y68.vol), .int (y68.voll), .long (y68.mark), .int (y68.markn), .ref ln, .int (y68.lc)])) := g74
          have g75 : h66 ln = some (.inl (0, 6, .inl (f68))) := g75
          refine QP.topI (y := 1) rfl ?_
          refine qp_if_eq 48 dX1_readCollected_41 (by decide) (fun c_41 => absurd c_41 (by decide)) (fun c_41 => ?_)
          refine qp_iconst (v := 1) dX1_readCollected_44 (by decide) ?_
          refine qp_goto 49 dX1_readCollected_45 (by decide) ?_
          refine qp_istore_n dX1_readCollected_49 (by decide) ?_
          refine QP.locsE (L1 := [some (.ref r), some (.ref n), some (.int (1))]) rfl ?_
          refine qp_iload_n dX1_readCollected_50 rfl ?_
          refine qp_if_eq 58 dX1_readCollected_51 (by decide) (fun c_51 => absurd c_51 (by decide)) (fun c_51 => ?_)
          refine qp_aload_n dX1_readCollected_54 rfl ?_
          refine qp_goto 59 dX1_readCollected_55 (by decide) ?_
          have eR : sAllD (Sg c f) c = .inr (q68, y68, f68) := by simp only [sAllD]; rw [hs29]; simp only [oThen]; rw [hd41]; dsimp only; rw [if_neg (by rw [c_25]; decide), hs53]; dsimp only; rw [hs68]
          exact qr_a (v := some n) dX1_readCollected_59 rfl rfl rfl ⟨n, ln, nn, nl, z6, z17, hnl, by rw [eR]; rfl, by rw [eR]; exact ⟨g72, g74, g75, fun b hb1 hb2 hb3 => (((((((o73 b hb1 hb2 hb3).trans (o58 b hb1 hb2 hb3)).trans (o46 b hb1)).trans (o34 b hb1 hb2 hb3)).trans (o22 b hb1)).trans (o14 b hb2 hb3)).trans (o3 b hb2))⟩⟩

set_option maxHeartbeats 4000000 in
set_option maxRecDepth 100000 in
theorem c_readCollectedL (G : qG) {h : qH} {r sgn c : Nat} {pp : Int32} {f : Nat → Int32} (nr : G.2.1 ≤ r) (hc : c ≤ 60) (gr : h r = some (rdCell 1 sgn (nI c) pp)) (gs : h sgn = some (sgCell f)) : qMet G M_X1_readCollected [.ref r] h (qA (fun v h1 => ∃ n ln : Nat, G.2.1 ≤ n ∧ G.2.1 ≤ ln ∧ h n = none ∧ h ln = none ∧ n ≠ ln ∧ v = (if oOk (sAllL (Sg c f) c) = true then some n else none) ∧ RdOut h h1 1 r sgn c n ln (sAllL (Sg c f) c))) := by
  refine qMet.of (by decide) (Nat.le_of_ble_eq_true rfl) rfl ?_
  refine QP.locsE (L1 := [some (.ref r), none, none]) rfl ?_
  refine qk_new dX1_readCollected_0 nX1_26 rfl rfl rfl (fun n h1 n4 z5 g2 o3 => ?_)
  have z6 : h n = none := z5
  have g7 : h1 r = some (.inr (2, [.int (1), .ref sgn, .int (nI c), .int (pp)])) := (o3 _ (ne_of_none gr z5)).trans gr
  have g8 : h1 sgn = some (.inl (0, 60, .inl (f))) := (o3 _ (ne_of_none gs z5)).trans gs
  have g2 : h1 n = some (.inr (1, [.int (0), .int (0), .long (0), .int (0), .int (0), .int (0), .int (0), .int (0), .int (0), .long (0), .int (0), .null, .int (0)])) := g2
  refine qp_dup dX1_readCollected_3 rfl ?_
  refine qi_V dX1_readCollected_4 mX1_28 (c_cnInit G n4 g2) rfl rfl rfl rfl rfl rfl (fun h10 p11 => ?_)
  obtain ⟨ln, n15, z16, g12, g13, o14⟩ := p11
  have z17 : h ln = none := ((o3 ln (Ne.symm (ne_of_none g2 z16)))).symm.trans z16
  have g18 : h10 r = some (.inr (2, [.int (1), .ref sgn, .int (nI c), .int (pp)])) := (o14 _ (ne_of_cells g7 g2 (by simp)) (ne_of_none g7 z16)).trans g7
  have g19 : h10 sgn = some (.inl (0, 60, .inl (f))) := (o14 _ (ne_of_cells g8 g2 (by simp)) (ne_of_none g8 z16)).trans g8
  have g12 : h10 n = some (.inr (1, [.int (cnNew.cl), .int (cnNew.cc), .long (cnNew.cd), .int (cnNew.cap), .int (cnNew.cut), .int (cnNew.cutn), .int (cnNew.year), .int (cnNew.vol), .int (cnNew.voll), .long (cnNew.mark), .int (cnNew.markn), .ref ln, .int (cnNew.lc)])) := g12
  have g13 : h10 ln = some (.inl (0, 6, .inl (fun _ => 0))) := g13
  have nl := n15
  have hnl : n ≠ ln := ne_of_cells g12 g13 (by simp)
  have nn := n4
  refine qp_astore_n dX1_readCollected_7 (by decide) ?_
  refine QP.locsE (L1 := [some (.ref r), some (.ref n), none]) rfl ?_
  refine qp_aload_n dX1_readCollected_8 rfl ?_
  refine qp_iconst (v := 0) dX1_readCollected_9 (by decide) ?_
  refine qk_put dX1_readCollected_10 fX1_23 g18 nr rfl rfl rfl rfl rfl (fun h20 g21 o22 => ?_)
  have g23 : h20 sgn = some (.inl (0, 60, .inl (f))) := (o22 _ (ne_of_cells g19 g18 (by simp))).trans g19
  have g24 : h20 n = some (.inr (1, [.int (cnNew.cl), .int (cnNew.cc), .long (cnNew.cd), .int (cnNew.cap), .int (cnNew.cut), .int (cnNew.cutn), .int (cnNew.year), .int (cnNew.vol), .int (cnNew.voll), .long (cnNew.mark), .int (cnNew.markn), .ref ln, .int (cnNew.lc)])) := (o22 _ (ne_of_cells g12 g18 (by simp))).trans g12
  have g25 : h20 ln = some (.inl (0, 6, .inl (fun _ => 0))) := (o22 _ (ne_of_cells g13 g18 (by simp))).trans g13
  have g21 : h20 r = some (.inr (2, [.int (1), .ref sgn, .int (nI c), .int (0)])) := g21
  refine qp_aload_n dX1_readCollected_13 rfl ?_
  refine qp_aload_n dX1_readCollected_14 rfl ?_
  refine qv_Iq dX1_readCollected_15 mX1_29 (c_readClassL G (p := 0) (x := cnNew) (k := 0) (by omega) ⟨nr, nn, nl, hc, by omega, rfl, by omega, g21, g23, g24, g25⟩) g21 rfl rfl rfl rfl rfl rfl rfl (fun h27 p28 => ?_)
  rcases hs29 : sClassL (Sg c f) (0) (0) cnNew (fun _ => 0) with w29 | ⟨q29, y29, f29⟩
  · rw [hs29] at p28
    obtain ⟨g30, o31⟩ := p28
    have g32 : h27 sgn = some (.inl (0, 60, .inl (f))) := (o31 _ (ne_of_cells g23 g21 (by simp)) (ne_of_cells g23 g24 (by simp)) (ne_of_cells g23 g25 (by simp))).trans g23
    have g30 : h27 r = some (.inr (2, [.int (1), .ref sgn, .int (nI c), .int (nI w29)])) := g30
    refine QP.topI (y := 0) rfl ?_
    refine qp_if_eq 48 dX1_readCollected_18 (by decide) (fun c_18 => ?_) (fun c_18 => absurd rfl c_18)
    refine qp_iconst (v := 0) dX1_readCollected_48 (by decide) ?_
    refine qp_istore_n dX1_readCollected_49 (by decide) ?_
    refine QP.locsE (L1 := [some (.ref r), some (.ref n), some (.int (0))]) rfl ?_
    refine qp_iload_n dX1_readCollected_50 rfl ?_
    refine qp_if_eq 58 dX1_readCollected_51 (by decide) (fun c_51 => ?_) (fun c_51 => absurd rfl c_51)
    refine qp_null dX1_readCollected_58 ?_
    have eR : sAllL (Sg c f) c = .inl w29 := by simp only [sAllL]; rw [hs29]; rfl
    exact qr_a (v := none) dX1_readCollected_59 rfl rfl rfl ⟨n, ln, nn, nl, z6, z17, hnl, by rw [eR]; rfl, by rw [eR]; exact ⟨g30, fun b hb1 hb2 hb3 => ((((o31 b hb1 hb2 hb3).trans (o22 b hb1)).trans (o14 b hb2 hb3)).trans (o3 b hb2))⟩⟩
  · rw [hs29] at p28
    obtain ⟨g33, g35, g36, o34⟩ := p28
    obtain ⟨ok37, b38, b39⟩ := sClassL_ok hs29
    have g40 : h27 sgn = some (.inl (0, 60, .inl (f))) := (o34 _ (ne_of_cells g23 g21 (by simp)) (ne_of_cells g23 g24 (by simp)) (ne_of_cells g23 g25 (by simp))).trans g23
    have g33 : h27 r = some (.inr (2, [.int (1), .ref sgn, .int (nI c), .int (nI q29)])) := g33
    have g35 : h27 n = some (.inr (1, [.int (y29.cl), .int (y29.cc), .long (y29.cd), .int (y29.cap), .int (y29.cut), .int (y29.cutn), .int (y29.year), .int (y29.vol), .int (y29.voll), .long (y29.mark), .int (y29.markn), .ref ln, .int (y29.lc)])) := g35
    have g36 : h27 ln = some (.inl (0, 6, .inl (f29))) := g36
    refine QP.topI (y := 1) rfl ?_
    refine qp_if_eq 48 dX1_readCollected_18 (by decide) (fun c_18 => absurd c_18 (by decide)) (fun c_18 => ?_)
    refine qp_aload_n dX1_readCollected_21 rfl ?_
    refine qv_Iq dX1_readCollected_22 mX1_33 (c_readSpace G nr hc (by omega) g33 g40) g33 rfl rfl rfl rfl rfl rfl rfl (fun h43 p44 => ?_)
    have le41 := sSpace_le (Sg c f) (q29)
    have ge41 := sSpace_ge (Sg c f) (q29)
    rcases hd41 : sSpace (Sg c f) (q29) with ⟨b41, q41⟩
    rw [hd41] at p44 le41 ge41
    dsimp only at le41 ge41
    obtain ⟨g45, o46⟩ := p44
    have g47 : h43 sgn = some (.inl (0, 60, .inl (f))) := (o46 _ (ne_of_cells g40 g33 (by simp))).trans g40
    have g48 : h43 n = some (.inr (1, [.int (y29.cl), .int (y29.cc), .long (y29.cd), .int (y29.cap), .int (y29.cut), .int (y29.cutn), .int (y29.year), .int (y29.vol), .int (y29.voll), .long (y29.mark), .int (y29.markn), .ref ln, .int (y29.lc)])) := (o46 _ (ne_of_cells g35 g33 (by simp))).trans g35
    have g49 : h43 ln = some (.inl (0, 6, .inl (f29))) := (o46 _ (ne_of_cells g36 g33 (by simp))).trans g36
    have g45 : h43 r = some (.inr (2, [.int (1), .ref sgn, .int (nI c), .int (nI q41)])) := g45
    refine QP.topI (y := bI b41) rfl ?_
    refine qp_if_eq 48 dX1_readCollected_25 (by decide) (fun c_25 => ?_) (fun c_25 => ?_)
    · rw [bI_0] at c_25
      refine qp_iconst (v := 0) dX1_readCollected_48 (by decide) ?_
      refine qp_istore_n dX1_readCollected_49 (by decide) ?_
      refine QP.locsE (L1 := [some (.ref r), some (.ref n), some (.int (0))]) rfl ?_
      refine qp_iload_n dX1_readCollected_50 rfl ?_
      refine qp_if_eq 58 dX1_readCollected_51 (by decide) (fun c_51 => ?_) (fun c_51 => absurd rfl c_51)
      refine qp_null dX1_readCollected_58 ?_
      have eR : sAllL (Sg c f) c = .inl q41 := by simp only [sAllL]; rw [hs29]; simp only [oThen]; rw [hd41]; dsimp only; rw [if_pos c_25]
      exact qr_a (v := none) dX1_readCollected_59 rfl rfl rfl ⟨n, ln, nn, nl, z6, z17, hnl, by rw [eR]; rfl, by rw [eR]; exact ⟨g45, fun b hb1 hb2 hb3 => (((((o46 b hb1).trans (o34 b hb1 hb2 hb3)).trans (o22 b hb1)).trans (o14 b hb2 hb3)).trans (o3 b hb2))⟩⟩
    · rw [bI_n0] at c_25
      refine qp_aload_n dX1_readCollected_28 rfl ?_
      refine qp_aload_n dX1_readCollected_29 rfl ?_
      refine qv_Iq dX1_readCollected_30 mX1_37 (c_readCutter G (p := q41) (x := y29) (k := 2) ⟨nr, nn, nl, hc, by omega, ok37, by omega, g45, g47, g48, g49⟩) g45 rfl rfl rfl rfl rfl rfl rfl (fun h51 p52 => ?_)
      rcases hs53 : sCutter (Sg c f) (q41) (2) y29 (f29) with w53 | ⟨q53, y53, f53⟩
      · rw [hs53] at p52
        obtain ⟨g54, o55⟩ := p52
        have g56 : h51 sgn = some (.inl (0, 60, .inl (f))) := (o55 _ (ne_of_cells g47 g45 (by simp)) (ne_of_cells g47 g48 (by simp)) (ne_of_cells g47 g49 (by simp))).trans g47
        have g54 : h51 r = some (.inr (2, [.int (1), .ref sgn, .int (nI c), .int (nI w53)])) := g54
        refine QP.topI (y := 0) rfl ?_
        refine qp_if_eq 48 dX1_readCollected_33 (by decide) (fun c_33 => ?_) (fun c_33 => absurd rfl c_33)
        refine qp_iconst (v := 0) dX1_readCollected_48 (by decide) ?_
        refine qp_istore_n dX1_readCollected_49 (by decide) ?_
        refine QP.locsE (L1 := [some (.ref r), some (.ref n), some (.int (0))]) rfl ?_
        refine qp_iload_n dX1_readCollected_50 rfl ?_
        refine qp_if_eq 58 dX1_readCollected_51 (by decide) (fun c_51 => ?_) (fun c_51 => absurd rfl c_51)
        refine qp_null dX1_readCollected_58 ?_
        have eR : sAllL (Sg c f) c = .inl w53 := by simp only [sAllL]; rw [hs29]; simp only [oThen]; rw [hd41]; dsimp only; rw [if_neg (by rw [c_25]; decide), hs53]
        exact qr_a (v := none) dX1_readCollected_59 rfl rfl rfl ⟨n, ln, nn, nl, z6, z17, hnl, by rw [eR]; rfl, by rw [eR]; exact ⟨g54, fun b hb1 hb2 hb3 => ((((((o55 b hb1 hb2 hb3).trans (o46 b hb1)).trans (o34 b hb1 hb2 hb3)).trans (o22 b hb1)).trans (o14 b hb2 hb3)).trans (o3 b hb2))⟩⟩
      · rw [hs53] at p52
        obtain ⟨g57, g59, g60, o58⟩ := p52
        obtain ⟨ok61, b62, b63⟩ := sCutter_ok hs53
        have g64 : h51 sgn = some (.inl (0, 60, .inl (f))) := (o58 _ (ne_of_cells g47 g45 (by simp)) (ne_of_cells g47 g48 (by simp)) (ne_of_cells g47 g49 (by simp))).trans g47
        have g57 : h51 r = some (.inr (2, [.int (1), .ref sgn, .int (nI c), .int (nI q53)])) := g57
        have g59 : h51 n = some (.inr (1, [.int (y53.cl), .int (y53.cc), .long (y53.cd), .int (y53.cap), .int (y53.cut), .int (y53.cutn), .int (y53.year), .int (y53.vol), .int (y53.voll), .long (y53.mark), .int (y53.markn), .ref ln, .int (y53.lc)])) := g59
        have g60 : h51 ln = some (.inl (0, 6, .inl (f53))) := g60
        refine QP.topI (y := 1) rfl ?_
        refine qp_if_eq 48 dX1_readCollected_33 (by decide) (fun c_33 => absurd c_33 (by decide)) (fun c_33 => ?_)
        refine qp_aload_n dX1_readCollected_36 rfl ?_
        refine qp_aload_n dX1_readCollected_37 rfl ?_
        refine qv_Iq dX1_readCollected_38 mX1_40 (c_readRest G (p := q53) (x := y53) (k := 3) (by omega) (by omega) ⟨nr, nn, nl, hc, by omega, ok61, by omega, g57, g64, g59, g60⟩) g57 rfl rfl rfl rfl rfl rfl rfl (fun h66 p67 => ?_)
        rcases hs68 : sRest (Sg c f) c 4 1 (q53) (3) y53 (f53) with w68 | ⟨q68, y68, f68⟩
        · rw [hs68] at p67
          obtain ⟨g69, o70⟩ := p67
          have g71 : h66 sgn = some (.inl (0, 60, .inl (f))) := (o70 _ (ne_of_cells g64 g57 (by simp)) (ne_of_cells g64 g59 (by simp)) (ne_of_cells g64 g60 (by simp))).trans g64
          have g69 : h66 r = some (.inr (2, [.int (1), .ref sgn, .int (nI c), .int (nI w68)])) := g69
          refine QP.topI (y := 0) rfl ?_
          refine qp_if_eq 48 dX1_readCollected_41 (by decide) (fun c_41 => ?_) (fun c_41 => absurd rfl c_41)
          refine qp_iconst (v := 0) dX1_readCollected_48 (by decide) ?_
          refine qp_istore_n dX1_readCollected_49 (by decide) ?_
          refine QP.locsE (L1 := [some (.ref r), some (.ref n), some (.int (0))]) rfl ?_
          refine qp_iload_n dX1_readCollected_50 rfl ?_
          refine qp_if_eq 58 dX1_readCollected_51 (by decide) (fun c_51 => ?_) (fun c_51 => absurd rfl c_51)
          refine qp_null dX1_readCollected_58 ?_
          have eR : sAllL (Sg c f) c = .inl w68 := by simp only [sAllL]; rw [hs29]; simp only [oThen]; rw [hd41]; dsimp only; rw [if_neg (by rw [c_25]; decide), hs53]; dsimp only; rw [hs68]
          exact qr_a (v := none) dX1_readCollected_59 rfl rfl rfl ⟨n, ln, nn, nl, z6, z17, hnl, by rw [eR]; rfl, by rw [eR]; exact ⟨g69, fun b hb1 hb2 hb3 => (((((((o70 b hb1 hb2 hb3).trans (o58 b hb1 hb2 hb3)).trans (o46 b hb1)).trans (o34 b hb1 hb2 hb3)).trans (o22 b hb1)).trans (o14 b hb2 hb3)).trans (o3 b hb2))⟩⟩
        · rw [hs68] at p67
          obtain ⟨g72, g74, g75, o73⟩ := p67
          obtain ⟨ok76, b77, b78⟩ := sRest_all hs68
          have g79 : h66 sgn = some (.inl (0, 60, .inl (f))) := (o73 _ (ne_of_cells g64 g57 (by simp)) (ne_of_cells g64 g59 (by simp)) (ne_of_cells g64 g60 (by simp))).trans g64
          have g72 : h66 r = some (.inr (2, [.int (1), .ref sgn, .int (nI c), .int (nI q68)])) := g72
          have g74 : h66 n = some (.inr (1, [.int (y68.cl), .int (y68.cc), .long (y68.cd), .int (y68.cap), .int (y68.cut), .int (y68.cutn), .int (y68.year), .int (y68.vol), .int (y68.voll), .long (y68.mark), .int (y68.markn), .ref ln, .int (y68.lc)])) := g74
          have g75 : h66 ln = some (.inl (0, 6, .inl (f68))) := g75
          refine QP.topI (y := 1) rfl ?_
          refine qp_if_eq 48 dX1_readCollected_41 (by decide) (fun c_41 => absurd c_41 (by decide)) (fun c_41 => ?_)
          refine qp_iconst (v := 1) dX1_readCollected_44 (by decide) ?_
          refine qp_goto 49 dX1_readCollected_45 (by decide) ?_
          refine qp_istore_n dX1_readCollected_49 (by decide) ?_
          refine QP.locsE (L1 := [some (.ref r), some (.ref n), some (.int (1))]) rfl ?_
          refine qp_iload_n dX1_readCollected_50 rfl ?_
          refine qp_if_eq 58 dX1_readCollected_51 (by decide) (fun c_51 => absurd c_51 (by decide)) (fun c_51 => ?_)
          refine qp_aload_n dX1_readCollected_54 rfl ?_
          refine qp_goto 59 dX1_readCollected_55 (by decide) ?_
          have eR : sAllL (Sg c f) c = .inr (q68, y68, f68) := by simp only [sAllL]; rw [hs29]; simp only [oThen]; rw [hd41]; dsimp only; rw [if_neg (by rw [c_25]; decide), hs53]; dsimp only; rw [hs68]
          exact qr_a (v := some n) dX1_readCollected_59 rfl rfl rfl ⟨n, ln, nn, nl, z6, z17, hnl, by rw [eR]; rfl, by rw [eR]; exact ⟨g72, g74, g75, fun b hb1 hb2 hb3 => (((((((o73 b hb1 hb2 hb3).trans (o58 b hb1 hb2 hb3)).trans (o46 b hb1)).trans (o34 b hb1 hb2 hb3)).trans (o22 b hb1)).trans (o14 b hb2 hb3)).trans (o3 b hb2))⟩⟩
