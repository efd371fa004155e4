/-- what read() comes to -/
def RdRes (h h1 : qH) (lt : Int32) (o0 r sgn k0 n ln : Nat) (tol : Option Nat) (v : Int32) (o : ROut) : Prop := match o with
  | .inl w => v = -1 - nI w ∧ h1 r = some (rdCell lt sgn 0 (nI w)) ∧ ∀ b : Nat, b ≠ r → b ≠ n → b ≠ ln → h1 b = h b
  | .inr y => v = sPartCount y.2.1 ∧ h1 r = some (rdCell lt sgn 0 (nI y.1)) ∧ h1 o0 = some (csCell r k0 (some n) tol) ∧ h1 n = some (cnCell y.2.1 ln) ∧ h1 ln = some (lnCell y.2.2) ∧ ∀ b : Nat, b ≠ o0 → b ≠ r → b ≠ n → b ≠ ln → h1 b = h b
set_option maxHeartbeats 4000000 in
set_option maxRecDepth 100000 in
theorem c_readD (G : qG) {h : qH} {o0 r sgn k0 c : Nat} {lat tol : Option Nat} {pp : Int32} {f : Nat → Int32} (no : G.2.1 ≤ o0) (nr : G.2.1 ≤ r) (hc : c ≤ 60) (go : h o0 = some (csCell r k0 lat tol)) (gr : h r = some (rdCell 0 sgn (nI c) pp)) (gs : h sgn = some (sgCell f)) : qMet G M_X3_read [.ref o0] h (qI (fun v h1 => ∃ n ln : Nat, G.2.1 ≤ n ∧ G.2.1 ≤ ln ∧ h n = none ∧ h ln = none ∧ n ≠ ln ∧ RdRes h h1 0 o0 r sgn k0 n ln tol v (sAllD (Sg c f) c))) := by
  refine qMet.of (by decide) (Nat.le_of_ble_eq_true rfl) rfl ?_
  refine QP.locsE (L1 := [some (.ref o0), none]) rfl ?_
  refine qp_aload_n dX3_read_0 rfl ?_
  refine qp_getf dX3_read_1 fX3_12 go rfl ?_
  refine qv_A dX3_read_4 mX3_36 (c_readCollectedD G nr hc gr gs) gr rfl rfl rfl rfl rfl rfl rfl (fun v1 hA hq => ?_)
  obtain ⟨n, ln, nn, nl, zn, zl, hnl, ev, hout⟩ := hq
  rcases hO : sAllD (Sg c f) c with w | ⟨q, y, g⟩ <;> rw [hO] at ev hout
  · have ev : v1 = none := ev
    subst ev
    obtain ⟨g1, o1⟩ := hout
    have g4 : hA o0 = some (.inr (4, [.ref r, .ref k0, va_rf (lat), va_rf (tol)])) := (o1 _ (ne_of_cells go gr (by simp)) (ne_of_none go zn) (ne_of_none go zl)).trans go
    have g5 : hA sgn = some (.inl (0, 60, .inl (f))) := (o1 _ (ne_of_cells gs gr (by simp)) (ne_of_none gs zn) (ne_of_none gs zl)).trans gs
    have g1 : hA r = some (.inr (2, [.int (0), .ref sgn, .int (nI c), .int (nI w)])) := g1
    refine qp_astore_nN dX3_read_7 (by decide) ?_
    refine QP.locsE (L1 := [some (.ref o0), some (.null)]) rfl ?_
    refine qp_aload_n dX3_read_8 rfl ?_
    refine qp_getf dX3_read_9 fX3_12 g4 rfl ?_
    refine qv_V dX3_read_12 mX3_40 (c_forget G nr g1) g1 rfl rfl rfl rfl rfl rfl rfl (fun h7 p8 => ?_)
    obtain ⟨g9, o10⟩ := p8
    have g11 : h7 o0 = some (.inr (4, [.ref r, .ref k0, va_rf (lat), va_rf (tol)])) := (o10 _ (ne_of_cells g4 g1 (by simp))).trans g4
    have g12 : h7 sgn = some (.inl (0, 60, .inl (f))) := (o10 _ (ne_of_cells g5 g1 (by simp))).trans g5
    have g9 : h7 r = some (.inr (2, [.int (0), .ref sgn, .int (0), .int (nI w)])) := g9
    refine qp_aload_nN dX3_read_15 rfl ?_
    refine qp_ifnonnullN dX3_read_16 ?_
    refine qp_iconst (v := -1) dX3_read_19 (by decide) ?_
    refine qp_aload_n dX3_read_20 rfl ?_
    refine qp_getf dX3_read_21 fX3_12 g11 rfl ?_
    refine qv_Ip dX3_read_24 mX3_43 (c_place G (c := 0) g9) g9 rfl rfl rfl rfl rfl rfl rfl ?_
    refine qp_isub dX3_read_27 ?_
    exact qr_i dX3_read_28 rfl rfl rfl ⟨n, ln, nn, nl, zn, zl, hnl, ⟨rfl, g9, fun b hb1 hb2 hb3 => ((o10 b hb1).trans (o1 b hb1 hb2 hb3))⟩⟩
  · have ev : v1 = some n := ev
    subst ev
    obtain ⟨g1, g2, g3, o1⟩ := hout
    have g16 : hA o0 = some (.inr (4, [.ref r, .ref k0, va_rf (lat), va_rf (tol)])) := (o1 _ (ne_of_cells go gr (by simp)) (ne_of_none go zn) (ne_of_none go zl)).trans go
    have g17 : hA sgn = some (.inl (0, 60, .inl (f))) := (o1 _ (ne_of_cells gs gr (by simp)) (ne_of_none gs zn) (ne_of_none gs zl)).trans gs
    have g1 : hA r = some (.inr (2, [.int (0), .ref sgn, .int (nI c), .int (nI q)])) := g1
    have g2 : hA n = some (.inr (1, [.int (y.cl), .int (y.cc), .long (y.cd), .int (y.cap), .int (y.cut), .int (y.cutn), .int (y.year), .int (y.vol), .int (y.voll), .long (y.mark), .int (y.markn), .ref ln, .int (y.lc)])) := g2
    have g3 : hA ln = some (.inl (0, 6, .inl (g))) := g3
    refine qp_astore_n dX3_read_7 (by decide) ?_
    refine QP.locsE (L1 := [some (.ref o0), some (.ref n)]) rfl ?_
    refine qp_aload_n dX3_read_8 rfl ?_
    refine qp_getf dX3_read_9 fX3_12 g16 rfl ?_
    refine qv_V dX3_read_12 mX3_40 (c_forget G nr g1) g1 rfl rfl rfl rfl rfl rfl rfl (fun h19 p20 => ?_)
    obtain ⟨g21, o22⟩ := p20
    have g23 : h19 o0 = some (.inr (4, [.ref r, .ref k0, va_rf (lat), va_rf (tol)])) := (o22 _ (ne_of_cells g16 g1 (by simp))).trans g16
    have g24 : h19 sgn = some (.inl (0, 60, .inl (f))) := (o22 _ (ne_of_cells g17 g1 (by simp))).trans g17
    have g25 : h19 n = some (.inr (1, [.int (y.cl), .int (y.cc), .long (y.cd), .int (y.cap), .int (y.cut), .int (y.cutn), .int (y.year), .int (y.vol), .int (y.voll), .long (y.mark), .int (y.markn), .ref ln, .int (y.lc)])) := (o22 _ (ne_of_cells g2 g1 (by simp))).trans g2
    have g26 : h19 ln = some (.inl (0, 6, .inl (g))) := (o22 _ (ne_of_cells g3 g1 (by simp))).trans g3
    have g21 : h19 r = some (.inr (2, [.int (0), .ref sgn, .int (0), .int (nI q)])) := g21
    refine qp_aload_n dX3_read_15 rfl ?_
    refine qp_ifnonnull 29 dX3_read_16 (by decide) ?_
    refine qp_aload_n dX3_read_29 rfl ?_
    refine qp_aload_n dX3_read_30 rfl ?_
    refine qk_put dX3_read_31 fX3_25 g23 no rfl rfl rfl rfl rfl (fun h27 g28 o29 => ?_)
    have g30 : h27 sgn = some (.inl (0, 60, .inl (f))) := (o29 _ (ne_of_cells g24 g23 (by simp))).trans g24
    have g31 : h27 n = some (.inr (1, [.int (y.cl), .int (y.cc), .long (y.cd), .int (y.cap), .int (y.cut), .int (y.cutn), .int (y.year), .int (y.vol), .int (y.voll), .long (y.mark), .int (y.markn), .ref ln, .int (y.lc)])) := (o29 _ (ne_of_cells g25 g23 (by simp))).trans g25
    have g32 : h27 ln = some (.inl (0, 6, .inl (g))) := (o29 _ (ne_of_cells g26 g23 (by simp))).trans g26
    have g33 : h27 r = some (.inr (2, [.int (0), .ref sgn, .int (0), .int (nI q)])) := (o29 _ (ne_of_cells g21 g23 (by simp))).trans g21
    have g28 : h27 o0 = some (.inr (4, [.ref r, .ref k0, .ref n, va_rf (tol)])) := g28
    refine qp_aload_n dX3_read_34 rfl ?_
    refine qv_Ip dX3_read_35 mX3_47 (c_partCount G g31) g31 rfl rfl rfl rfl rfl rfl rfl ?_
    exact qr_i dX3_read_38 rfl rfl rfl ⟨n, ln, nn, nl, zn, zl, hnl, ⟨rfl, g33, g28, g31, g32, fun b hb0 hb1 hb2 hb3 => (((o29 b hb0).trans (o22 b hb1)).trans (o1 b hb1 hb2 hb3))⟩⟩
set_option maxHeartbeats 4000000 in
set_option maxRecDepth 100000 in
theorem c_readL (G : qG) {h : qH} {o0 r sgn k0 c : Nat} {lat tol : Option Nat} {pp : Int32} {f : Nat → Int32} (no : G.2.1 ≤ o0) (nr : G.2.1 ≤ r) (hc : c ≤ 60) (go : h o0 = some (csCell r k0 lat tol)) (gr : h r = some (rdCell 1 sgn (nI c) pp)) (gs : h sgn = some (sgCell f)) : qMet G M_X3_read [.ref o0] h (qI (fun v h1 => ∃ n ln : Nat, G.2.1 ≤ n ∧ G.2.1 ≤ ln ∧ h n = none ∧ h ln = none ∧ n ≠ ln ∧ RdRes h h1 1 o0 r sgn k0 n ln tol v (sAllL (Sg c f) c))) := by
  refine qMet.of (by decide) (Nat.le_of_ble_eq_true rfl) rfl ?_
  refine QP.locsE (L1 := [some (.ref o0), none]) rfl ?_
  refine qp_aload_n dX3_read_0 rfl ?_
  refine qp_getf dX3_read_1 fX3_12 go rfl ?_
  refine qv_A dX3_read_4 mX3_36 (c_readCollectedL G nr hc gr gs) gr rfl rfl rfl rfl rfl rfl rfl (fun v1 hA hq => ?_)
  obtain ⟨n, ln, nn, nl, zn, zl, hnl, ev, hout⟩ := hq
  rcases hO : sAllL (Sg c f) c with w | ⟨q, y, g⟩ <;> rw [hO] at ev hout
  · have ev : v1 = none := ev
    subst ev
    obtain ⟨g1, o1⟩ := hout
    have g4 : hA o0 = some (.inr (4, [.ref r, .ref k0, va_rf (lat), va_rf (tol)])) := (o1 _ (ne_of_cells go gr (by simp)) (ne_of_none go zn) (ne_of_none go zl)).trans go
    have g5 : hA sgn = some (.inl (0, 60, .inl (f))) := (o1 _ (ne_of_cells gs gr (by simp)) (ne_of_none gs zn) (ne_of_none gs zl)).trans gs
    have g1 : hA r = some (.inr (2, [.int (1), .ref sgn, .int (nI c), .int (nI w)])) := g1
    refine qp_astore_nN dX3_read_7 (by decide) ?_
    refine QP.locsE (L1 := [some (.ref o0), some (.null)]) rfl ?_
    refine qp_aload_n dX3_read_8 rfl ?_
    refine qp_getf dX3_read_9 fX3_12 g4 rfl ?_
    refine qv_V dX3_read_12 mX3_40 (c_forget G nr g1) g1 rfl rfl rfl rfl rfl rfl rfl (fun h7 p8 => ?_)
    obtain ⟨g9, o10⟩ := p8
    have g11 : h7 o0 = some (.inr (4, [.ref r, .ref k0, va_rf (lat), va_rf (tol)])) := (o10 _ (ne_of_cells g4 g1 (by simp))).trans g4
    have g12 : h7 sgn = some (.inl (0, 60, .inl (f))) := (o10 _ (ne_of_cells g5 g1 (by simp))).trans g5
    have g9 : h7 r = some (.inr (2, [.int (1), .ref sgn, .int (0), .int (nI w)])) := g9
    refine qp_aload_nN dX3_read_15 rfl ?_
    refine qp_ifnonnullN dX3_read_16 ?_
    refine qp_iconst (v := -1) dX3_read_19 (by decide) ?_
    refine qp_aload_n dX3_read_20 rfl ?_
    refine qp_getf dX3_read_21 fX3_12 g11 rfl ?_
    refine qv_Ip dX3_read_24 mX3_43 (c_place G (c := 0) g9) g9 rfl rfl rfl rfl rfl rfl rfl ?_
    refine qp_isub dX3_read_27 ?_
    exact qr_i dX3_read_28 rfl rfl rfl ⟨n, ln, nn, nl, zn, zl, hnl, ⟨rfl, g9, fun b hb1 hb2 hb3 => ((o10 b hb1).trans (o1 b hb1 hb2 hb3))⟩⟩
  · have ev : v1 = some n := ev
    subst ev
    obtain ⟨g1, g2, g3, o1⟩ := hout
    have g16 : hA o0 = some (.inr (4, [.ref r, .ref k0, va_rf (lat), va_rf (tol)])) := (o1 _ (ne_of_cells go gr (by simp)) (ne_of_none go zn) (ne_of_none go zl)).trans go
    have g17 : hA sgn = some (.inl (0, 60, .inl (f))) := (o1 _ (ne_of_cells gs gr (by simp)) (ne_of_none gs zn) (ne_of_none gs zl)).trans gs
    have g1 : hA r = some (.inr (2, [.int (1), .ref sgn, .int (nI c), .int (nI q)])) := g1
    have g2 : hA n = some (.inr (1, [.int (y.cl), .int (y.cc), .long (y.cd), .int (y.cap), .int (y.cut), .int (y.cutn), .int (y.year), .int (y.vol), .int (y.voll), .long (y.mark), .int (y.markn), .ref ln, .int (y.lc)])) := g2
    have g3 : hA ln = some (.inl (0, 6, .inl (g))) := g3
    refine qp_astore_n dX3_read_7 (by decide) ?_
    refine QP.locsE (L1 := [some (.ref o0), some (.ref n)]) rfl ?_
    refine qp_aload_n dX3_read_8 rfl ?_
    refine qp_getf dX3_read_9 fX3_12 g16 rfl ?_
    refine qv_V dX3_read_12 mX3_40 (c_forget G nr g1) g1 rfl rfl rfl rfl rfl rfl rfl (fun h19 p20 => ?_)
    obtain ⟨g21, o22⟩ := p20
    have g23 : h19 o0 = some (.inr (4, [.ref r, .ref k0, va_rf (lat), va_rf (tol)])) := (o22 _ (ne_of_cells g16 g1 (by simp))).trans g16
    have g24 : h19 sgn = some (.inl (0, 60, .inl (f))) := (o22 _ (ne_of_cells g17 g1 (by simp))).trans g17
    have g25 : h19 n = some (.inr (1, [.int (y.cl), .int (y.cc), .long (y.cd), .int (y.cap), .int (y.cut), .int (y.cutn), .int (y.year), .int (y.vol), .int (y.voll), .long (y.mark), .int (y.markn), .ref ln, .int (y.lc)])) := (o22 _ (ne_of_cells g2 g1 (by simp))).trans g2
    have g26 : h19 ln = some (.inl (0, 6, .inl (g))) := (o22 _ (ne_of_cells g3 g1 (by simp))).trans g3
    have g21 : h19 r = some (.inr (2, [.int (1), .ref sgn, .int (0), .int (nI q)])) := g21
    refine qp_aload_n dX3_read_15 rfl ?_
    refine qp_ifnonnull 29 dX3_read_16 (by decide) ?_
    refine qp_aload_n dX3_read_29 rfl ?_
    refine qp_aload_n dX3_read_30 rfl ?_
    refine qk_put dX3_read_31 fX3_25 g23 no rfl rfl rfl rfl rfl (fun h27 g28 o29 => ?_)
    have g30 : h27 sgn = some (.inl (0, 60, .inl (f))) := (o29 _ (ne_of_cells g24 g23 (by simp))).trans g24
    have g31 : h27 n = some (.inr (1, [.int (y.cl), .int (y.cc), .long (y.cd), .int (y.cap), .int (y.cut), .int (y.cutn), .int (y.year), .int (y.vol), .int (y.voll), .long (y.mark), .int (y.markn), .ref ln, .int (y.lc)])) := (o29 _ (ne_of_cells g25 g23 (by simp))).trans g25
    have g32 : h27 ln = some (.inl (0, 6, .inl (g))) := (o29 _ (ne_of_cells g26 g23 (by simp))).trans g26
    have g33 : h27 r = some (.inr (2, [.int (1), .ref sgn, .int (0), .int (nI q)])) := (o29 _ (ne_of_cells g21 g23 (by simp))).trans g21
    have g28 : h27 o0 = some (.inr (4, [.ref r, .ref k0, .ref n, va_rf (tol)])) := g28
    refine qp_aload_n dX3_read_34 rfl ?_
    refine qv_Ip dX3_read_35 mX3_47 (c_partCount G g31) g31 rfl rfl rfl rfl rfl rfl rfl ?_
    exact qr_i dX3_read_38 rfl rfl rfl ⟨n, ln, nn, nl, zn, zl, hnl, ⟨rfl, g33, g28, g31, g32, fun b hb0 hb1 hb2 hb3 => (((o29 b hb0).trans (o22 b hb1)).trans (o1 b hb1 hb2 hb3))⟩⟩
theorem sHas_m1 (c : Nat) : sHas c (-1) = false := by
  simp only [sHas, decide_eq_false_iff_not]
  have : (-1 : Int32).toInt = -1 := by decide
  omega
set_option maxHeartbeats 4000000 in
set_option maxRecDepth 100000 in
theorem c_passNot (G : qG) {h : qH} {o0 r k0 nb rc c : Nat} {lat tol : Option Nat} {N : Nat → Option Nat} {R : Nat → Int32} (rec : Int32) (hfw : sFirst R rec c 0 = -1) (go : h o0 = some (csCell r k0 lat tol)) (hc : c ≤ 60) (gk : h k0 = some (shCell nb rc (nI c))) (gn : h nb = some (nbCell N)) (gr : h rc = some (rcCell R)) : qMet G M_X3_pass [.ref o0, .int rec] h (qI (fun v h1 => h1 = h ∧ v = -1)) := by
  refine qMet.of (by decide) (Nat.le_of_ble_eq_true rfl) rfl ?_
  refine QP.locsE (L1 := [some (.ref o0), some (.int (rec)), none, none]) rfl ?_
  refine qp_aload_n dX3_pass_0 rfl ?_
  refine qp_getf dX3_pass_1 fX3_21 go rfl ?_
  refine qp_aload_n dX3_pass_4 rfl ?_
  refine qp_getf dX3_pass_5 fX3_21 go rfl ?_
  refine qp_iload_n dX3_pass_8 rfl ?_
  refine qv_Ip dX3_pass_9 mX3_116 (c_firstWith G (rec) hc gk gr) gk rfl rfl rfl rfl rfl rfl rfl ?_
  refine QP.topI (y := -1) hfw ?_
  refine qv_Ap dX3_pass_12 mX3_98 (c_numberAt G (-1) hc gk gn) gk rfl rfl rfl rfl rfl rfl rfl ?_
  refine QP.topO (y := none) (sNumAt_none (sHas_m1 c)) ?_
  refine qp_astore_nN dX3_pass_15 (by decide) ?_
  refine QP.locsE (L1 := [some (.ref o0), some (.int (rec)), some (.null), none]) rfl ?_
  refine qp_aload_nN dX3_pass_16 rfl ?_
  refine qp_ifnonnullN dX3_pass_17 ?_
  refine qp_iconst (v := -1) dX3_pass_20 (by decide) ?_
  exact qr_i dX3_pass_21 rfl rfl rfl ⟨rfl, rfl⟩
set_option maxHeartbeats 4000000 in
set_option maxRecDepth 100000 in
theorem c_pass0 (G : qG) {h : qH} {o0 r k0 nb rc a ln c : Nat} {lat : Option Nat} {N : Nat → Option Nat} {R : Nat → Int32} {y : CNv} (rec : Int32) (j : Nat) (no : G.2.1 ≤ o0) (hfw : sFirst R rec c 0 = nI j) (hj : j < c) (hN : N j = some a) (ga : h a = some (cnCell y ln)) (go : h o0 = some (csCell r k0 lat none)) (hc : c ≤ 60) (gk : h k0 = some (shCell nb rc (nI c))) (gn : h nb = some (nbCell N)) (gr : h rc = some (rcCell R)) : qMet G M_X3_pass [.ref o0, .int rec] h (qI (fun v h1 => v = 1 ∧ h1 o0 = some (csCell r k0 lat (some a)) ∧ ∀ b : Nat, b ≠ o0 → h1 b = h b)) := by
  refine qMet.of (by decide) (Nat.le_of_ble_eq_true rfl) rfl ?_
  refine QP.locsE (L1 := [some (.ref o0), some (.int (rec)), none, none]) rfl ?_
  refine qp_aload_n dX3_pass_0 rfl ?_
  refine qp_getf dX3_pass_1 fX3_21 go rfl ?_
  refine qp_aload_n dX3_pass_4 rfl ?_
  refine qp_getf dX3_pass_5 fX3_21 go rfl ?_
  refine qp_iload_n dX3_pass_8 rfl ?_
  refine qv_Ip dX3_pass_9 mX3_116 (c_firstWith G (rec) hc gk gr) gk rfl rfl rfl rfl rfl rfl rfl ?_
  refine QP.topI (y := nI j) hfw ?_
  refine qv_Ap dX3_pass_12 mX3_98 (c_numberAtN G j hj hN hc gk gn) gk rfl rfl rfl rfl rfl rfl rfl ?_
  refine qp_astore_n dX3_pass_15 (by decide) ?_
  refine QP.locsE (L1 := [some (.ref o0), some (.int (rec)), some (.ref a), none]) rfl ?_
  refine qp_aload_n dX3_pass_16 rfl ?_
  refine qp_ifnonnull 22 dX3_pass_17 (by decide) ?_
  refine qp_aload_n dX3_pass_22 rfl ?_
  refine qp_getf dX3_pass_23 fX3_29 go rfl ?_
  refine qp_ifnullN 40 dX3_pass_26 (by decide) ?_
  refine qp_iconst (v := 1) dX3_pass_40 (by decide) ?_
  refine qp_goto 45 dX3_pass_41 (by decide) ?_
  refine qp_istore_n dX3_pass_45 (by decide) ?_
  refine QP.locsE (L1 := [some (.ref o0), some (.int (rec)), some (.ref a), some (.int (1))]) rfl ?_
  refine qp_aload_n dX3_pass_46 rfl ?_
  refine qp_aload_n dX3_pass_47 rfl ?_
  refine qk_put dX3_pass_48 fX3_29 go no rfl rfl rfl rfl rfl (fun h7 g8 o9 => ?_)
  have g10 : h7 k0 = some (.inr (3, [.ref nb, .ref rc, .int (nI c)])) := (o9 _ (ne_of_cells gk go (by simp))).trans gk
  have g11 : h7 nb = some (.inl (3, 60, .inr (.inr (.inr (.inr (N)))))) := (o9 _ (ne_of_cells gn go (by simp))).trans gn
  have g12 : h7 rc = some (.inl (0, 60, .inl (R))) := (o9 _ (ne_of_cells gr go (by simp))).trans gr
  have g13 : h7 a = some (.inr (1, [.int (y.cl), .int (y.cc), .long (y.cd), .int (y.cap), .int (y.cut), .int (y.cutn), .int (y.year), .int (y.vol), .int (y.voll), .long (y.mark), .int (y.markn), .ref ln, .int (y.lc)])) := (o9 _ (ne_of_cells ga go (by simp))).trans ga
  have g8 : h7 o0 = some (.inr (4, [.ref r, .ref k0, va_rf (lat), .ref a])) := g8
  refine qp_iload_n dX3_pass_51 rfl ?_
  refine qp_if_eq 59 dX3_pass_52 (by decide) (fun c_52 => absurd c_52 (by decide)) (fun c_52 => ?_)
  refine qp_iconst (v := 1) dX3_pass_55 (by decide) ?_
  refine qp_goto 60 dX3_pass_56 (by decide) ?_
  exact qr_i dX3_pass_60 rfl rfl rfl ⟨rfl, g8, fun b hb => (o9 b hb)⟩
set_option maxHeartbeats 4000000 in
set_option maxRecDepth 100000 in
theorem c_pass1 (G : qG) {h : qH} {o0 r k0 nb rc a b2 ln ln2 c : Nat} {lat : Option Nat} {N : Nat → Option Nat} {R : Nat → Int32} {y z : CNv} (rec : Int32) (j : Nat) (no : G.2.1 ≤ o0) (hfw : sFirst R rec c 0 = nI j) (hj : j < c) (hN : N j = some a) (ga : h a = some (cnCell y ln)) (gb : h b2 = some (cnCell z ln2)) (go : h o0 = some (csCell r k0 lat (some b2))) (hc : c ≤ 60) (gk : h k0 = some (shCell nb rc (nI c))) (gn : h nb = some (nbCell N)) (gr : h rc = some (rcCell R)) : qMet G M_X3_pass [.ref o0, .int rec] h (qI (fun v h1 => v = (if 0 < sOrder z y then 0 else 1) ∧ h1 o0 = some (csCell r k0 lat (some a)) ∧ ∀ b : Nat, b ≠ o0 → h1 b = h b)) := by
  refine qMet.of (by decide) (Nat.le_of_ble_eq_true rfl) rfl ?_
  refine QP.locsE (L1 := [some (.ref o0), some (.int (rec)), none, none]) rfl ?_
  refine qp_aload_n dX3_pass_0 rfl ?_
  refine qp_getf dX3_pass_1 fX3_21 go rfl ?_
  refine qp_aload_n dX3_pass_4 rfl ?_
  refine qp_getf dX3_pass_5 fX3_21 go rfl ?_
  refine qp_iload_n dX3_pass_8 rfl ?_
  refine qv_Ip dX3_pass_9 mX3_116 (c_firstWith G (rec) hc gk gr) gk rfl rfl rfl rfl rfl rfl rfl ?_
  refine QP.topI (y := nI j) hfw ?_
  refine qv_Ap dX3_pass_12 mX3_98 (c_numberAtN G j hj hN hc gk gn) gk rfl rfl rfl rfl rfl rfl rfl ?_
  refine qp_astore_n dX3_pass_15 (by decide) ?_
  refine QP.locsE (L1 := [some (.ref o0), some (.int (rec)), some (.ref a), none]) rfl ?_
  refine qp_aload_n dX3_pass_16 rfl ?_
  refine qp_ifnonnull 22 dX3_pass_17 (by decide) ?_
  refine qp_aload_n dX3_pass_22 rfl ?_
  refine qp_getf dX3_pass_23 fX3_29 go rfl ?_
  refine qp_ifnull dX3_pass_26 ?_
  refine qp_aload_n dX3_pass_29 rfl ?_
  refine qp_getf dX3_pass_30 fX3_29 go rfl ?_
  refine qp_aload_n dX3_pass_33 rfl ?_
  refine qs_Ip dX3_pass_34 mX3_102 (c_order G gb ga) rfl rfl rfl rfl rfl rfl ?_
  refine qp_if_gt 44 dX3_pass_37 (by decide) (fun c_37 => ?_) (fun c_37 => ?_)
  · refine qp_iconst (v := 0) dX3_pass_44 (by decide) ?_
    refine qp_istore_n dX3_pass_45 (by decide) ?_
    refine QP.locsE (L1 := [some (.ref o0), some (.int (rec)), some (.ref a), some (.int (0))]) rfl ?_
    refine qp_aload_n dX3_pass_46 rfl ?_
    refine qp_aload_n dX3_pass_47 rfl ?_
    refine qk_put dX3_pass_48 fX3_29 go no rfl rfl rfl rfl rfl (fun h10 g11 o12 => ?_)
    have g13 : h10 k0 = some (.inr (3, [.ref nb, .ref rc, .int (nI c)])) := (o12 _ (ne_of_cells gk go (by simp))).trans gk
    have g14 : h10 nb = some (.inl (3, 60, .inr (.inr (.inr (.inr (N)))))) := (o12 _ (ne_of_cells gn go (by simp))).trans gn
    have g15 : h10 rc = some (.inl (0, 60, .inl (R))) := (o12 _ (ne_of_cells gr go (by simp))).trans gr
    have g16 : h10 a = some (.inr (1, [.int (y.cl), .int (y.cc), .long (y.cd), .int (y.cap), .int (y.cut), .int (y.cutn), .int (y.year), .int (y.vol), .int (y.voll), .long (y.mark), .int (y.markn), .ref ln, .int (y.lc)])) := (o12 _ (ne_of_cells ga go (by simp))).trans ga
    have g17 : h10 b2 = some (.inr (1, [.int (z.cl), .int (z.cc), .long (z.cd), .int (z.cap), .int (z.cut), .int (z.cutn), .int (z.year), .int (z.vol), .int (z.voll), .long (z.mark), .int (z.markn), .ref ln2, .int (z.lc)])) := (o12 _ (ne_of_cells gb go (by simp))).trans gb
    have g11 : h10 o0 = some (.inr (4, [.ref r, .ref k0, va_rf (lat), .ref a])) := g11
    refine qp_iload_n dX3_pass_51 rfl ?_
    refine qp_if_eq 59 dX3_pass_52 (by decide) (fun c_52 => ?_) (fun c_52 => absurd rfl c_52)
    refine qp_iconst (v := 0) dX3_pass_59 (by decide) ?_
    exact qr_i dX3_pass_60 rfl rfl rfl ⟨by rw [if_pos c_37], g11, fun b hb => (o12 b hb)⟩
  · refine qp_iconst (v := 1) dX3_pass_40 (by decide) ?_
    refine qp_goto 45 dX3_pass_41 (by decide) ?_
    refine qp_istore_n dX3_pass_45 (by decide) ?_
    refine QP.locsE (L1 := [some (.ref o0), some (.int (rec)), some (.ref a), some (.int (1))]) rfl ?_
    refine qp_aload_n dX3_pass_46 rfl ?_
    refine qp_aload_n dX3_pass_47 rfl ?_
    refine qk_put dX3_pass_48 fX3_29 go no rfl rfl rfl rfl rfl (fun h18 g19 o20 => ?_)
    have g21 : h18 k0 = some (.inr (3, [.ref nb, .ref rc, .int (nI c)])) := (o20 _ (ne_of_cells gk go (by simp))).trans gk
    have g22 : h18 nb = some (.inl (3, 60, .inr (.inr (.inr (.inr (N)))))) := (o20 _ (ne_of_cells gn go (by simp))).trans gn
    have g23 : h18 rc = some (.inl (0, 60, .inl (R))) := (o20 _ (ne_of_cells gr go (by simp))).trans gr
    have g24 : h18 a = some (.inr (1, [.int (y.cl), .int (y.cc), .long (y.cd), .int (y.cap), .int (y.cut), .int (y.cutn), .int (y.year), .int (y.vol), .int (y.voll), .long (y.mark), .int (y.markn), .ref ln, .int (y.lc)])) := (o20 _ (ne_of_cells ga go (by simp))).trans ga
    have g25 : h18 b2 = some (.inr (1, [.int (z.cl), .int (z.cc), .long (z.cd), .int (z.cap), .int (z.cut), .int (z.cutn), .int (z.year), .int (z.vol), .int (z.voll), .long (z.mark), .int (z.markn), .ref ln2, .int (z.lc)])) := (o20 _ (ne_of_cells gb go (by simp))).trans gb
    have g19 : h18 o0 = some (.inr (4, [.ref r, .ref k0, va_rf (lat), .ref a])) := g19
    refine qp_iload_n dX3_pass_51 rfl ?_
    refine qp_if_eq 59 dX3_pass_52 (by decide) (fun c_52 => absurd c_52 (by decide)) (fun c_52 => ?_)
    refine qp_iconst (v := 1) dX3_pass_55 (by decide) ?_
    refine qp_goto 60 dX3_pass_56 (by decide) ?_
    exact qr_i dX3_pass_60 rfl rfl rfl ⟨by rw [if_neg c_37], g19, fun b hb => (o20 b hb)⟩
/-- the first free tail from tl on, so many at most -/
def sTail (T : Nat → Bool) (start fill : Nat) : Nat → Nat → Int32
  | 0, _ => 0
  | t + 1, tl => if nzf 6 tl = true ∧ T ((start + tl) * fill) = false then nI (start + tl) else sTail T start fill t (tl + 1)
/-- whether one with the class and capital of y has this cutter -/
def sTaken (X : Nat → CNv) (y : CNv) (c : Nat) (v : Nat) : Bool := sAny (sCutAt X y (nI v)) c 0
def sFreeM (X : Nat → CNv) (y : CNv) (c wr n more : Nat) : Int32 := sTail (sTaken X y c) (wr * 10 ^ more) (10 ^ (6 - (n + more))) (10 ^ more - 10 ^ more / 10) (10 ^ more / 10)
theorem l2i_pow {e : Nat} : (lN (10 ^ e)).toInt32 = nI (10 ^ e) := lN_i _
theorem pow_le6 {e : Nat} (h : e ≤ 6) : 10 ^ e ≤ 1000000 := by
  have := Nat.pow_le_pow_right (n := 10) (by decide) h
  simpa using this
theorem pow_pos10 (e : Nat) : 0 < 10 ^ e := Nat.pow_pos (by decide)
set_option maxHeartbeats 4000000 in
set_option maxRecDepth 100000 in
theorem l_freeWithMore {G : qG} {h : qH} {o0 r k0 nb rc a ln c : Nat} {lat tol : Option Nat} {N : Nat → Option Nat} {X : Nat → CNv} {y : CNv} {m3 d3 res : Int32} {fill bey start : Nat} (hbey : bey ≤ 1000000) (go : h o0 = some (csCell r k0 lat tol)) (hc : c ≤ 60) (gk : h k0 = some (shCell nb rc (nI c))) (gn : h nb = some (nbCell N)) (hok : ShOk h c N X) (ga : h a = some (cnCell y ln)) : ∀ (t tl : Nat), bey < tl + t → tl ≤ bey → res = sTail (sTaken X y c) start fill (bey - tl) tl → QP G M_X3_freeWithMore qTr (qMZ G M_X3_freeWithMore (qI (fun v h1 => h1 = h ∧ v = res))) 40 [some (.ref o0), some (.ref a), some (.int m3), some (.int d3), some (.int (nI fill)), some (.int (nI bey)), some (.int (nI start)), some (.int (nI tl))] [] h 0 0 := by
  intro t
  induction t with
  | zero =>
    intro tl h1 h2
    omega
  | succ t ih =>
    intro tl h1 h2 hr
    refine qp_iload dX3_freeWithMore_40 rfl ?_
    refine qp_iload dX3_freeWithMore_42 rfl ?_
    refine qp_icmp_ge 86 dX3_freeWithMore_44 (by decide) (fun c_44 => ?_) (fun c_44 => ?_)
    · have hk : bey ≤ tl := (nI_leI (by omega) (by omega)).mp c_44
      refine qp_iconst (v := 0) dX3_freeWithMore_86 (by decide) ?_
      exact qr_i dX3_freeWithMore_87 rfl rfl rfl ⟨rfl, by rw [hr, show bey - tl = 0 by omega]; rfl⟩
    · have hk : tl < bey := Nat.not_le.mp fun q => c_44 ((nI_leI (by omega) (by omega)).mpr q)
      refine qp_iload dX3_freeWithMore_47 rfl ?_
      refine qs_Ip dX3_freeWithMore_49 mX3_126 (c_hasNoZero G (tl) (by omega)) rfl rfl rfl rfl rfl rfl ?_
      refine qp_if_eq 80 dX3_freeWithMore_52 (by decide) (fun c_52 => ?_) (fun c_52 => ?_)
      · rw [bI_0] at c_52
        refine qp_iinc (v := nI (tl + 1)) dX3_freeWithMore_80 rfl (by decide) (nI_1 tl) ?_
        refine QP.locsE (L1 := [some (.ref o0), some (.ref a), some (.int (m3)), some (.int (d3)), some (.int (nI fill)), some (.int (nI bey)), some (.int (nI start)), some (.int (nI (tl + 1)))]) rfl ?_
        refine qp_goto 40 dX3_freeWithMore_83 (by decide) ?_
        refine ih (tl + 1) (by omega) (by omega) ?_
        rw [hr, show bey - tl = (bey - (tl + 1)) + 1 by omega, sTail, if_neg (fun q => by rw [q.1] at c_52; exact absurd c_52 (by decide))]
      · rw [bI_n0] at c_52
        refine qp_aload_n dX3_freeWithMore_55 rfl ?_
        refine qp_getf dX3_freeWithMore_56 fX3_21 go rfl ?_
        refine qp_aload_n dX3_freeWithMore_59 rfl ?_
        refine qp_iload dX3_freeWithMore_60 rfl ?_
        refine qp_iload dX3_freeWithMore_62 rfl ?_
        refine qp_iadd dX3_freeWithMore_64 ?_
        refine QP.topI (y := nI (start + tl)) (nI_add start tl) ?_
        refine qp_iload dX3_freeWithMore_65 rfl ?_
        refine qp_imul dX3_freeWithMore_67 ?_
        refine QP.topI (y := nI ((start + tl) * fill)) (pk_mul _ _) ?_
        refine qv_Ip dX3_freeWithMore_68 mX3_130 (c_hasCutter G (nI ((start + tl) * fill)) hc gk gn hok ga) gk rfl rfl rfl rfl rfl rfl rfl ?_
        refine qp_if_ne 80 dX3_freeWithMore_71 (by decide) (fun c_71 => ?_) (fun c_71 => ?_)
        · rw [bI_n0] at c_71
          refine qp_iinc (v := nI (tl + 1)) dX3_freeWithMore_80 rfl (by decide) (nI_1 tl) ?_
          refine QP.locsE (L1 := [some (.ref o0), some (.ref a), some (.int (m3)), some (.int (d3)), some (.int (nI fill)), some (.int (nI bey)), some (.int (nI start)), some (.int (nI (tl + 1)))]) rfl ?_
          refine qp_goto 40 dX3_freeWithMore_83 (by decide) ?_
          refine ih (tl + 1) (by omega) (by omega) ?_
          rw [hr, show bey - tl = (bey - (tl + 1)) + 1 by omega, sTail, if_neg (fun q => absurd (c_71.symm.trans q.2) (by decide))]
        · rw [bI_0] at c_71
          refine qp_iload dX3_freeWithMore_74 rfl ?_
          refine qp_iload dX3_freeWithMore_76 rfl ?_
          refine qp_iadd dX3_freeWithMore_78 ?_
          refine QP.topI (y := nI (start + tl)) (nI_add start tl) ?_
          exact qr_i dX3_freeWithMore_79 rfl rfl rfl ⟨rfl, by rw [hr, show bey - tl = (bey - (tl + 1)) + 1 by omega, sTail, if_pos ⟨c_52, c_71⟩]⟩
set_option maxHeartbeats 4000000 in
set_option maxRecDepth 100000 in
theorem c_freeWithMore (G : qG) {h : qH} {o0 r k0 nb rc a ln c : Nat} {lat tol : Option Nat} {N : Nat → Option Nat} {X : Nat → CNv} {y : CNv} (cu n more : Nat) (hcut : y.cut = nI cu) (hcn : y.cutn = nI n) (hcu : cu < 1000000) (hnm : n + more ≤ 6) (go : h o0 = some (csCell r k0 lat tol)) (hc : c ≤ 60) (gk : h k0 = some (shCell nb rc (nI c))) (gn : h nb = some (nbCell N)) (hok : ShOk h c N X) (ga : h a = some (cnCell y ln)) : qMet G M_X3_freeWithMore [.ref o0, .ref a, .int (nI more)] h (qI (fun v h1 => h1 = h ∧ v = sFreeM X y c (cu / 10 ^ (6 - n)) n more)) := by
  refine qMet.of (by decide) (Nat.le_of_ble_eq_true rfl) rfl ?_
  refine QP.locsE (L1 := [some (.ref o0), some (.ref a), some (.int (nI more)), none, none, none, none, none]) rfl ?_
  refine qp_aload_n dX3_freeWithMore_0 rfl ?_
  refine qp_getf dX3_freeWithMore_1 fX3_106 ga rfl ?_
  refine qp_iload_n dX3_freeWithMore_4 rfl ?_
  refine qp_iadd dX3_freeWithMore_5 ?_
  refine QP.topI (y := nI (n + more)) (show y.cutn + nI more = nI (n + more) by rw [hcn]; exact nI_add n more) ?_
  refine qp_istore_n dX3_freeWithMore_6 (by decide) ?_
  refine QP.locsE (L1 := [some (.ref o0), some (.ref a), some (.int (nI more)), some (.int (nI (n + more))), none, none, none, none]) rfl ?_
  refine qp_bipush (v := 6) dX3_freeWithMore_7 (by decide) ?_
  refine qp_iload_n dX3_freeWithMore_9 rfl ?_
  refine qp_isub dX3_freeWithMore_10 ?_
  refine QP.topI (y := nI (6 - (n + more))) (pk_sub (a := 6) (by omega)) ?_
  refine qs_Jp dX3_freeWithMore_11 mX3_119 (c_powerOfTen G (6 - (n + more)) (by omega)) rfl rfl rfl rfl rfl rfl ?_
  refine qp_l2i dX3_freeWithMore_14 ?_
  refine QP.topI (y := nI (10 ^ (6 - (n + more)))) l2i_pow ?_
  refine qp_istore dX3_freeWithMore_15 (by decide) ?_
  refine QP.locsE (L1 := [some (.ref o0), some (.ref a), some (.int (nI more)), some (.int (nI (n + more))), some (.int (nI (10 ^ (6 - (n + more))))), none, none, none]) rfl ?_
  refine qp_iload_n dX3_freeWithMore_17 rfl ?_
  refine qs_Jp dX3_freeWithMore_18 mX3_119 (c_powerOfTen G (more) (by omega)) rfl rfl rfl rfl rfl rfl ?_
  refine qp_l2i dX3_freeWithMore_21 ?_
  refine QP.topI (y := nI (10 ^ more)) l2i_pow ?_
  refine qp_istore dX3_freeWithMore_22 (by decide) ?_
  refine QP.locsE (L1 := [some (.ref o0), some (.ref a), some (.int (nI more)), some (.int (nI (n + more))), some (.int (nI (10 ^ (6 - (n + more))))), some (.int (nI (10 ^ more))), none, none]) rfl ?_
  refine qp_aload_n dX3_freeWithMore_24 rfl ?_
  refine qv_Ip dX3_freeWithMore_25 mX3_123 (c_cutterAsWritten G hcut hcn (by omega) (by omega) ga) ga rfl rfl rfl rfl rfl rfl rfl ?_
  refine qp_iload dX3_freeWithMore_28 rfl ?_
  refine qp_imul dX3_freeWithMore_30 ?_
  refine QP.topI (y := nI (cu / 10 ^ (6 - n) * 10 ^ more)) (pk_mul _ _) ?_
  refine qp_istore dX3_freeWithMore_31 (by decide) ?_
  refine QP.locsE (L1 := [some (.ref o0), some (.ref a), some (.int (nI more)), some (.int (nI (n + more))), some (.int (nI (10 ^ (6 - (n + more))))), some (.int (nI (10 ^ more))), some (.int (nI (cu / 10 ^ (6 - n) * 10 ^ more))), none]) rfl ?_
  refine qp_iload dX3_freeWithMore_33 rfl ?_
  refine qp_bipush (v := 10) dX3_freeWithMore_35 (by decide) ?_
  refine qp_idiv dX3_freeWithMore_37 (by decide) ?_
  refine QP.topI (y := nI (10 ^ more / 10)) (pk_div (by have := pow_le6 (e := more) (by omega); omega) (by decide) (by decide)) ?_
  refine qp_istore dX3_freeWithMore_38 (by decide) ?_
  refine QP.locsE (L1 := [some (.ref o0), some (.ref a), some (.int (nI more)), some (.int (nI (n + more))), some (.int (nI (10 ^ (6 - (n + more))))), some (.int (nI (10 ^ more))), some (.int (nI (cu / 10 ^ (6 - n) * 10 ^ more))), some (.int (nI (10 ^ more / 10)))]) rfl ?_
  have hb := pow_le6 (e := more) (by omega)
  exact l_freeWithMore hb go hc gk gn hok ga (10 ^ more + 1) (10 ^ more / 10) (Nat.lt_of_lt_of_le (Nat.lt_succ_self _) (Nat.le_add_left _ _)) (Nat.div_le_self _ _) rfl
def sFreeFrom (F : Nat → Int32) : Nat → Nat → Int32
  | 0, _ => 0
  | t + 1, m => if F m = 0 then sFreeFrom F t (m + 1) else F m
set_option maxHeartbeats 4000000 in
set_option maxRecDepth 100000 in
theorem c_freeN (G : qG) {h : qH} {o0 r k0 : Nat} {tol : Option Nat} (go : h o0 = some (csCell r k0 none tol)) : qMet G M_X3_free [.ref o0] h (qI (fun v h1 => h1 = h ∧ v = 0)) := by
  refine qMet.of (by decide) (Nat.le_of_ble_eq_true rfl) rfl ?_
  refine QP.locsE (L1 := [some (.ref o0), none, none]) rfl ?_
  refine qp_aload_n dX3_free_0 rfl ?_
  refine qp_getf dX3_free_1 fX3_25 go rfl ?_
  refine qp_ifnonnullN dX3_free_4 ?_
  refine qp_iconst (v := 0) dX3_free_7 (by decide) ?_
  exact qr_i dX3_free_8 rfl rfl rfl ⟨rfl, rfl⟩
set_option maxHeartbeats 4000000 in
set_option maxRecDepth 100000 in
theorem l_free {G : qG} {h : qH} {o0 r k0 nb rc a ln c : Nat} {tol : Option Nat} {N : Nat → Option Nat} {X : Nat → CNv} {y : CNv} {cu n : Nat} {res : Int32} (hcut : y.cut = nI cu) (hcn : y.cutn = nI n) (hcu : cu < 1000000) (hn6 : n ≤ 6) (go : h o0 = some (csCell r k0 (some a) tol)) (hc : c ≤ 60) (gk : h k0 = some (shCell nb rc (nI c))) (gn : h nb = some (nbCell N)) (hok : ShOk h c N X) (ga : h a = some (cnCell y ln)) : ∀ (t more : Nat), 7 - n < more + t → more ≤ 7 - n → res = sFreeFrom (sFreeM X y c (cu / 10 ^ (6 - n)) n) (7 - n - more) more → QP G M_X3_free qTr (qMZ G M_X3_free (qI (fun v h1 => h1 = h ∧ v = res))) 11 [some (.ref o0), some (.int (nI more)), none] [] h 0 0 := by
  intro t
  induction t with
  | zero =>
    intro more h1 h2
    omega
  | succ t ih =>
    intro more h1 h2 hr
    refine qp_iload_n dX3_free_11 rfl ?_
    refine qp_bipush (v := 6) dX3_free_12 (by decide) ?_
    refine qp_aload_n dX3_free_14 rfl ?_
    refine qp_getf dX3_free_15 fX3_25 go rfl ?_
    refine qp_getf dX3_free_18 fX3_106 ga rfl ?_
    refine qp_isub dX3_free_21 ?_
    refine QP.topI (y := nI (6 - n)) (show (6 : Int32) - y.cutn = nI (6 - n) by rw [hcn]; exact pk_sub (a := 6) (by omega)) ?_
    refine qp_icmp_gt 47 dX3_free_22 (by decide) (fun c_22 => ?_) (fun c_22 => ?_)
    · have hk : 6 - n < more := (nI_ltI (by omega) (by omega)).mp c_22
      refine qp_iconst (v := 0) dX3_free_47 (by decide) ?_
      exact qr_i dX3_free_48 rfl rfl rfl ⟨rfl, by rw [hr, show 7 - n - more = 0 by omega]; rfl⟩
    · have hk : more ≤ 6 - n := Nat.not_lt.mp fun q => c_22 ((nI_ltI (by omega) (by omega)).mpr q)
      refine qp_aload_n dX3_free_25 rfl ?_
      refine qp_aload_n dX3_free_26 rfl ?_
      refine qp_getf dX3_free_27 fX3_25 go rfl ?_
      refine qp_iload_n dX3_free_30 rfl ?_
      refine qv_Ip dX3_free_31 mX3_109 (c_freeWithMore G cu n more hcut hcn hcu (by omega) go hc gk gn hok ga) go rfl rfl rfl rfl rfl rfl rfl ?_
      refine QP.nameI (fun V eV => ?_)
      refine qp_istore_n dX3_free_34 (by decide) ?_
      refine QP.locsE (L1 := [some (.ref o0), some (.int (nI more)), some (.int (V))]) rfl ?_
      refine qp_iload_n dX3_free_35 rfl ?_
      refine qp_if_eq 41 dX3_free_36 (by decide) (fun c_36 => ?_) (fun c_36 => ?_)
      · refine qp_iinc (v := nI (more + 1)) dX3_free_41 rfl (by decide) (nI_1 more) ?_
        refine QP.locsE (L1 := [some (.ref o0), some (.int (nI (more + 1))), some (.int (V))]) rfl ?_
        refine qp_goto 11 dX3_free_44 (by decide) ?_
        refine QP.forget 2 ?_
        refine ih (more + 1) (by omega) (by omega) ?_
        rw [hr, show 7 - n - more = (7 - n - (more + 1)) + 1 by omega, sFreeFrom, if_pos (by rw [← eV]; exact c_36)]
      · refine qp_iload_n dX3_free_39 rfl ?_
        exact qr_i dX3_free_40 rfl rfl rfl ⟨rfl, by rw [hr, show 7 - n - more = (7 - n - (more + 1)) + 1 by omega, sFreeFrom, if_neg (by rw [← eV]; exact c_36), ← eV]⟩
set_option maxHeartbeats 4000000 in
set_option maxRecDepth 100000 in
theorem c_free (G : qG) {h : qH} {o0 r k0 nb rc a ln c : Nat} {tol : Option Nat} {N : Nat → Option Nat} {X : Nat → CNv} {y : CNv} (cu n : Nat) (hcut : y.cut = nI cu) (hcn : y.cutn = nI n) (hcu : cu < 1000000) (hn6 : n ≤ 6) (go : h o0 = some (csCell r k0 (some a) tol)) (hc : c ≤ 60) (gk : h k0 = some (shCell nb rc (nI c))) (gn : h nb = some (nbCell N)) (hok : ShOk h c N X) (ga : h a = some (cnCell y ln)) : qMet G M_X3_free [.ref o0] h (qI (fun v h1 => h1 = h ∧ v = sFreeFrom (sFreeM X y c (cu / 10 ^ (6 - n)) n) (7 - n) 0)) := by
  refine qMet.of (by decide) (Nat.le_of_ble_eq_true rfl) rfl ?_
  refine QP.locsE (L1 := [some (.ref o0), none, none]) rfl ?_
  refine qp_aload_n dX3_free_0 rfl ?_
  refine qp_getf dX3_free_1 fX3_25 go rfl ?_
  refine qp_ifnonnull 9 dX3_free_4 (by decide) ?_
  refine qp_iconst (v := 0) dX3_free_9 (by decide) ?_
  refine qp_istore_n dX3_free_10 (by decide) ?_
  refine QP.locsE (L1 := [some (.ref o0), some (.int (0)), none]) rfl ?_
  exact l_free hcut hcn hcu hn6 go hc gk gn hok ga 8 0 (by omega) (by omega) rfl
set_option maxHeartbeats 4000000 in
set_option maxRecDepth 100000 in
theorem c_csInit0 (G : qG) {h : qH} {o0 : Nat} (sch : Int32) (hsch : sch < 1) (no : G.2.1 ≤ o0) (go : h o0 = some (.inr (4, [.null, .null, .null, .null]))) : qMet G M_X3_init [.ref o0, .int sch] h (qV (fun h1 => ∃ r sgn k0 nb rc : Nat, G.2.1 ≤ r ∧ G.2.1 ≤ sgn ∧ G.2.1 ≤ k0 ∧ G.2.1 ≤ nb ∧ G.2.1 ≤ rc ∧ h r = none ∧ h sgn = none ∧ h k0 = none ∧ h nb = none ∧ h rc = none ∧ sgn ≠ rc ∧ h1 o0 = some (csCell r k0 none none) ∧ h1 r = some (rdCell 0 sgn 0 0) ∧ h1 sgn = some (sgCell (fun _ => 0)) ∧ h1 k0 = some (shCell nb rc 0) ∧ h1 nb = some (nbCell (fun _ => none)) ∧ h1 rc = some (rcCell (fun _ => 0)) ∧ ∀ b : Nat, b ≠ o0 → b ≠ r → b ≠ sgn → b ≠ k0 → b ≠ nb → b ≠ rc → h1 b = h b)) := by
  refine qMet.of (by decide) (Nat.le_of_ble_eq_true rfl) rfl ?_
  refine QP.locsE (L1 := [some (.ref o0), some (.int (sch))]) rfl ?_
  refine qp_aload_n dX3_init_0 rfl ?_
  refine qp_objInit dX3_init_1 oiX3_1 oi_in oi_cd (Nat.le_of_ble_eq_true rfl) (Nat.le_of_ble_eq_true rfl) ?_
  refine qp_aload_n dX3_init_4 rfl ?_
  refine qk_new dX3_init_5 nX3_7 rfl rfl rfl (fun r h1 n4 z5 g2 o3 => ?_)
  have z6 : h r = none := z5
  have g7 : h1 o0 = some (.inr (4, [.null, .null, .null, .null])) := (o3 _ (ne_of_none go z5)).trans go
  have g2 : h1 r = some (.inr (2, [.int (0), .null, .int (0), .int (0)])) := g2
  refine qp_dup dX3_init_8 rfl ?_
  refine qp_iload_n dX3_init_9 rfl ?_
  refine qp_iconst (v := 1) dX3_init_10 (by decide) ?_
  refine qp_icmp_lt 18 dX3_init_11 (by decide) (fun c_11 => ?_) (fun c_11 => absurd hsch c_11)
  refine qp_iconst (v := 0) dX3_init_18 (by decide) ?_
  refine qi_V dX3_init_19 mX3_9 (c_rdInit G (false) n4 g2) rfl rfl rfl rfl rfl rfl (fun h9 p10 => ?_)
  obtain ⟨sgn, ns, zs, gr2, gs2, or2⟩ := p10
  have zs0 : h sgn = none := ((o3 sgn (Ne.symm (ne_of_none g2 zs)))).symm.trans zs
  have g11 : h9 o0 = some (.inr (4, [.null, .null, .null, .null])) := (or2 _ (ne_of_cells g7 g2 (by simp)) (ne_of_none g7 zs)).trans g7
  have gr2 : h9 r = some (.inr (2, [.int (0), .ref sgn, .int (0), .int (0)])) := gr2
  have gs2 : h9 sgn = some (.inl (0, 60, .inl (fun _ => 0))) := gs2
  refine qk_putF dX3_init_22 ffX3_12 g11 no rfl rfl rfl rfl rfl rfl rfl (fun h12 g13 o14 => ?_)
  have g15 : h12 r = some (.inr (2, [.int (0), .ref sgn, .int (0), .int (0)])) := (o14 _ (ne_of_cells gr2 g11 (by simp))).trans gr2
  have g16 : h12 sgn = some (.inl (0, 60, .inl (fun _ => 0))) := (o14 _ (ne_of_cells gs2 g11 (by simp))).trans gs2
  have g13 : h12 o0 = some (.inr (4, [.ref r, .null, .null, .null])) := g13
  refine qp_aload_n dX3_init_25 rfl ?_
  refine qk_new dX3_init_26 nX3_18 rfl rfl rfl (fun k0 h17 n20 z21 g18 o19 => ?_)
  have z22 : h k0 = none := ((((o14 k0 (Ne.symm (ne_of_none g13 z21))).trans (or2 k0 (Ne.symm (ne_of_none g15 z21)) (Ne.symm (ne_of_none g16 z21)))).trans (o3 k0 (Ne.symm (ne_of_none g15 z21))))).symm.trans z21
  have g23 : h17 r = some (.inr (2, [.int (0), .ref sgn, .int (0), .int (0)])) := (o19 _ (ne_of_none g15 z21)).trans g15
  have g24 : h17 sgn = some (.inl (0, 60, .inl (fun _ => 0))) := (o19 _ (ne_of_none g16 z21)).trans g16
  have g25 : h17 o0 = some (.inr (4, [.ref r, .null, .null, .null])) := (o19 _ (ne_of_none g13 z21)).trans g13
  have g18 : h17 k0 = some (.inr (3, [.null, .null, .int (0)])) := g18
  refine qp_dup dX3_init_29 rfl ?_
  refine qi_V dX3_init_30 mX3_20 (c_shInit G n20 g18) rfl rfl rfl rfl rfl rfl (fun h27 p28 => ?_)
  obtain ⟨nb, rc, nnb, nrc, hbr, zb, zc, gk2, gn2, gc2, os2⟩ := p28
  have zb0 : h nb = none := (((((o19 nb (Ne.symm (ne_of_none g18 zb))).trans (o14 nb (Ne.symm (ne_of_none g25 zb)))).trans (or2 nb (Ne.symm (ne_of_none g23 zb)) (Ne.symm (ne_of_none g24 zb)))).trans (o3 nb (Ne.symm (ne_of_none g23 zb))))).symm.trans zb
  have zc0 : h rc = none := (((((o19 rc (Ne.symm (ne_of_none g18 zc))).trans (o14 rc (Ne.symm (ne_of_none g25 zc)))).trans (or2 rc (Ne.symm (ne_of_none g23 zc)) (Ne.symm (ne_of_none g24 zc)))).trans (o3 rc (Ne.symm (ne_of_none g23 zc))))).symm.trans zc
  have hsr : sgn ≠ rc := ne_of_none g24 zc
  have g29 : h27 r = some (.inr (2, [.int (0), .ref sgn, .int (0), .int (0)])) := (os2 _ (ne_of_cells g23 g18 (by simp)) (ne_of_none g23 zb) (ne_of_none g23 zc)).trans g23
  have g30 : h27 sgn = some (.inl (0, 60, .inl (fun _ => 0))) := (os2 _ (ne_of_cells g24 g18 (by simp)) (ne_of_none g24 zb) (ne_of_none g24 zc)).trans g24
  have g31 : h27 o0 = some (.inr (4, [.ref r, .null, .null, .null])) := (os2 _ (ne_of_cells g25 g18 (by simp)) (ne_of_none g25 zb) (ne_of_none g25 zc)).trans g25
  have gk2 : h27 k0 = some (.inr (3, [.ref nb, .ref rc, .int (0)])) := gk2
  have gn2 : h27 nb = some (.inl (3, 60, .inr (.inr (.inr (.inr (fun _ => none)))))) := gn2
  have gc2 : h27 rc = some (.inl (0, 60, .inl (fun _ => 0))) := gc2
  refine qk_putF dX3_init_33 ffX3_21 g31 no rfl rfl rfl rfl rfl rfl rfl (fun h32 g33 o34 => ?_)
  have g35 : h32 r = some (.inr (2, [.int (0), .ref sgn, .int (0), .int (0)])) := (o34 _ (ne_of_cells g29 g31 (by simp))).trans g29
  have g36 : h32 sgn = some (.inl (0, 60, .inl (fun _ => 0))) := (o34 _ (ne_of_cells g30 g31 (by simp))).trans g30
  have g37 : h32 k0 = some (.inr (3, [.ref nb, .ref rc, .int (0)])) := (o34 _ (ne_of_cells gk2 g31 (by simp))).trans gk2
  have g38 : h32 nb = some (.inl (3, 60, .inr (.inr (.inr (.inr (fun _ => none)))))) := (o34 _ (ne_of_cells gn2 g31 (by simp))).trans gn2
  have g39 : h32 rc = some (.inl (0, 60, .inl (fun _ => 0))) := (o34 _ (ne_of_cells gc2 g31 (by simp))).trans gc2
  have g33 : h32 o0 = some (.inr (4, [.ref r, .ref k0, .null, .null])) := g33
  refine qp_aload_n dX3_init_36 rfl ?_
  refine qp_null dX3_init_37 ?_
  refine qk_put dX3_init_38 fX3_25 g33 no rfl rfl rfl rfl rfl (fun h40 g41 o42 => ?_)
  have g43 : h40 r = some (.inr (2, [.int (0), .ref sgn, .int (0), .int (0)])) := (o42 _ (ne_of_cells g35 g33 (by simp))).trans g35
  have g44 : h40 sgn = some (.inl (0, 60, .inl (fun _ => 0))) := (o42 _ (ne_of_cells g36 g33 (by simp))).trans g36
  have g45 : h40 k0 = some (.inr (3, [.ref nb, .ref rc, .int (0)])) := (o42 _ (ne_of_cells g37 g33 (by simp))).trans g37
  have g46 : h40 nb = some (.inl (3, 60, .inr (.inr (.inr (.inr (fun _ => none)))))) := (o42 _ (ne_of_cells g38 g33 (by simp))).trans g38
  have g47 : h40 rc = some (.inl (0, 60, .inl (fun _ => 0))) := (o42 _ (ne_of_cells g39 g33 (by simp))).trans g39
  have g41 : h40 o0 = some (.inr (4, [.ref r, .ref k0, .null, .null])) := g41
  refine qp_aload_n dX3_init_41 rfl ?_
  refine qp_null dX3_init_42 ?_
  refine qk_put dX3_init_43 fX3_29 g41 no rfl rfl rfl rfl rfl (fun h48 g49 o50 => ?_)
  have g51 : h48 r = some (.inr (2, [.int (0), .ref sgn, .int (0), .int (0)])) := (o50 _ (ne_of_cells g43 g41 (by simp))).trans g43
  have g52 : h48 sgn = some (.inl (0, 60, .inl (fun _ => 0))) := (o50 _ (ne_of_cells g44 g41 (by simp))).trans g44
  have g53 : h48 k0 = some (.inr (3, [.ref nb, .ref rc, .int (0)])) := (o50 _ (ne_of_cells g45 g41 (by simp))).trans g45
  have g54 : h48 nb = some (.inl (3, 60, .inr (.inr (.inr (.inr (fun _ => none)))))) := (o50 _ (ne_of_cells g46 g41 (by simp))).trans g46
  have g55 : h48 rc = some (.inl (0, 60, .inl (fun _ => 0))) := (o50 _ (ne_of_cells g47 g41 (by simp))).trans g47
  have g49 : h48 o0 = some (.inr (4, [.ref r, .ref k0, .null, .null])) := g49
  exact qr_v dX3_init_46 rfl rfl rfl ⟨r, sgn, k0, nb, rc, n4, ns, n20, nnb, nrc, z6, zs0, z22, zb0, zc0, hsr, g49, g51, g52, g53, g54, g55, fun b hb0 hb1 hb2 hb3 hb4 hb5 => ((((((((o50 b hb0).trans (o42 b hb0)).trans (o34 b hb0)).trans (os2 b hb3 hb4 hb5)).trans (o19 b hb3)).trans (o14 b hb0)).trans (or2 b hb1 hb2)).trans (o3 b hb1))⟩
set_option maxHeartbeats 4000000 in
set_option maxRecDepth 100000 in
theorem c_csInit1 (G : qG) {h : qH} {o0 : Nat} (sch : Int32) (hsch : ¬ sch < 1) (no : G.2.1 ≤ o0) (go : h o0 = some (.inr (4, [.null, .null, .null, .null]))) : qMet G M_X3_init [.ref o0, .int sch] h (qV (fun h1 => ∃ r sgn k0 nb rc : Nat, G.2.1 ≤ r ∧ G.2.1 ≤ sgn ∧ G.2.1 ≤ k0 ∧ G.2.1 ≤ nb ∧ G.2.1 ≤ rc ∧ h r = none ∧ h sgn = none ∧ h k0 = none ∧ h nb = none ∧ h rc = none ∧ sgn ≠ rc ∧ h1 o0 = some (csCell r k0 none none) ∧ h1 r = some (rdCell 1 sgn 0 0) ∧ h1 sgn = some (sgCell (fun _ => 0)) ∧ h1 k0 = some (shCell nb rc 0) ∧ h1 nb = some (nbCell (fun _ => none)) ∧ h1 rc = some (rcCell (fun _ => 0)) ∧ ∀ b : Nat, b ≠ o0 → b ≠ r → b ≠ sgn → b ≠ k0 → b ≠ nb → b ≠ rc → h1 b = h b)) := by
  refine qMet.of (by decide) (Nat.le_of_ble_eq_true rfl) rfl ?_
  refine QP.locsE (L1 := [some (.ref o0), some (.int (sch))]) rfl ?_
  refine qp_aload_n dX3_init_0 rfl ?_
  refine qp_objInit dX3_init_1 oiX3_1 oi_in oi_cd (Nat.le_of_ble_eq_true rfl) (Nat.le_of_ble_eq_true rfl) ?_
  refine qp_aload_n dX3_init_4 rfl ?_
  refine qk_new dX3_init_5 nX3_7 rfl rfl rfl (fun r h1 n4 z5 g2 o3 => ?_)
  have z6 : h r = none := z5
  have g7 : h1 o0 = some (.inr (4, [.null, .null, .null, .null])) := (o3 _ (ne_of_none go z5)).trans go
  have g2 : h1 r = some (.inr (2, [.int (0), .null, .int (0), .int (0)])) := g2
  refine qp_dup dX3_init_8 rfl ?_
  refine qp_iload_n dX3_init_9 rfl ?_
  refine qp_iconst (v := 1) dX3_init_10 (by decide) ?_
  refine qp_icmp_lt 18 dX3_init_11 (by decide) (fun c_11 => absurd c_11 hsch) (fun c_11 => ?_)
  refine qp_iconst (v := 1) dX3_init_14 (by decide) ?_
  refine qp_goto 19 dX3_init_15 (by decide) ?_
  refine qi_V dX3_init_19 mX3_9 (c_rdInit G (true) n4 g2) rfl rfl rfl rfl rfl rfl (fun h9 p10 => ?_)
  obtain ⟨sgn, ns, zs, gr2, gs2, or2⟩ := p10
  have zs0 : h sgn = none := ((o3 sgn (Ne.symm (ne_of_none g2 zs)))).symm.trans zs
  have g11 : h9 o0 = some (.inr (4, [.null, .null, .null, .null])) := (or2 _ (ne_of_cells g7 g2 (by simp)) (ne_of_none g7 zs)).trans g7
  have gr2 : h9 r = some (.inr (2, [.int (1), .ref sgn, .int (0), .int (0)])) := gr2
  have gs2 : h9 sgn = some (.inl (0, 60, .inl (fun _ => 0))) := gs2
  refine qk_putF dX3_init_22 ffX3_12 g11 no rfl rfl rfl rfl rfl rfl rfl (fun h12 g13 o14 => ?_)
  have g15 : h12 r = some (.inr (2, [.int (1), .ref sgn, .int (0), .int (0)])) := (o14 _ (ne_of_cells gr2 g11 (by simp))).trans gr2
  have g16 : h12 sgn = some (.inl (0, 60, .inl (fun _ => 0))) := (o14 _ (ne_of_cells gs2 g11 (by simp))).trans gs2
  have g13 : h12 o0 = some (.inr (4, [.ref r, .null, .null, .null])) := g13
  refine qp_aload_n dX3_init_25 rfl ?_
  refine qk_new dX3_init_26 nX3_18 rfl rfl rfl (fun k0 h17 n20 z21 g18 o19 => ?_)
  have z22 : h k0 = none := ((((o14 k0 (Ne.symm (ne_of_none g13 z21))).trans (or2 k0 (Ne.symm (ne_of_none g15 z21)) (Ne.symm (ne_of_none g16 z21)))).trans (o3 k0 (Ne.symm (ne_of_none g15 z21))))).symm.trans z21
  have g23 : h17 r = some (.inr (2, [.int (1), .ref sgn, .int (0), .int (0)])) := (o19 _ (ne_of_none g15 z21)).trans g15
  have g24 : h17 sgn = some (.inl (0, 60, .inl (fun _ => 0))) := (o19 _ (ne_of_none g16 z21)).trans g16
  have g25 : h17 o0 = some (.inr (4, [.ref r, .null, .null, .null])) := (o19 _ (ne_of_none g13 z21)).trans g13
  have g18 : h17 k0 = some (.inr (3, [.null, .null, .int (0)])) := g18
  refine qp_dup dX3_init_29 rfl ?_
  refine qi_V dX3_init_30 mX3_20 (c_shInit G n20 g18) rfl rfl rfl rfl rfl rfl (fun h27 p28 => ?_)
  obtain ⟨nb, rc, nnb, nrc, hbr, zb, zc, gk2, gn2, gc2, os2⟩ := p28
  have zb0 : h nb = none := (((((o19 nb (Ne.symm (ne_of_none g18 zb))).trans (o14 nb (Ne.symm (ne_of_none g25 zb)))).trans (or2 nb (Ne.symm (ne_of_none g23 zb)) (Ne.symm (ne_of_none g24 zb)))).trans (o3 nb (Ne.symm (ne_of_none g23 zb))))).symm.trans zb
  have zc0 : h rc = none := (((((o19 rc (Ne.symm (ne_of_none g18 zc))).trans (o14 rc (Ne.symm (ne_of_none g25 zc)))).trans (or2 rc (Ne.symm (ne_of_none g23 zc)) (Ne.symm (ne_of_none g24 zc)))).trans (o3 rc (Ne.symm (ne_of_none g23 zc))))).symm.trans zc
  have hsr : sgn ≠ rc := ne_of_none g24 zc
  have g29 : h27 r = some (.inr (2, [.int (1), .ref sgn, .int (0), .int (0)])) := (os2 _ (ne_of_cells g23 g18 (by simp)) (ne_of_none g23 zb) (ne_of_none g23 zc)).trans g23
  have g30 : h27 sgn = some (.inl (0, 60, .inl (fun _ => 0))) := (os2 _ (ne_of_cells g24 g18 (by simp)) (ne_of_none g24 zb) (ne_of_none g24 zc)).trans g24
  have g31 : h27 o0 = some (.inr (4, [.ref r, .null, .null, .null])) := (os2 _ (ne_of_cells g25 g18 (by simp)) (ne_of_none g25 zb) (ne_of_none g25 zc)).trans g25
  have gk2 : h27 k0 = some (.inr (3, [.ref nb, .ref rc, .int (0)])) := gk2
  have gn2 : h27 nb = some (.inl (3, 60, .inr (.inr (.inr (.inr (fun _ => none)))))) := gn2
  have gc2 : h27 rc = some (.inl (0, 60, .inl (fun _ => 0))) := gc2
  refine qk_putF dX3_init_33 ffX3_21 g31 no rfl rfl rfl rfl rfl rfl rfl (fun h32 g33 o34 => ?_)
  have g35 : h32 r = some (.inr (2, [.int (1), .ref sgn, .int (0), .int (0)])) := (o34 _ (ne_of_cells g29 g31 (by simp))).trans g29
  have g36 : h32 sgn = some (.inl (0, 60, .inl (fun _ => 0))) := (o34 _ (ne_of_cells g30 g31 (by simp))).trans g30
  have g37 : h32 k0 = some (.inr (3, [.ref nb, .ref rc, .int (0)])) := (o34 _ (ne_of_cells gk2 g31 (by simp))).trans gk2
  have g38 : h32 nb = some (.inl (3, 60, .inr (.inr (.inr (.inr (fun _ => none)))))) := (o34 _ (ne_of_cells gn2 g31 (by simp))).trans gn2
  have g39 : h32 rc = some (.inl (0, 60, .inl (fun _ => 0))) := (o34 _ (ne_of_cells gc2 g31 (by simp))).trans gc2
  have g33 : h32 o0 = some (.inr (4, [.ref r, .ref k0, .null, .null])) := g33
  refine qp_aload_n dX3_init_36 rfl ?_
  refine qp_null dX3_init_37 ?_
  refine qk_put dX3_init_38 fX3_25 g33 no rfl rfl rfl rfl rfl (fun h40 g41 o42 => ?_)
  have g43 : h40 r = some (.inr (2, [.int (1), .ref sgn, .int (0), .int (0)])) := (o42 _ (ne_of_cells g35 g33 (by simp))).trans g35
  have g44 : h40 sgn = some (.inl (0, 60, .inl (fun _ => 0))) := (o42 _ (ne_of_cells g36 g33 (by simp))).trans g36
  have g45 : h40 k0 = some (.inr (3, [.ref nb, .ref rc, .int (0)])) := (o42 _ (ne_of_cells g37 g33 (by simp))).trans g37
  have g46 : h40 nb = some (.inl (3, 60, .inr (.inr (.inr (.inr (fun _ => none)))))) := (o42 _ (ne_of_cells g38 g33 (by simp))).trans g38
  have g47 : h40 rc = some (.inl (0, 60, .inl (fun _ => 0))) := (o42 _ (ne_of_cells g39 g33 (by simp))).trans g39
  have g41 : h40 o0 = some (.inr (4, [.ref r, .ref k0, .null, .null])) := g41
  refine qp_aload_n dX3_init_41 rfl ?_
  refine qp_null dX3_init_42 ?_
  refine qk_put dX3_init_43 fX3_29 g41 no rfl rfl rfl rfl rfl (fun h48 g49 o50 => ?_)
  have g51 : h48 r = some (.inr (2, [.int (1), .ref sgn, .int (0), .int (0)])) := (o50 _ (ne_of_cells g43 g41 (by simp))).trans g43
  have g52 : h48 sgn = some (.inl (0, 60, .inl (fun _ => 0))) := (o50 _ (ne_of_cells g44 g41 (by simp))).trans g44
  have g53 : h48 k0 = some (.inr (3, [.ref nb, .ref rc, .int (0)])) := (o50 _ (ne_of_cells g45 g41 (by simp))).trans g45
  have g54 : h48 nb = some (.inl (3, 60, .inr (.inr (.inr (.inr (fun _ => none)))))) := (o50 _ (ne_of_cells g46 g41 (by simp))).trans g46
  have g55 : h48 rc = some (.inl (0, 60, .inl (fun _ => 0))) := (o50 _ (ne_of_cells g47 g41 (by simp))).trans g47
  have g49 : h48 o0 = some (.inr (4, [.ref r, .ref k0, .null, .null])) := g49
  exact qr_v dX3_init_46 rfl rfl rfl ⟨r, sgn, k0, nb, rc, n4, ns, n20, nnb, nrc, z6, zs0, z22, zb0, zc0, hsr, g49, g51, g52, g53, g54, g55, fun b hb0 hb1 hb2 hb3 hb4 hb5 => ((((((((o50 b hb0).trans (o42 b hb0)).trans (o34 b hb0)).trans (os2 b hb3 hb4 hb5)).trans (o19 b hb3)).trans (o14 b hb0)).trans (or2 b hb1 hb2)).trans (o3 b hb1))⟩
