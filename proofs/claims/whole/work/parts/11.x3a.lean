def sSide (a b : Int64) : Int32 := if a = b then 0 else if a < b then -1 else 1
set_option maxHeartbeats 4000000 in
set_option maxRecDepth 100000 in
theorem c_side (G : qG) {h : qH} (a b : Int64) : qMet G M_X3_side [.long a, .long b] h (qI (fun v h1 => h1 = h ∧ v = sSide a b)) := by
  refine qMet.of (by decide) (Nat.le_of_ble_eq_true rfl) rfl ?_
  refine QP.locsE (L1 := [some (.long (a)), none, some (.long (b)), none]) rfl ?_
  refine qp_lload_n dX3_side_0 rfl ?_
  refine qp_lload_n dX3_side_1 rfl ?_
  refine qp_lcmp dX3_side_2 ?_
  refine qp_if_ne 8 dX3_side_3 (by decide) (fun c_3 => ?_) (fun c_3 => ?_)
  · refine qp_lload_n dX3_side_8 rfl ?_
    refine qp_lload_n dX3_side_9 rfl ?_
    refine qp_lcmp dX3_side_10 ?_
    refine qp_if_ge 18 dX3_side_11 (by decide) (fun c_11 => ?_) (fun c_11 => ?_)
    · refine qp_iconst (v := 1) dX3_side_18 (by decide) ?_
      exact qr_i dX3_side_19 rfl rfl rfl ⟨rfl, by rw [lg_cmp_eq] at c_3; rw [lg_cmp_ge, Int64.le_iff_toInt_le] at c_11; simp only [sSide]; rw [if_neg c_3, if_neg (by rw [Int64.lt_iff_toInt_lt]; omega)]⟩
    · refine qp_iconst (v := -1) dX3_side_14 (by decide) ?_
      refine qp_goto 19 dX3_side_15 (by decide) ?_
      exact qr_i dX3_side_19 rfl rfl rfl ⟨rfl, by rw [lg_cmp_eq] at c_3; rw [lg_cmp_ge, Int64.le_iff_toInt_le] at c_11; simp only [sSide]; rw [if_neg c_3, if_pos (by rw [Int64.lt_iff_toInt_lt]; omega)]⟩
  · refine qp_iconst (v := 0) dX3_side_6 (by decide) ?_
    exact qr_i dX3_side_7 rfl rfl rfl ⟨rfl, by rw [lg_cmp_eq] at c_3; simp [sSide, c_3]⟩
def sThen (v t : Int32) : Int32 := if v = 0 then t else v
def oR7 (x y : CNv) (v : Int32) : Int32 := sThen v (sSide x.mark y.mark)
def oR6 (x y : CNv) (v : Int32) : Int32 := oR7 x y (sThen v (sSide x.voll.toInt64 y.voll.toInt64))
def oR5 (x y : CNv) (v : Int32) : Int32 := oR6 x y (sThen v (sSide x.vol.toInt64 y.vol.toInt64))
def oR4 (x y : CNv) (v : Int32) : Int32 := oR5 x y (sThen v (sSide x.year.toInt64 y.year.toInt64))
def oR3 (x y : CNv) (v : Int32) : Int32 := oR4 x y (sThen v (sSide x.cut.toInt64 y.cut.toInt64))
def oR2 (x y : CNv) (v : Int32) : Int32 := oR3 x y (sThen v (sSide x.cap.toInt64 y.cap.toInt64))
def oR1 (x y : CNv) (v : Int32) : Int32 := oR2 x y (sThen v (sSide x.cd y.cd))
def sOrder (x y : CNv) : Int32 := oR1 x y (sSide x.cl.toInt64 y.cl.toInt64)
set_option maxHeartbeats 4000000 in
set_option maxRecDepth 100000 in
theorem l_order7 {G : qG} {h : qH} {a b ln ln2 : Nat} {x y : CNv} {r : Int32} (ga : h a = some (cnCell x ln)) (gb : h b = some (cnCell y ln2)) (v : Int32) (hr : r = oR7 x y v) : QP G M_X3_order qTr (qMZ G M_X3_order (qI (fun w h1 => h1 = h ∧ w = r))) 120 [some (.ref a), some (.ref b), some (.int v)] [] h 0 0 := by
  refine qp_iload_n dX3_order_120 rfl ?_
  refine qp_if_ne 138 dX3_order_121 (by decide) (fun c_121 => ?_) (fun c_121 => ?_)
  · refine qp_iload_n dX3_order_138 rfl ?_
    exact qr_i dX3_order_139 rfl rfl rfl ⟨rfl, by rw [hr]; simp only [oR7, sThen]; rw [if_neg c_121]⟩
  · refine qp_aload_n dX3_order_124 rfl ?_
    refine qp_getf dX3_order_125 fX3_149 ga rfl ?_
    refine qp_aload_n dX3_order_128 rfl ?_
    refine qp_getf dX3_order_129 fX3_149 gb rfl ?_
    refine qs_Ip dX3_order_132 mX3_139 (c_side G (x.mark) (y.mark)) rfl rfl rfl rfl rfl rfl ?_
    refine qp_goto 139 dX3_order_135 (by decide) ?_
    exact qr_i dX3_order_139 rfl rfl rfl ⟨rfl, by rw [hr]; simp only [oR7, sThen]; rw [if_pos c_121]⟩
set_option maxHeartbeats 4000000 in
set_option maxRecDepth 100000 in
theorem l_order6 {G : qG} {h : qH} {a b ln ln2 : Nat} {x y : CNv} {r : Int32} (ga : h a = some (cnCell x ln)) (gb : h b = some (cnCell y ln2)) (v : Int32) (hr : r = oR6 x y v) : QP G M_X3_order qTr (qMZ G M_X3_order (qI (fun w h1 => h1 = h ∧ w = r))) 102 [some (.ref a), some (.ref b), some (.int v)] [] h 0 0 := by
  refine qp_iload_n dX3_order_102 rfl ?_
  refine qp_if_ne 120 dX3_order_103 (by decide) (fun c_103 => ?_) (fun c_103 => ?_)
  · exact l_order7 ga gb _ (by rw [hr]; simp only [oR6, sThen]; rw [if_neg c_103])
  · refine qp_aload_n dX3_order_106 rfl ?_
    refine qp_getf dX3_order_107 fX3_146 ga rfl ?_
    refine qp_i2l dX3_order_110 ?_
    refine qp_aload_n dX3_order_111 rfl ?_
    refine qp_getf dX3_order_112 fX3_146 gb rfl ?_
    refine qp_i2l dX3_order_115 ?_
    refine qs_Ip dX3_order_116 mX3_139 (c_side G (Int32.toInt64 (x.voll)) (Int32.toInt64 (y.voll))) rfl rfl rfl rfl rfl rfl ?_
    refine qp_istore_n dX3_order_119 (by decide) ?_
    refine QP.locsE (L1 := [some (.ref a), some (.ref b), some (.int (sSide (Int32.toInt64 (x.voll)) (Int32.toInt64 (y.voll))))]) rfl ?_
    exact l_order7 ga gb _ (by rw [hr]; simp only [oR6, sThen]; rw [if_pos c_103])
set_option maxHeartbeats 4000000 in
set_option maxRecDepth 100000 in
theorem l_order5 {G : qG} {h : qH} {a b ln ln2 : Nat} {x y : CNv} {r : Int32} (ga : h a = some (cnCell x ln)) (gb : h b = some (cnCell y ln2)) (v : Int32) (hr : r = oR5 x y v) : QP G M_X3_order qTr (qMZ G M_X3_order (qI (fun w h1 => h1 = h ∧ w = r))) 84 [some (.ref a), some (.ref b), some (.int v)] [] h 0 0 := by
  refine qp_iload_n dX3_order_84 rfl ?_
  refine qp_if_ne 102 dX3_order_85 (by decide) (fun c_85 => ?_) (fun c_85 => ?_)
  · exact l_order6 ga gb _ (by rw [hr]; simp only [oR5, sThen]; rw [if_neg c_85])
  · refine qp_aload_n dX3_order_88 rfl ?_
    refine qp_getf dX3_order_89 fX3_70 ga rfl ?_
    refine qp_i2l dX3_order_92 ?_
    refine qp_aload_n dX3_order_93 rfl ?_
    refine qp_getf dX3_order_94 fX3_70 gb rfl ?_
    refine qp_i2l dX3_order_97 ?_
    refine qs_Ip dX3_order_98 mX3_139 (c_side G (Int32.toInt64 (x.vol)) (Int32.toInt64 (y.vol))) rfl rfl rfl rfl rfl rfl ?_
    refine qp_istore_n dX3_order_101 (by decide) ?_
    refine QP.locsE (L1 := [some (.ref a), some (.ref b), some (.int (sSide (Int32.toInt64 (x.vol)) (Int32.toInt64 (y.vol))))]) rfl ?_
    exact l_order6 ga gb _ (by rw [hr]; simp only [oR5, sThen]; rw [if_pos c_85])
set_option maxHeartbeats 4000000 in
set_option maxRecDepth 100000 in
theorem l_order4 {G : qG} {h : qH} {a b ln ln2 : Nat} {x y : CNv} {r : Int32} (ga : h a = some (cnCell x ln)) (gb : h b = some (cnCell y ln2)) (v : Int32) (hr : r = oR4 x y v) : QP G M_X3_order qTr (qMZ G M_X3_order (qI (fun w h1 => h1 = h ∧ w = r))) 66 [some (.ref a), some (.ref b), some (.int v)] [] h 0 0 := by
  refine qp_iload_n dX3_order_66 rfl ?_
  refine qp_if_ne 84 dX3_order_67 (by decide) (fun c_67 => ?_) (fun c_67 => ?_)
  · exact l_order5 ga gb _ (by rw [hr]; simp only [oR4, sThen]; rw [if_neg c_67])
  · refine qp_aload_n dX3_order_70 rfl ?_
    refine qp_getf dX3_order_71 fX3_67 ga rfl ?_
    refine qp_i2l dX3_order_74 ?_
    refine qp_aload_n dX3_order_75 rfl ?_
    refine qp_getf dX3_order_76 fX3_67 gb rfl ?_
    refine qp_i2l dX3_order_79 ?_
    refine qs_Ip dX3_order_80 mX3_139 (c_side G (Int32.toInt64 (x.year)) (Int32.toInt64 (y.year))) rfl rfl rfl rfl rfl rfl ?_
    refine qp_istore_n dX3_order_83 (by decide) ?_
    refine QP.locsE (L1 := [some (.ref a), some (.ref b), some (.int (sSide (Int32.toInt64 (x.year)) (Int32.toInt64 (y.year))))]) rfl ?_
    exact l_order5 ga gb _ (by rw [hr]; simp only [oR4, sThen]; rw [if_pos c_67])
set_option maxHeartbeats 4000000 in
set_option maxRecDepth 100000 in
theorem l_order3 {G : qG} {h : qH} {a b ln ln2 : Nat} {x y : CNv} {r : Int32} (ga : h a = some (cnCell x ln)) (gb : h b = some (cnCell y ln2)) (v : Int32) (hr : r = oR3 x y v) : QP G M_X3_order qTr (qMZ G M_X3_order (qI (fun w h1 => h1 = h ∧ w = r))) 48 [some (.ref a), some (.ref b), some (.int v)] [] h 0 0 := by
  refine qp_iload_n dX3_order_48 rfl ?_
  refine qp_if_ne 66 dX3_order_49 (by decide) (fun c_49 => ?_) (fun c_49 => ?_)
  · exact l_order4 ga gb _ (by rw [hr]; simp only [oR3, sThen]; rw [if_neg c_49])
  · refine qp_aload_n dX3_order_52 rfl ?_
    refine qp_getf dX3_order_53 fX3_63 ga rfl ?_
    refine qp_i2l dX3_order_56 ?_
    refine qp_aload_n dX3_order_57 rfl ?_
    refine qp_getf dX3_order_58 fX3_63 gb rfl ?_
    refine qp_i2l dX3_order_61 ?_
    refine qs_Ip dX3_order_62 mX3_139 (c_side G (Int32.toInt64 (x.cut)) (Int32.toInt64 (y.cut))) rfl rfl rfl rfl rfl rfl ?_
    refine qp_istore_n dX3_order_65 (by decide) ?_
    refine QP.locsE (L1 := [some (.ref a), some (.ref b), some (.int (sSide (Int32.toInt64 (x.cut)) (Int32.toInt64 (y.cut))))]) rfl ?_
    exact l_order4 ga gb _ (by rw [hr]; simp only [oR3, sThen]; rw [if_pos c_49])
set_option maxHeartbeats 4000000 in
set_option maxRecDepth 100000 in
theorem l_order2 {G : qG} {h : qH} {a b ln ln2 : Nat} {x y : CNv} {r : Int32} (ga : h a = some (cnCell x ln)) (gb : h b = some (cnCell y ln2)) (v : Int32) (hr : r = oR2 x y v) : QP G M_X3_order qTr (qMZ G M_X3_order (qI (fun w h1 => h1 = h ∧ w = r))) 30 [some (.ref a), some (.ref b), some (.int v)] [] h 0 0 := by
  refine qp_iload_n dX3_order_30 rfl ?_
  refine qp_if_ne 48 dX3_order_31 (by decide) (fun c_31 => ?_) (fun c_31 => ?_)
  · exact l_order3 ga gb _ (by rw [hr]; simp only [oR2, sThen]; rw [if_neg c_31])
  · refine qp_aload_n dX3_order_34 rfl ?_
    refine qp_getf dX3_order_35 fX3_143 ga rfl ?_
    refine qp_i2l dX3_order_38 ?_
    refine qp_aload_n dX3_order_39 rfl ?_
    refine qp_getf dX3_order_40 fX3_143 gb rfl ?_
    refine qp_i2l dX3_order_43 ?_
    refine qs_Ip dX3_order_44 mX3_139 (c_side G (Int32.toInt64 (x.cap)) (Int32.toInt64 (y.cap))) rfl rfl rfl rfl rfl rfl ?_
    refine qp_istore_n dX3_order_47 (by decide) ?_
    refine QP.locsE (L1 := [some (.ref a), some (.ref b), some (.int (sSide (Int32.toInt64 (x.cap)) (Int32.toInt64 (y.cap))))]) rfl ?_
    exact l_order3 ga gb _ (by rw [hr]; simp only [oR2, sThen]; rw [if_pos c_31])
set_option maxHeartbeats 4000000 in
set_option maxRecDepth 100000 in
theorem l_order1 {G : qG} {h : qH} {a b ln ln2 : Nat} {x y : CNv} {r : Int32} (ga : h a = some (cnCell x ln)) (gb : h b = some (cnCell y ln2)) (v : Int32) (hr : r = oR1 x y v) : QP G M_X3_order qTr (qMZ G M_X3_order (qI (fun w h1 => h1 = h ∧ w = r))) 14 [some (.ref a), some (.ref b), some (.int v)] [] h 0 0 := by
  refine qp_iload_n dX3_order_14 rfl ?_
  refine qp_if_ne 30 dX3_order_15 (by decide) (fun c_15 => ?_) (fun c_15 => ?_)
  · exact l_order2 ga gb _ (by rw [hr]; simp only [oR1, sThen]; rw [if_neg c_15])
  · refine qp_aload_n dX3_order_18 rfl ?_
    refine qp_getf dX3_order_19 fX3_59 ga rfl ?_
    refine qp_aload_n dX3_order_22 rfl ?_
    refine qp_getf dX3_order_23 fX3_59 gb rfl ?_
    refine qs_Ip dX3_order_26 mX3_139 (c_side G (x.cd) (y.cd)) rfl rfl rfl rfl rfl rfl ?_
    refine qp_istore_n dX3_order_29 (by decide) ?_
    refine QP.locsE (L1 := [some (.ref a), some (.ref b), some (.int (sSide (x.cd) (y.cd)))]) rfl ?_
    exact l_order2 ga gb _ (by rw [hr]; simp only [oR1, sThen]; rw [if_pos c_15])
set_option maxHeartbeats 4000000 in
set_option maxRecDepth 100000 in
theorem c_order (G : qG) {h : qH} {a b ln ln2 : Nat} {x y : CNv} (ga : h a = some (cnCell x ln)) (gb : h b = some (cnCell y ln2)) : qMet G M_X3_order [.ref a, .ref b] h (qI (fun v h1 => h1 = h ∧ v = sOrder x y)) := by
  refine qMet.of (by decide) (Nat.le_of_ble_eq_true rfl) rfl ?_
  refine QP.locsE (L1 := [some (.ref a), some (.ref b), none]) rfl ?_
  refine qp_aload_n dX3_order_0 rfl ?_
  refine qp_getf dX3_order_1 fX3_136 ga rfl ?_
  refine qp_i2l dX3_order_4 ?_
  refine qp_aload_n dX3_order_5 rfl ?_
  refine qp_getf dX3_order_6 fX3_136 gb rfl ?_
  refine qp_i2l dX3_order_9 ?_
  refine qs_Ip dX3_order_10 mX3_139 (c_side G (Int32.toInt64 (x.cl)) (Int32.toInt64 (y.cl))) rfl rfl rfl rfl rfl rfl ?_
  refine qp_istore_n dX3_order_13 (by decide) ?_
  refine QP.locsE (L1 := [some (.ref a), some (.ref b), some (.int (sSide (Int32.toInt64 (x.cl)) (Int32.toInt64 (y.cl))))]) rfl ?_
  exact l_order1 ga gb _ rfl
set_option maxHeartbeats 4000000 in
set_option maxRecDepth 100000 in
theorem l_powerOfTen {G : qG} {h : qH} {e : Nat} (he31 : e < 2147483648) : ∀ (n k : Nat), e < k + n → k ≤ e → QP G M_X3_powerOfTen qTr (qMZ G M_X3_powerOfTen (qJ (fun v h1 => h1 = h ∧ v = lN (10 ^ e)))) 4 [some (.int (nI e)), some (.long (lN (10 ^ k))), none, some (.int (nI k))] [] h 0 0 := by
  intro n
  induction n with
  | zero =>
    intro k h1 h2
    omega
  | succ n ih =>
    intro k h1 h2
    refine qp_iload_n dX3_powerOfTen_4 rfl ?_
    refine qp_iload_n dX3_powerOfTen_5 rfl ?_
    refine qp_icmp_ge 21 dX3_powerOfTen_6 (by decide) (fun c_6 => ?_) (fun c_6 => ?_)
    · have hke : e ≤ k := (nI_leI he31 (by omega)).mp c_6
      refine qp_lload_n dX3_powerOfTen_21 rfl ?_
      exact qr_l dX3_powerOfTen_22 rfl rfl rfl ⟨rfl, by rw [show k = e by omega]⟩
    · have hke : k < e := Nat.not_le.mp fun q => c_6 ((nI_leI he31 (by omega)).mpr q)
      refine qp_lload_n dX3_powerOfTen_9 rfl ?_
      refine qp_ldc2 dX3_powerOfTen_10 klX3_134 ?_
      refine qp_lmul dX3_powerOfTen_13 ?_
      refine QP.topJ (y := lN (10 ^ (k + 1))) (by rw [show (10 : Int64) = lN 10 from rfl, lN_mul, Nat.pow_succ]) ?_
      refine qp_lstore_n dX3_powerOfTen_14 (by decide) ?_
      refine QP.locsE (L1 := [some (.int (nI e)), some (.long (lN (10 ^ (k + 1)))), none, some (.int (nI k))]) rfl ?_
      refine qp_iinc (v := nI (k + 1)) dX3_powerOfTen_15 rfl (by decide) (nI_1 k) ?_
      refine QP.locsE (L1 := [some (.int (nI e)), some (.long (lN (10 ^ (k + 1)))), none, some (.int (nI (k + 1)))]) rfl ?_
      refine qp_goto 4 dX3_powerOfTen_18 (by decide) ?_
      exact ih (k + 1) (by omega) (by omega)
set_option maxHeartbeats 4000000 in
set_option maxRecDepth 100000 in
theorem c_powerOfTen (G : qG) {h : qH} (e : Nat) (he31 : e < 2147483648) : qMet G M_X3_powerOfTen [.int (nI e)] h (qJ (fun v h1 => h1 = h ∧ v = lN (10 ^ e))) := by
  refine qMet.of (by decide) (Nat.le_of_ble_eq_true rfl) rfl ?_
  refine QP.locsE (L1 := [some (.int (nI e)), none, none, none]) rfl ?_
  refine qp_lconst (v := 1) dX3_powerOfTen_0 (by decide) ?_
  refine qp_lstore_n dX3_powerOfTen_1 (by decide) ?_
  refine QP.locsE (L1 := [some (.int (nI e)), some (.long (1)), none, none]) rfl ?_
  refine qp_iconst (v := 0) dX3_powerOfTen_2 (by decide) ?_
  refine qp_istore_n dX3_powerOfTen_3 (by decide) ?_
  refine QP.locsE (L1 := [some (.int (nI e)), some (.long (1)), none, some (.int (0))]) rfl ?_
  exact l_powerOfTen he31 (e + 1) 0 (by omega) (by omega)
def nzf : Nat → Nat → Bool
  | 0, _ => true
  | f + 1, t => if t = 0 then true else if t % 10 = 0 then false else nzf f (t / 10)
set_option maxHeartbeats 4000000 in
set_option maxRecDepth 100000 in
theorem l_hasNoZero {G : qG} {h : qH} {t0 : Int32} {r : Bool} : ∀ (n k t : Nat), 6 < k + n → k ≤ 6 → t < 2147483648 → r = nzf (6 - k) t → QP G M_X3_hasNoZero qTr (qMZ G M_X3_hasNoZero (qI (fun v h1 => h1 = h ∧ v = bI r))) 4 [some (.int t0), some (.int (nI t)), some (.int (nI k))] [] h 0 0 := by
  intro n
  induction n with
  | zero =>
    intro k t h1 h2
    omega
  | succ n ih =>
    intro k t h1 h2 ht hr
    refine qp_iload_n dX3_hasNoZero_4 rfl ?_
    refine qp_bipush (v := 6) dX3_hasNoZero_5 (by decide) ?_
    refine qp_icmp_ge 34 dX3_hasNoZero_7 (by decide) (fun c_7 => ?_) (fun c_7 => ?_)
    · have hk6 := nI_of_ge rfl (by omega) c_7
      refine qp_iconst (v := 1) dX3_hasNoZero_34 (by decide) ?_
      exact qr_z dX3_hasNoZero_35 rfl nar_1 rfl rfl ⟨rfl, by rw [hr, show 6 - k = 0 by omega]; rfl⟩
    · have hk6 := nI_of_nge rfl (by omega) c_7
      refine qp_iload_n dX3_hasNoZero_10 rfl ?_
      refine qp_if_le 34 dX3_hasNoZero_11 (by decide) (fun c_11 => ?_) (fun c_11 => ?_)
      · have ht0 : t = 0 := Nat.eq_zero_of_not_pos fun q => nI_nle q ht c_11
        refine qp_iconst (v := 1) dX3_hasNoZero_34 (by decide) ?_
        exact qr_z dX3_hasNoZero_35 rfl nar_1 rfl rfl ⟨rfl, by rw [hr, show 6 - k = (6 - (k + 1)) + 1 by omega, nzf, if_pos ht0]; rfl⟩
      · have ht0 : ¬ t = 0 := fun q => c_11 (by rw [q]; decide)
        refine qp_iload_n dX3_hasNoZero_14 rfl ?_
        refine qp_bipush (v := 10) dX3_hasNoZero_15 (by decide) ?_
        refine qp_irem dX3_hasNoZero_17 (by decide) ?_
        refine QP.topI (y := nI (t % 10)) (pk_rem ht (by decide) (by decide)) ?_
        refine qp_if_ne 23 dX3_hasNoZero_18 (by decide) (fun c_18 => ?_) (fun c_18 => ?_)
        · have hm : ¬ t % 10 = 0 := fun q => c_18 (by rw [q]; decide)
          refine qp_iload_n dX3_hasNoZero_23 rfl ?_
          refine qp_bipush (v := 10) dX3_hasNoZero_24 (by decide) ?_
          refine qp_idiv dX3_hasNoZero_26 (by decide) ?_
          refine QP.topI (y := nI (t / 10)) (pk_div ht (by decide) (by decide)) ?_
          refine qp_istore_n dX3_hasNoZero_27 (by decide) ?_
          refine QP.locsE (L1 := [some (.int (t0)), some (.int (nI (t / 10))), some (.int (nI k))]) rfl ?_
          refine qp_iinc (v := nI (k + 1)) dX3_hasNoZero_28 rfl (by decide) (nI_1 k) ?_
          refine QP.locsE (L1 := [some (.int (t0)), some (.int (nI (t / 10))), some (.int (nI (k + 1)))]) rfl ?_
          refine qp_goto 4 dX3_hasNoZero_31 (by decide) ?_
          refine ih (k + 1) (t / 10) (by omega) (by omega) (by omega) ?_
          rw [hr, show 6 - k = (6 - (k + 1)) + 1 by omega, nzf, if_neg ht0, if_neg hm]
        · have hm : t % 10 = 0 := (nI_eq (b := 0) (by omega) (by decide)).mp c_18
          refine qp_iconst (v := 0) dX3_hasNoZero_21 (by decide) ?_
          exact qr_z dX3_hasNoZero_22 rfl nar_0 rfl rfl ⟨rfl, by rw [hr, show 6 - k = (6 - (k + 1)) + 1 by omega, nzf, if_neg ht0, if_pos hm]; rfl⟩
set_option maxHeartbeats 4000000 in
set_option maxRecDepth 100000 in
theorem c_hasNoZero (G : qG) {h : qH} (t : Nat) (ht : t < 2147483648) : qMet G M_X3_hasNoZero [.int (nI t)] h (qI (fun v h1 => h1 = h ∧ v = bI (nzf 6 t))) := by
  refine qMet.of (by decide) (Nat.le_of_ble_eq_true rfl) rfl ?_
  refine QP.locsE (L1 := [some (.int (nI t)), none, none]) rfl ?_
  refine qp_iload_n dX3_hasNoZero_0 rfl ?_
  refine qp_istore_n dX3_hasNoZero_1 (by decide) ?_
  refine QP.locsE (L1 := [some (.int (nI t)), some (.int (nI t)), none]) rfl ?_
  refine qp_iconst (v := 0) dX3_hasNoZero_2 (by decide) ?_
  refine qp_istore_n dX3_hasNoZero_3 (by decide) ?_
  refine QP.locsE (L1 := [some (.int (nI t)), some (.int (nI t)), some (.int (0))]) rfl ?_
  exact l_hasNoZero 7 0 t (by omega) (by omega) ht rfl
