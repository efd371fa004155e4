def kI : Nat → Int32
  | 0 => -1
  | k + 1 => nI k
theorem kI_dec : ∀ k : Nat, nI k + (-1) = kI k
  | 0 => rfl
  | k + 1 => pk_m1 k
/-- the cutter's digits that the reference tries: n of its own, more others -/
def mFil (A : Nat → Int32) (n more w : Nat) : Nat → Int32 := fun k => if k < n then A (17 + k) else if k < n + more then nI (w / 9 ^ (n + more - (k + 1)) % 9 + 2) else 0
def mFw (u f : Nat → Int32) (k : Nat) : Nat → Int32 := fun i => if 17 + k ≤ i ∧ i < 23 then f (i - 17) else u i
theorem mFw_6 (u f : Nat → Int32) : mFw u f 6 = u := by
  funext i
  simp only [mFw]
  rw [if_neg (by omega)]
theorem mFw_s {u f : Nat → Int32} {k : Nat} {x : Int32} (hk : k < 6) (hx : x = f k) : upd (mFw u f (k + 1)) (17 + k) x = mFw u f k := by
  funext i
  simp only [upd, mFw]
  by_cases h1 : i = 17 + k
  · subst h1
    rw [if_pos rfl, if_pos (by omega), hx, show 17 + k - 17 = k by omega]
  · rw [if_neg h1]
    by_cases h2 : 17 + (k + 1) ≤ i ∧ i < 23
    · rw [if_pos h2, if_pos (by omega)]
    · rw [if_neg h2, if_neg (by omega)]
/-- what is left of w when the places from k on are done -/
def mRst (n more w k : Nat) : Nat := w / 9 ^ (n + more - max k n)
theorem mRst_le (n more w k : Nat) : mRst n more w k ≤ w := Nat.div_le_self _ _
theorem mRst_in {n more w k : Nat} (h1 : n ≤ k) (h2 : k < n + more) : mRst n more w (k + 1) / 9 = mRst n more w k := by
  simp only [mRst]
  rw [Nat.div_div_eq_div_mul, show max (k + 1) n = k + 1 by omega, show max k n = k by omega, ← Nat.pow_succ, show (n + more - (k + 1)).succ = n + more - k by omega]
theorem mRst_hi {n more w k : Nat} (h1 : n + more ≤ k) : mRst n more w (k + 1) = mRst n more w k := by
  simp only [mRst]
  rw [show n + more - max (k + 1) n = 0 by omega, show n + more - max k n = 0 by omega]
theorem mRst_lo {n more w k : Nat} (h1 : k < n) : mRst n more w (k + 1) = mRst n more w k := by
  simp only [mRst]
  rw [show max (k + 1) n = n by omega, show max k n = n by omega]
theorem mRst_6 {n more w : Nat} (h : n + more ≤ 6) : mRst n more w 6 = w := by
  simp only [mRst]
  rw [show n + more - max 6 n = 0 by omega, Nat.pow_zero, Nat.div_one]
theorem mFil_in {A : Nat → Int32} {n more w k : Nat} (h1 : n ≤ k) (h2 : k < n + more) : nI (mRst n more w (k + 1) % 9 + 2) = mFil A n more w k := by
  simp only [mRst, mFil]
  rw [if_neg (by omega), if_pos h2, show max (k + 1) n = k + 1 by omega]
theorem mFil_hi {A : Nat → Int32} {n more w k : Nat} (h1 : n + more ≤ k) : (0 : Int32) = mFil A n more w k := by
  simp only [mFil]
  rw [if_neg (by omega), if_neg (by omega)]
theorem mFil_lo {A : Nat → Int32} {n more w k : Nat} (h1 : k < n) : A (17 + k) = mFil A n more w k := by
  simp only [mFil]
  rw [if_pos h1]
/-- digits, one less each, as a number -/
def mCut (f : Nat → Int32) : Nat → Int32
  | 0 => 0
  | k + 1 => 10 * mCut f k + f k - 1
def mWays (T : Nat → Bool) : Nat → Nat → Option Nat
  | 0, _ => none
  | t + 1, w => if T w = true then mWays T t (w + 1) else some w
def mTkn (A H : Nat → Int32) (c n more w : Nat) : Bool := mAny (fun p => mIs (mRow H p) (mMix A (mFw (fun _ => 0) (mFil A n more w) 0)) 23) c 0
def mWay (A H : Nat → Int32) (c n more t w : Nat) (rest : Int32) : Int32 := match mWays (mTkn A H c n more) t w with
  | some w1 => mCut (mFil A n more w1) (n + more)
  | none => rest
def mFree (A H : Nat → Int32) (c n : Nat) : Nat → Nat → Int32
  | 0, _ => 0
  | t + 1, more => mWay A H c n more (9 ^ more) 0 (mFree A H c n t (more + 1))
theorem mMix_f (A u v f : Nat → Int32) : ∀ k, k < 23 → mMix A (mFw u f 0) k = mMix A (mFw v f 0) k := by
  intro k hk
  simp only [mMix, mFw]
  by_cases h : k < 17
  · rw [if_pos h, if_pos h]
  · rw [if_neg h, if_neg h, if_pos (by omega), if_pos (by omega)]
theorem mIs_c {X Y Z : Nat → Int32} : ∀ m : Nat, (∀ k, k < m → Y k = Z k) → mIs X Y m = mIs X Z m
  | 0, _ => rfl
  | m + 1, h => by rw [mIs, mIs, mIs_c m (fun k hk => h k (by omega)), h m (by omega)]
theorem mTkn_f (A H u : Nat → Int32) (c n more w : Nat) : mAny (fun p => mIs (mRow H p) (mMix A (mFw u (mFil A n more w) 0)) 23) c 0 = mTkn A H c n more w := by
  simp only [mTkn]
  exact congrArg (fun F => mAny F c 0) (funext fun p => mIs_c 23 (mMix_f A u _ _))
theorem pow9 {m : Nat} (h : m ≤ 6) : 9 ^ m ≤ 531441 := Nat.pow_le_pow_right (n := 9) (by decide) h
set_option maxHeartbeats 4000000 in
set_option maxRecDepth 100000 in
theorem lm_freeF {G : qG} {Z : qZ} {h0 : qH} {sch ps pp wr sz : Int32} {m0 sa nw la sh rcm bf c n more : Nat} {A H : Nat → Int32} {ways : Int32} {w : Nat} {u : Nat → Int32} (nn : G.2.1 ≤ nw) (hnl : nw ≠ la) (hw : w < 2147483648) (hnm : n + more ≤ 6)
    (cont : ∀ h : qH, h m0 = some (mdCell 0 sch sa sz nw la 1 sh rcm (nI c) bf ps pp wr) → h la = some (rwCell A) → h sh = some (mshCell H) → h nw = some (rwCell (mFw u (mFil A n more w) 0)) → (∀ b : Nat, b ≠ nw → h b = h0 b) → QP G M_X4_free qTr Z 141 [some (.ref m0), some (.int (nI n)), some (.int ways), some (.int (nI more)), some (.int (nI w)), some (.int (nI (mRst n more w 0))), some (.int (-1)), none] [] h 0 0) : ∀ (m : Nat) (h : qH), m ≤ 6 → h m0 = some (mdCell 0 sch sa sz nw la 1 sh rcm (nI c) bf ps pp wr) → h la = some (rwCell A) → h sh = some (mshCell H) → h nw = some (rwCell (mFw u (mFil A n more w) m)) → (∀ b : Nat, b ≠ nw → h b = h0 b) → QP G M_X4_free qTr Z 47 [some (.ref m0), some (.int (nI n)), some (.int ways), some (.int (nI more)), some (.int (nI w)), some (.int (nI (mRst n more w m))), some (.int (kI m)), none] [] h 0 0 := by
  intro m
  induction m with
  | zero =>
    intro h h1 gm gl gh gw hfr
    refine QP.locsE (L1 := [some (.ref m0), some (.int (nI n)), some (.int ways), some (.int (nI more)), some (.int (nI w)), some (.int (nI (mRst n more w 0))), some (.int (-1)), none]) rfl ?_
    refine qp_iload dX4_free_47 rfl ?_
    refine qp_if_lt 141 dX4_free_49 (by decide) (fun c_49 => ?_) (fun c_49 => absurd (by decide) c_49)
    exact cont h gm gl gh gw hfr
  | succ k ih =>
    intro h h1 gm gl gh gw hfr
    have hrs : mRst n more w (k + 1) < 2 ^ 31 := Nat.lt_of_le_of_lt (mRst_le n more w (k + 1)) hw
    refine QP.locsE (L1 := [some (.ref m0), some (.int (nI n)), some (.int ways), some (.int (nI more)), some (.int (nI w)), some (.int (nI (mRst n more w (k + 1)))), some (.int (nI k)), none]) rfl ?_
    refine qp_iload dX4_free_47 rfl ?_
    refine qp_if_lt 141 dX4_free_49 (by decide) (fun c_49 => absurd c_49 (nI_pos (by omega))) (fun c_49 => ?_)
    refine qp_iload dX4_free_52 rfl ?_
    refine qp_iload_n dX4_free_54 rfl ?_
    refine qp_icmp_lt 70 dX4_free_55 (by decide) (fun c_55 => ?_) (fun c_55 => ?_)
    · have hk1 : k < n := Nat.not_le.mp fun q => absurd ((nI_leI (by omega) (by omega)).mpr q) (i32_nle.mpr c_55)
      refine qp_iconst (v := 0) dX4_free_70 (by decide) ?_
      refine qp_istore dX4_free_71 (by decide) ?_
      refine QP.locsE (L1 := [some (.ref m0), some (.int (nI n)), some (.int (ways)), some (.int (nI more)), some (.int (nI w)), some (.int (nI (mRst n more w (k + 1)))), some (.int (nI k)), some (.int (0))]) rfl ?_
      refine qp_aload_n dX4_free_73 rfl ?_
      refine qp_getf dX4_free_74 fX4_13 gm rfl ?_
      refine qp_bipush (v := 17) dX4_free_77 (by decide) ?_
      refine qp_iload dX4_free_79 rfl ?_
      refine qp_iadd dX4_free_81 ?_
      refine QP.topI (y := nI (17 + k)) (nI_add 17 k) ?_
      refine qp_iload dX4_free_82 rfl ?_
      refine qp_iload_n dX4_free_84 rfl ?_
      refine qp_icmp_ge 101 dX4_free_85 (by decide) (fun c_85 => absurd c_85 (fun q => absurd ((nI_leI (by omega) (by omega)).mp q) (by omega))) (fun c_85 => ?_)
      refine qp_aload_n dX4_free_88 rfl ?_
      refine qp_getf dX4_free_89 fX4_17 gm rfl ?_
      refine qp_bipush (v := 17) dX4_free_92 (by decide) ?_
      refine qp_iload dX4_free_94 rfl ?_
      refine qp_iadd dX4_free_96 ?_
      refine QP.topI (y := nI (17 + k)) (nI_add 17 k) ?_
      refine qp_ialdN (17 + k) dX4_free_97 gl rfl (by omega) (by decide) ?_
      refine qp_goto 117 dX4_free_98 (by decide) ?_
      refine qk_iast (17 + k) dX4_free_117 gw nn rfl (by omega) (by decide) (fun h1 g2 o3 => ?_)
      have g4 : h1 m0 = some (.inr (5, [.int (0), .int (sch), .ref sa, .int (sz), .ref nw, .ref la, .int (1), .ref sh, .ref rcm, .int (nI c), .ref bf, .int (ps), .int (pp), .int (wr)])) := (o3 _ (ne_of_cells gm gw (by simp))).trans gm
      have g5 : h1 la = some (.inl (0, 40, .inl (A))) := (o3 _ (Ne.symm hnl)).trans gl
      have g6 : h1 sh = some (.inl (0, 2400, .inl (H))) := (o3 _ (ne_of_cells gh gw (by simp))).trans gh
      have g2 : h1 nw = some (.inl (0, 40, .inl (upd (mFw u (mFil A n more w) (k + 1)) (17 + k) (A (17 + k))))) := g2
      rw [mFw_s (by omega) (mFil_lo (by omega))] at g2
      refine qp_iload dX4_free_118 rfl ?_
      refine qp_if_eq 131 dX4_free_120 (by decide) (fun c_120 => ?_) (fun c_120 => absurd rfl c_120)
      refine qp_iload dX4_free_131 rfl ?_
      refine qp_istore dX4_free_133 (by decide) ?_
      refine QP.locsE (L1 := [some (.ref m0), some (.int (nI n)), some (.int (ways)), some (.int (nI more)), some (.int (nI w)), some (.int (nI (mRst n more w (k + 1)))), some (.int (nI k)), some (.int (0))]) rfl ?_
      refine QP.locsE (L1 := [some (.ref m0), some (.int (nI n)), some (.int (ways)), some (.int (nI more)), some (.int (nI w)), some (.int (nI (mRst n more w k))), some (.int (nI k)), some (.int (0))]) (by rw [mRst_lo (by omega)]) ?_
      refine qp_iinc (v := kI k) dX4_free_135 rfl (by decide) (kI_dec k) ?_
      refine QP.locsE (L1 := [some (.ref m0), some (.int (nI n)), some (.int (ways)), some (.int (nI more)), some (.int (nI w)), some (.int (nI (mRst n more w k))), some (.int (kI k)), some (.int (0))]) rfl ?_
      refine qp_goto 47 dX4_free_138 (by decide) ?_
      refine QP.forget 7 ?_
      exact ih h1 (by omega) g4 g5 g6 g2 (fun b hb => (o3 b hb).trans (hfr b hb))
    · have hk1 : n ≤ k := (nI_leI (by omega) (by omega)).mp (i32_nlt.mp c_55)
      refine qp_iload dX4_free_58 rfl ?_
      refine qp_iload_n dX4_free_60 rfl ?_
      refine qp_iload_n dX4_free_61 rfl ?_
      refine qp_iadd dX4_free_62 ?_
      refine QP.topI (y := nI (n + more)) (nI_add _ _) ?_
      refine qp_icmp_ge 70 dX4_free_63 (by decide) (fun c_63 => ?_) (fun c_63 => ?_)
      · have hk2 : n + more ≤ k := (nI_leI (by omega) (by omega)).mp c_63
        refine qp_iconst (v := 0) dX4_free_70 (by decide) ?_
        refine qp_istore dX4_free_71 (by decide) ?_
        refine QP.locsE (L1 := [some (.ref m0), some (.int (nI n)), some (.int (ways)), some (.int (nI more)), some (.int (nI w)), some (.int (nI (mRst n more w (k + 1)))), some (.int (nI k)), some (.int (0))]) rfl ?_
        refine qp_aload_n dX4_free_73 rfl ?_
        refine qp_getf dX4_free_74 fX4_13 gm rfl ?_
        refine qp_bipush (v := 17) dX4_free_77 (by decide) ?_
        refine qp_iload dX4_free_79 rfl ?_
        refine qp_iadd dX4_free_81 ?_
        refine QP.topI (y := nI (17 + k)) (nI_add 17 k) ?_
        refine qp_iload dX4_free_82 rfl ?_
        refine qp_iload_n dX4_free_84 rfl ?_
        refine qp_icmp_ge 101 dX4_free_85 (by decide) (fun c_85 => ?_) (fun c_85 => absurd ((nI_leI (by omega) (by omega)).mpr hk1) c_85)
        refine qp_iload dX4_free_101 rfl ?_
        refine qp_if_eq 116 dX4_free_103 (by decide) (fun c_103 => ?_) (fun c_103 => absurd rfl c_103)
        refine qp_iconst (v := 0) dX4_free_116 (by decide) ?_
        refine qk_iast (17 + k) dX4_free_117 gw nn rfl (by omega) (by decide) (fun h7 g8 o9 => ?_)
        have g10 : h7 m0 = some (.inr (5, [.int (0), .int (sch), .ref sa, .int (sz), .ref nw, .ref la, .int (1), .ref sh, .ref rcm, .int (nI c), .ref bf, .int (ps), .int (pp), .int (wr)])) := (o9 _ (ne_of_cells gm gw (by simp))).trans gm
        have g11 : h7 la = some (.inl (0, 40, .inl (A))) := (o9 _ (Ne.symm hnl)).trans gl
        have g12 : h7 sh = some (.inl (0, 2400, .inl (H))) := (o9 _ (ne_of_cells gh gw (by simp))).trans gh
        have g8 : h7 nw = some (.inl (0, 40, .inl (upd (mFw u (mFil A n more w) (k + 1)) (17 + k) (0)))) := g8
        rw [mFw_s (by omega) (mFil_hi (by omega))] at g8
        refine qp_iload dX4_free_118 rfl ?_
        refine qp_if_eq 131 dX4_free_120 (by decide) (fun c_120 => ?_) (fun c_120 => absurd rfl c_120)
        refine qp_iload dX4_free_131 rfl ?_
        refine qp_istore dX4_free_133 (by decide) ?_
        refine QP.locsE (L1 := [some (.ref m0), some (.int (nI n)), some (.int (ways)), some (.int (nI more)), some (.int (nI w)), some (.int (nI (mRst n more w (k + 1)))), some (.int (nI k)), some (.int (0))]) rfl ?_
        refine QP.locsE (L1 := [some (.ref m0), some (.int (nI n)), some (.int (ways)), some (.int (nI more)), some (.int (nI w)), some (.int (nI (mRst n more w k))), some (.int (nI k)), some (.int (0))]) (by rw [mRst_hi (by omega)]) ?_
        refine qp_iinc (v := kI k) dX4_free_135 rfl (by decide) (kI_dec k) ?_
        refine QP.locsE (L1 := [some (.ref m0), some (.int (nI n)), some (.int (ways)), some (.int (nI more)), some (.int (nI w)), some (.int (nI (mRst n more w k))), some (.int (kI k)), some (.int (0))]) rfl ?_
        refine qp_goto 47 dX4_free_138 (by decide) ?_
        refine QP.forget 7 ?_
        exact ih h7 (by omega) g10 g11 g12 g8 (fun b hb => (o9 b hb).trans (hfr b hb))
      · have hk2 : k < n + more := Nat.not_le.mp fun q => c_63 ((nI_leI (by omega) (by omega)).mpr q)
        refine qp_iconst (v := 1) dX4_free_66 (by decide) ?_
        refine qp_goto 71 dX4_free_67 (by decide) ?_
        refine qp_istore dX4_free_71 (by decide) ?_
        refine QP.locsE (L1 := [some (.ref m0), some (.int (nI n)), some (.int (ways)), some (.int (nI more)), some (.int (nI w)), some (.int (nI (mRst n more w (k + 1)))), some (.int (nI k)), some (.int (1))]) rfl ?_
        refine qp_aload_n dX4_free_73 rfl ?_
        refine qp_getf dX4_free_74 fX4_13 gm rfl ?_
        refine qp_bipush (v := 17) dX4_free_77 (by decide) ?_
        refine qp_iload dX4_free_79 rfl ?_
        refine qp_iadd dX4_free_81 ?_
        refine QP.topI (y := nI (17 + k)) (nI_add 17 k) ?_
        refine qp_iload dX4_free_82 rfl ?_
        refine qp_iload_n dX4_free_84 rfl ?_
        refine qp_icmp_ge 101 dX4_free_85 (by decide) (fun c_85 => ?_) (fun c_85 => absurd ((nI_leI (by omega) (by omega)).mpr hk1) c_85)
        refine qp_iload dX4_free_101 rfl ?_
        refine qp_if_eq 116 dX4_free_103 (by decide) (fun c_103 => absurd c_103 (by decide)) (fun c_103 => ?_)
        refine qp_iload dX4_free_106 rfl ?_
        refine qp_bipush (v := 9) dX4_free_108 (by decide) ?_
        refine qp_irem dX4_free_110 (by decide) ?_
        refine QP.topI (y := nI (mRst n more w (k + 1) % 9)) (pk_rem hrs (by decide) (by decide)) ?_
        refine qp_iconst (v := 2) dX4_free_111 (by decide) ?_
        refine qp_iadd dX4_free_112 ?_
        refine QP.topI (y := nI (mRst n more w (k + 1) % 9 + 2)) (nI_add _ 2) ?_
        refine qp_goto 117 dX4_free_113 (by decide) ?_
        refine qk_iast (17 + k) dX4_free_117 gw nn rfl (by omega) (by decide) (fun h13 g14 o15 => ?_)
        have g16 : h13 m0 = some (.inr (5, [.int (0), .int (sch), .ref sa, .int (sz), .ref nw, .ref la, .int (1), .ref sh, .ref rcm, .int (nI c), .ref bf, .int (ps), .int (pp), .int (wr)])) := (o15 _ (ne_of_cells gm gw (by simp))).trans gm
        have g17 : h13 la = some (.inl (0, 40, .inl (A))) := (o15 _ (Ne.symm hnl)).trans gl
        have g18 : h13 sh = some (.inl (0, 2400, .inl (H))) := (o15 _ (ne_of_cells gh gw (by simp))).trans gh
        have g14 : h13 nw = some (.inl (0, 40, .inl (upd (mFw u (mFil A n more w) (k + 1)) (17 + k) (nI (mRst n more w (k + 1) % 9 + 2))))) := g14
        rw [mFw_s (by omega) (mFil_in (by omega) (by omega))] at g14
        refine qp_iload dX4_free_118 rfl ?_
        refine qp_if_eq 131 dX4_free_120 (by decide) (fun c_120 => absurd c_120 (by decide)) (fun c_120 => ?_)
        refine qp_iload dX4_free_123 rfl ?_
        refine qp_bipush (v := 9) dX4_free_125 (by decide) ?_
        refine qp_idiv dX4_free_127 (by decide) ?_
        refine QP.topI (y := nI (mRst n more w k)) ((pk_div (d := 9) hrs (by decide) (by decide)).trans (congrArg nI (mRst_in hk1 hk2))) ?_
        refine qp_goto 133 dX4_free_128 (by decide) ?_
        refine qp_istore dX4_free_133 (by decide) ?_
        refine QP.locsE (L1 := [some (.ref m0), some (.int (nI n)), some (.int (ways)), some (.int (nI more)), some (.int (nI w)), some (.int (nI (mRst n more w k))), some (.int (nI k)), some (.int (1))]) rfl ?_
        refine qp_iinc (v := kI k) dX4_free_135 rfl (by decide) (kI_dec k) ?_
        refine QP.locsE (L1 := [some (.ref m0), some (.int (nI n)), some (.int (ways)), some (.int (nI more)), some (.int (nI w)), some (.int (nI (mRst n more w k))), some (.int (kI k)), some (.int (1))]) rfl ?_
        refine qp_goto 47 dX4_free_138 (by decide) ?_
        refine QP.forget 7 ?_
        exact ih h13 (by omega) g16 g17 g18 g14 (fun b hb => (o15 b hb).trans (hfr b hb))
set_option maxHeartbeats 4000000 in
set_option maxRecDepth 100000 in
theorem lm_freeV {G : qG} {h h0 : qH} {sch ps pp wr sz : Int32} {m0 sa nw la sh rcm bf c n more : Nat} {A : Nat → Int32} {ways rs r : Int32} {w : Nat} {u : Nat → Int32} (hnm : n + more ≤ 6) (hr : r = mCut (mFil A n more w) (n + more)) (gm : h m0 = some (mdCell 0 sch sa sz nw la 1 sh rcm (nI c) bf ps pp wr)) (gw : h nw = some (rwCell (mFw u (mFil A n more w) 0))) (hfr : ∀ b : Nat, b ≠ m0 → b ≠ nw → h b = h0 b) : ∀ (t k : Nat), 6 < k + t → k ≤ n + more → QP G M_X4_free qTr (qMZ G M_X4_free (qI (fun v h1 => v = r ∧ h1 m0 = some (mdCell 0 sch sa sz nw la 1 sh rcm (nI c) bf ps pp wr) ∧ (∃ w1 : Nat → Int32, h1 nw = some (rwCell w1)) ∧ ∀ b : Nat, b ≠ m0 → b ≠ nw → h1 b = h0 b))) 154 [some (.ref m0), some (.int (nI n)), some (.int ways), some (.int (nI more)), some (.int (nI w)), some (.int rs), some (.int (mCut (mFil A n more w) k)), some (.int (nI k))] [] h 0 0 := by
  intro t
  induction t with
  | zero =>
    intro k h1 h2
    omega
  | succ t ih =>
    intro k h1 h2
    refine qp_iload dX4_free_154 rfl ?_
    refine qp_iload_n dX4_free_156 rfl ?_
    refine qp_iload_n dX4_free_157 rfl ?_
    refine qp_iadd dX4_free_158 ?_
    refine QP.topI (y := nI (n + more)) (nI_add _ _) ?_
    refine qp_icmp_ge 188 dX4_free_159 (by decide) (fun c_159 => ?_) (fun c_159 => ?_)
    · have hk : k = n + more := by have := (nI_leI (by omega) (by omega)).mp c_159; omega
      refine qp_iload dX4_free_188 rfl ?_
      exact qr_i dX4_free_190 rfl rfl rfl ⟨by rw [hr, hk], gm, ⟨_, gw⟩, hfr⟩
    · have hk : k < n + more := Nat.not_le.mp fun q => c_159 ((nI_leI (by omega) (by omega)).mpr q)
      refine qp_bipush (v := 10) dX4_free_162 (by decide) ?_
      refine qp_iload dX4_free_164 rfl ?_
      refine qp_imul dX4_free_166 ?_
      refine qp_aload_n dX4_free_167 rfl ?_
      refine qp_getf dX4_free_168 fX4_13 gm rfl ?_
      refine qp_bipush (v := 17) dX4_free_171 (by decide) ?_
      refine qp_iload dX4_free_173 rfl ?_
      refine qp_iadd dX4_free_175 ?_
      refine QP.topI (y := nI (17 + k)) (nI_add 17 k) ?_
      refine qp_ialdN (17 + k) dX4_free_176 gw rfl (by omega) (by decide) ?_
      refine QP.topI (y := mFil A n more w k) (by simp only [mFw]; rw [if_pos (by omega), show 17 + k - 17 = k by omega]) ?_
      refine qp_iadd dX4_free_177 ?_
      refine qp_iconst (v := 1) dX4_free_178 (by decide) ?_
      refine qp_isub dX4_free_179 ?_
      refine QP.topI (y := mCut (mFil A n more w) (k + 1)) rfl ?_
      refine qp_istore dX4_free_180 (by decide) ?_
      refine QP.locsE (L1 := [some (.ref m0), some (.int (nI n)), some (.int (ways)), some (.int (nI more)), some (.int (nI w)), some (.int (rs)), some (.int (mCut (mFil A n more w) (k + 1))), some (.int (nI k))]) rfl ?_
      refine qp_iinc (v := nI (k + 1)) dX4_free_182 rfl (by decide) (nI_1 k) ?_
      refine QP.locsE (L1 := [some (.ref m0), some (.int (nI n)), some (.int (ways)), some (.int (nI more)), some (.int (nI w)), some (.int (rs)), some (.int (mCut (mFil A n more w) (k + 1))), some (.int (nI (k + 1)))]) rfl ?_
      refine qp_goto 154 dX4_free_185 (by decide) ?_
      exact ih (k + 1) (by omega) (by omega)
set_option maxHeartbeats 4000000 in
set_option maxRecDepth 100000 in
theorem lm_freeW {G : qG} {h0 : qH} {sch ps pp wr sz : Int32} {m0 sa nw la sh rcm bf c n more : Nat} {A H : Nat → Int32} {r rest : Int32} (nn : G.2.1 ≤ nw) (hnl : nw ≠ la) (hc : c ≤ 60) (hnm : n + more ≤ 6)
    (cont : ∀ (h : qH) (w : Nat) (u : Nat → Int32), r = rest → h m0 = some (mdCell 0 sch sa sz nw la 1 sh rcm (nI c) bf ps pp wr) → h la = some (rwCell A) → h sh = some (mshCell H) → h nw = some (rwCell u) → (∀ b : Nat, b ≠ m0 → b ≠ nw → h b = h0 b) → QP G M_X4_free qTr (qMZ G M_X4_free (qI (fun v h1 => v = r ∧ h1 m0 = some (mdCell 0 sch sa sz nw la 1 sh rcm (nI c) bf ps pp wr) ∧ (∃ w1 : Nat → Int32, h1 nw = some (rwCell w1)) ∧ ∀ b : Nat, b ≠ m0 → b ≠ nw → h1 b = h0 b))) 197 [some (.ref m0), some (.int (nI n)), some (.int (nI (9 ^ more))), some (.int (nI more)), some (.int (nI w)), none, none, none] [] h 0 0) : ∀ (t w : Nat) (h : qH) (u : Nat → Int32), 9 ^ more < w + t → w ≤ 9 ^ more → r = mWay A H c n more (9 ^ more - w) w rest → h m0 = some (mdCell 0 sch sa sz nw la 1 sh rcm (nI c) bf ps pp wr) → h la = some (rwCell A) → h sh = some (mshCell H) → h nw = some (rwCell u) → (∀ b : Nat, b ≠ m0 → b ≠ nw → h b = h0 b) → QP G M_X4_free qTr (qMZ G M_X4_free (qI (fun v h1 => v = r ∧ h1 m0 = some (mdCell 0 sch sa sz nw la 1 sh rcm (nI c) bf ps pp wr) ∧ (∃ w1 : Nat → Int32, h1 nw = some (rwCell w1)) ∧ ∀ b : Nat, b ≠ m0 → b ≠ nw → h1 b = h0 b))) 34 [some (.ref m0), some (.int (nI n)), some (.int (nI (9 ^ more))), some (.int (nI more)), some (.int (nI w)), none, none, none] [] h 0 0 := by
  intro t
  have h9 := pow9 (m := more) (by omega)
  induction t with
  | zero =>
    intro w h u h1 h2
    omega
  | succ t ih =>
    intro w h u h1 h2 hr gm gl gh gw hfr
    refine qp_iload dX4_free_34 rfl ?_
    refine qp_iload_n dX4_free_36 rfl ?_
    refine qp_icmp_ge 197 dX4_free_37 (by decide) (fun c_37 => ?_) (fun c_37 => ?_)
    · have hk : 9 ^ more ≤ w := (nI_leI (by omega) (by omega)).mp c_37
      exact cont h w u (by rw [hr, show 9 ^ more - w = 0 by omega]; rfl) gm gl gh gw hfr
    · have hk : w < 9 ^ more := Nat.not_le.mp fun q => c_37 ((nI_leI (by omega) (by omega)).mpr q)
      refine qp_iload dX4_free_40 rfl ?_
      refine qp_istore dX4_free_42 (by decide) ?_
      refine QP.locsE (L1 := [some (.ref m0), some (.int (nI n)), some (.int (nI (9 ^ more))), some (.int (nI more)), some (.int (nI w)), some (.int (nI w)), none, none]) rfl ?_
      refine qp_iconst (v := 5) dX4_free_44 (by decide) ?_
      refine qp_istore dX4_free_45 (by decide) ?_
      refine QP.locsE (L1 := [some (.ref m0), some (.int (nI n)), some (.int (nI (9 ^ more))), some (.int (nI more)), some (.int (nI w)), some (.int (nI w)), some (.int (5)), none]) rfl ?_
      refine QP.locsE (L1 := [some (.ref m0), some (.int (nI n)), some (.int (nI (9 ^ more))), some (.int (nI more)), some (.int (nI w)), some (.int (nI (mRst n more w 6))), some (.int (kI 6)), none]) (by rw [mRst_6 hnm]; rfl) ?_
      refine lm_freeF (h0 := h) (u := u) nn hnl (by omega) hnm (fun h3 gm3 gl3 gh3 gw3 hfr3 => ?_) 6 h (by omega) gm gl gh (by rw [mFw_6]; exact gw) (fun _ _ => rfl)
      have g1 : h3 m0 = some (.inr (5, [.int (0), .int (sch), .ref sa, .int (sz), .ref nw, .ref la, .int (1), .ref sh, .ref rcm, .int (nI c), .ref bf, .int (ps), .int (pp), .int (wr)])) := (hfr3 _ (ne_of_cells gm gw (by simp))).trans gm
      have g2 : h3 la = some (.inl (0, 40, .inl (A))) := (hfr3 _ (Ne.symm hnl)).trans gl
      have g3 : h3 sh = some (.inl (0, 2400, .inl (H))) := (hfr3 _ (ne_of_cells gh gw (by simp))).trans gh
      have gw3 : h3 nw = some (.inl (0, 40, .inl (mFw u (mFil A n more w) 0))) := gw3
      refine qp_aload_n dX4_free_141 rfl ?_
      refine qv_Ip dX4_free_142 mX4_128 (m_isTaken G hc gm3 gl3 gh3 gw3) gm3 rfl rfl rfl rfl rfl rfl rfl ?_
      refine QP.topI (y := bI (mTkn A H c n more w)) (by rw [mTkn_f]) ?_
      refine qp_if_ne 191 dX4_free_145 (by decide) (fun c_145 => ?_) (fun c_145 => ?_)
      · refine qp_iinc (v := nI (w + 1)) dX4_free_191 rfl (by decide) (nI_1 w) ?_
        refine QP.locsE (L1 := [some (.ref m0), some (.int (nI n)), some (.int (nI (9 ^ more))), some (.int (nI more)), some (.int (nI (w + 1))), some (.int (nI (mRst n more w 0))), some (.int (-1)), none]) rfl ?_
        refine qp_goto 34 dX4_free_194 (by decide) ?_
        refine QP.forget 5 ?_
        refine QP.forget 6 ?_
        refine ih (w + 1) h3 _ (by omega) (by omega) ?_ gm3 gl3 gh3 gw3 (fun b hb1 hb2 => (hfr3 b hb2).trans (hfr b hb1 hb2))
        rw [hr, mWay, mWay, show 9 ^ more - w = (9 ^ more - (w + 1)) + 1 by omega, mWays, if_pos (bI_n0.mp c_145)]
      · refine qp_iconst (v := 0) dX4_free_148 (by decide) ?_
        refine qp_istore dX4_free_149 (by decide) ?_
        refine QP.locsE (L1 := [some (.ref m0), some (.int (nI n)), some (.int (nI (9 ^ more))), some (.int (nI more)), some (.int (nI w)), some (.int (nI (mRst n more w 0))), some (.int (0)), none]) rfl ?_
        refine qp_iconst (v := 0) dX4_free_151 (by decide) ?_
        refine qp_istore dX4_free_152 (by decide) ?_
        refine QP.locsE (L1 := [some (.ref m0), some (.int (nI n)), some (.int (nI (9 ^ more))), some (.int (nI more)), some (.int (nI w)), some (.int (nI (mRst n more w 0))), some (.int (0)), some (.int (0))]) rfl ?_
        refine QP.locsE (L1 := [some (.ref m0), some (.int (nI n)), some (.int (nI (9 ^ more))), some (.int (nI more)), some (.int (nI w)), some (.int (nI (mRst n more w 0))), some (.int (mCut (mFil A n more w) 0)), some (.int (nI 0))]) rfl ?_
        refine lm_freeV hnm (hr.trans ?_) gm3 gw3 (fun b hb1 hb2 => (hfr3 b hb2).trans (hfr b hb1 hb2)) 7 0 (by omega) (by omega)
        rw [mWay, show 9 ^ more - w = (9 ^ more - (w + 1)) + 1 by omega, mWays, if_neg (by rw [bI_0.mp c_145]; exact Bool.false_ne_true)]
set_option maxHeartbeats 4000000 in
set_option maxRecDepth 100000 in
theorem lm_freeO {G : qG} {h0 : qH} {sch ps pp wr sz : Int32} {m0 sa nw la sh rcm bf c n : Nat} {A H : Nat → Int32} {r : Int32} (nn : G.2.1 ≤ nw) (hnl : nw ≠ la) (hc : c ≤ 60) (hn : n ≤ 6) : ∀ (t more : Nat) (h : qH) (u : Nat → Int32), 7 < n + more + t → n + more ≤ 7 → r = mFree A H c n (7 - n - more) more → h m0 = some (mdCell 0 sch sa sz nw la 1 sh rcm (nI c) bf ps pp wr) → h la = some (rwCell A) → h sh = some (mshCell H) → h nw = some (rwCell u) → (∀ b : Nat, b ≠ m0 → b ≠ nw → h b = h0 b) → QP G M_X4_free qTr (qMZ G M_X4_free (qI (fun v h1 => v = r ∧ h1 m0 = some (mdCell 0 sch sa sz nw la 1 sh rcm (nI c) bf ps pp wr) ∧ (∃ w1 : Nat → Int32, h1 nw = some (rwCell w1)) ∧ ∀ b : Nat, b ≠ m0 → b ≠ nw → h1 b = h0 b))) 23 [some (.ref m0), some (.int (nI n)), some (.int (nI (9 ^ more))), some (.int (nI more)), none, none, none, none] [] h 0 0 := by
  intro t
  induction t with
  | zero =>
    intro more h u h1 h2
    omega
  | succ t ih =>
    intro more h u h1 h2 hr gm gl gh gw hfr
    refine qp_iload_n dX4_free_23 rfl ?_
    refine qp_iload_n dX4_free_24 rfl ?_
    refine qp_iadd dX4_free_25 ?_
    refine QP.topI (y := nI (n + more)) (nI_add _ _) ?_
    refine qp_bipush (v := 6) dX4_free_26 (by decide) ?_
    refine qp_icmp_gt 208 dX4_free_28 (by decide) (fun c_28 => ?_) (fun c_28 => ?_)
    · have hk : 6 < n + more := Nat.not_le.mp fun q => absurd ((nI_leI (b := 6) (by omega) (by decide)).mpr q) (i32_nle.mpr c_28)
      refine qp_iconst (v := 0) dX4_free_208 (by decide) ?_
      exact qr_i dX4_free_209 rfl rfl rfl ⟨by rw [hr, show 7 - n - more = 0 by omega]; rfl, gm, ⟨_, gw⟩, hfr⟩
    · have hk : n + more ≤ 6 := (nI_leI (b := 6) (by omega) (by decide)).mp (i32_nlt.mp c_28)
      refine qp_iconst (v := 0) dX4_free_31 (by decide) ?_
      refine qp_istore dX4_free_32 (by decide) ?_
      refine QP.locsE (L1 := [some (.ref m0), some (.int (nI n)), some (.int (nI (9 ^ more))), some (.int (nI more)), some (.int (0)), none, none, none]) rfl ?_
      refine QP.locsE (L1 := [some (.ref m0), some (.int (nI n)), some (.int (nI (9 ^ more))), some (.int (nI more)), some (.int (nI 0)), none, none, none]) rfl ?_
      refine lm_freeW (rest := mFree A H c n (6 - n - more) (more + 1)) nn hnl hc hk (fun h3 w3 u3 hr3 gm3 gl3 gh3 gw3 hfr3 => ?_) (9 ^ more + 1) 0 h u (by omega) (Nat.zero_le _) (by rw [hr, show 7 - n - more = (6 - n - more) + 1 by omega]; rfl) gm gl gh gw hfr
      refine qp_bipush (v := 9) dX4_free_197 (by decide) ?_
      refine qp_iload_n dX4_free_199 rfl ?_
      refine qp_imul dX4_free_200 ?_
      refine QP.topI (y := nI (9 ^ (more + 1))) (by rw [Nat.pow_succ, Nat.mul_comm]; exact pk_mul 9 _) ?_
      refine qp_istore_n dX4_free_201 (by decide) ?_
      refine QP.locsE (L1 := [some (.ref m0), some (.int (nI n)), some (.int (nI (9 ^ (more + 1)))), some (.int (nI more)), some (.int (nI w3)), none, none, none]) rfl ?_
      refine qp_iinc (v := nI (more + 1)) dX4_free_202 rfl (by decide) (nI_1 more) ?_
      refine QP.locsE (L1 := [some (.ref m0), some (.int (nI n)), some (.int (nI (9 ^ (more + 1)))), some (.int (nI (more + 1))), some (.int (nI w3)), none, none, none]) rfl ?_
      refine qp_goto 23 dX4_free_205 (by decide) ?_
      refine QP.forget 4 ?_
      exact ih (more + 1) h3 u3 (by omega) (by omega) (by rw [hr3, show 6 - n - more = 7 - n - (more + 1) by omega]) gm3 gl3 gh3 gw3 hfr3
set_option maxHeartbeats 4000000 in
set_option maxRecDepth 100000 in
theorem m_free (G : qG) {h : qH} {thr : Int32} {sch ps pp wr sz : Int32} {m0 sa nw la sh rcm bf c n : Nat} {A H : Nat → Int32} {u : Nat → Int32} (nm : G.2.1 ≤ m0) (nn : G.2.1 ≤ nw) (hnl : nw ≠ la) (hc : c ≤ 60) (hn : runP pos32 A 6 17 = n) (hn6 : n ≤ 6) (gm : h m0 = some (mdCell thr sch sa sz nw la 1 sh rcm (nI c) bf ps pp wr)) (gl : h la = some (rwCell A)) (gh : h sh = some (mshCell H)) (gw : h nw = some (rwCell u)) : qMet G M_X4_free [.ref m0] h (qI (fun v h1 => v = mFree A H c n (7 - n) 0 ∧ h1 m0 = some (mdCell 0 sch sa sz nw la 1 sh rcm (nI c) bf ps pp wr) ∧ (∃ w1 : Nat → Int32, h1 nw = some (rwCell w1)) ∧ ∀ b : Nat, b ≠ m0 → b ≠ nw → h1 b = h b)) := by
  refine qMet.of (by decide) (Nat.le_of_ble_eq_true rfl) rfl ?_
  refine QP.locsE (L1 := [some (.ref m0), none, none, none, none, none, none, none]) rfl ?_
  refine qp_aload_n dX4_free_0 rfl ?_
  refine qp_iconst (v := 0) dX4_free_1 (by decide) ?_
  refine qk_put dX4_free_2 fX4_33 gm nm rfl rfl rfl rfl rfl (fun h1 g2 o3 => ?_)
  have g4 : h1 la = some (.inl (0, 40, .inl (A))) := (o3 _ (ne_of_cells gl gm (by simp))).trans gl
  have g5 : h1 sh = some (.inl (0, 2400, .inl (H))) := (o3 _ (ne_of_cells gh gm (by simp))).trans gh
  have g6 : h1 nw = some (.inl (0, 40, .inl (u))) := (o3 _ (ne_of_cells gw gm (by simp))).trans gw
  have g2 : h1 m0 = some (.inr (5, [.int (0), .int (sch), .ref sa, .int (sz), .ref nw, .ref la, .int (1), .ref sh, .ref rcm, .int (nI c), .ref bf, .int (ps), .int (pp), .int (wr)])) := g2
  refine qp_aload_n dX4_free_5 rfl ?_
  refine qp_getf dX4_free_6 fX4_91 g2 rfl ?_
  refine qp_if_ne 14 dX4_free_9 (by decide) (fun c_9 => ?_) (fun c_9 => absurd c_9 (by decide))
  refine qp_aload_n dX4_free_14 rfl ?_
  refine qv_Ip dX4_free_15 mX4_111 (m_cutterSize G g2 g4) g2 rfl rfl rfl rfl rfl rfl rfl ?_
  refine QP.topI (y := nI n) (by rw [hn]) ?_
  refine qp_istore_n dX4_free_18 (by decide) ?_
  refine QP.locsE (L1 := [some (.ref m0), some (.int (nI n)), none, none, none, none, none, none]) rfl ?_
  refine qp_iconst (v := 1) dX4_free_19 (by decide) ?_
  refine qp_istore_n dX4_free_20 (by decide) ?_
  refine QP.locsE (L1 := [some (.ref m0), some (.int (nI n)), some (.int (1)), none, none, none, none, none]) rfl ?_
  refine qp_iconst (v := 0) dX4_free_21 (by decide) ?_
  refine qp_istore_n dX4_free_22 (by decide) ?_
  refine QP.locsE (L1 := [some (.ref m0), some (.int (nI n)), some (.int (1)), some (.int (0)), none, none, none, none]) rfl ?_
  refine QP.locsE (L1 := [some (.ref m0), some (.int (nI n)), some (.int (nI (9 ^ 0))), some (.int (nI 0)), none, none, none, none]) rfl ?_
  exact lm_freeO nn hnl hc hn6 8 0 h1 u (by omega) (by omega) rfl g2 g4 g5 g6 (fun b hb1 hb2 => (o3 b hb1))
set_option maxHeartbeats 4000000 in
set_option maxRecDepth 100000 in
theorem m_freeN (G : qG) {h : qH} {thr sch cnt ps pp wr sz : Int32} {m0 sa nw la sh rcm bf : Nat} (nm : G.2.1 ≤ m0) (gm : h m0 = some (mdCell thr sch sa sz nw la 0 sh rcm cnt bf ps pp wr)) : qMet G M_X4_free [.ref m0] h (qI (fun v h1 => v = 0 ∧ h1 m0 = some (mdCell 0 sch sa sz nw la 0 sh rcm cnt bf ps pp wr) ∧ ∀ b : Nat, b ≠ m0 → h1 b = h b)) := by
  refine qMet.of (by decide) (Nat.le_of_ble_eq_true rfl) rfl ?_
  refine QP.locsE (L1 := [some (.ref m0), none, none, none, none, none, none, none]) rfl ?_
  refine qp_aload_n dX4_free_0 rfl ?_
  refine qp_iconst (v := 0) dX4_free_1 (by decide) ?_
  refine qk_put dX4_free_2 fX4_33 gm nm rfl rfl rfl rfl rfl (fun h1 g2 o3 => ?_)
  have g2 : h1 m0 = some (.inr (5, [.int (0), .int (sch), .ref sa, .int (sz), .ref nw, .ref la, .int (0), .ref sh, .ref rcm, .int (cnt), .ref bf, .int (ps), .int (pp), .int (wr)])) := g2
  refine qp_aload_n dX4_free_5 rfl ?_
  refine qp_getf dX4_free_6 fX4_91 g2 rfl ?_
  refine qp_if_ne 14 dX4_free_9 (by decide) (fun c_9 => absurd rfl c_9) (fun c_9 => ?_)
  refine qp_iconst (v := 0) dX4_free_12 (by decide) ?_
  exact qr_i dX4_free_13 rfl rfl rfl ⟨rfl, g2, fun b hb => (o3 b hb)⟩
