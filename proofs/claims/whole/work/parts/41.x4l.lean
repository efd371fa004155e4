def mMix (A w : Nat → Int32) : Nat → Int32 := fun k => if k < 17 then A k else w k
def mIs (X Y : Nat → Int32) : Nat → Bool
  | 0 => true
  | k + 1 => mIs X Y k && decide (X k = Y k)
def mAny (F : Nat → Bool) : Nat → Nat → Bool
  | 0, _ => false
  | t + 1, n => if F n = true then true else mAny F t (n + 1)
set_option maxHeartbeats 4000000 in
set_option maxRecDepth 100000 in
theorem lm_takenI {G : qG} {Z : qZ} {h : qH} {thr sch th ps pp wr sz : Int32} {m0 sa nw la sh rcm bf c : Nat} {A H w : Nat → Int32} {p : Nat} (hp : p < 60) (hc : c ≤ 60) (gm : h m0 = some (mdCell thr sch sa sz nw la th sh rcm (nI c) bf ps pp wr)) (gl : h la = some (rwCell A)) (gh : h sh = some (mshCell H)) (gw : h nw = some (rwCell w)) (cont : QP G M_X4_isTaken qTr Z 75 [some (.ref m0), some (.int (nI p)), some (.int (bI (mIs (mRow H p) (mMix A w) 23))), some (.int (nI 23)), none] [] h 0 0) : ∀ (t k : Nat), 23 < k + t → k ≤ 23 → QP G M_X4_isTaken qTr Z 14 [some (.ref m0), some (.int (nI p)), some (.int (bI (mIs (mRow H p) (mMix A w) k))), some (.int (nI k)), none] [] h 0 0 := by
  intro t
  induction t with
  | zero =>
    intro k h1 h2
    omega
  | succ t ih =>
    intro k h1 h2
    refine qp_iload_n dX4_isTaken_14 rfl ?_
    refine qp_bipush (v := 23) dX4_isTaken_15 (by decide) ?_
    refine qp_icmp_ge 75 dX4_isTaken_17 (by decide) (fun c_17 => ?_) (fun c_17 => ?_)
    · have hk : k = 23 := by have := (nI_leI (a := 23) (by decide) (by omega)).mp c_17; omega
      subst hk
      exact cont
    · have hk : k < 23 := Nat.not_le.mp fun q => c_17 ((nI_leI (a := 23) (by decide) (by omega)).mpr q)
      refine qp_iload_n dX4_isTaken_20 rfl ?_
      refine qp_bipush (v := 17) dX4_isTaken_21 (by decide) ?_
      refine qp_icmp_ge 35 dX4_isTaken_23 (by decide) (fun c_23 => ?_) (fun c_23 => ?_)
      · have hk2 : 17 ≤ k := (nI_leI (a := 17) (by decide) (by omega)).mp c_23
        have hmx : mMix A w k = w k := if_neg (by omega)
        refine qp_aload_n dX4_isTaken_35 rfl ?_
        refine qp_getf dX4_isTaken_36 fX4_13 gm rfl ?_
        refine qp_iload_n dX4_isTaken_39 rfl ?_
        refine qp_ialdN (k) dX4_isTaken_40 gw rfl (by omega) (by decide) ?_
        refine qp_istore dX4_isTaken_41 (by decide) ?_
        refine QP.locsE (L1 := [some (.ref m0), some (.int (nI p)), some (.int (bI (mIs (mRow H p) (mMix A w) k))), some (.int (nI k)), some (.int (w (k)))]) rfl ?_
        refine qp_iload_n dX4_isTaken_43 rfl ?_
        refine qp_if_eq 67 dX4_isTaken_44 (by decide) (fun c_44 => ?_) (fun c_44 => ?_)
        · refine qp_iconst (v := 0) dX4_isTaken_67 (by decide) ?_
          refine qp_istore_n dX4_isTaken_68 (by decide) ?_
          refine QP.locsE (L1 := [some (.ref m0), some (.int (nI p)), some (.int (0)), some (.int (nI k)), some (.int (w (k)))]) rfl ?_
          have hv : bI (mIs (mRow H p) (mMix A w) (k + 1)) = 0 := by rw [mIs, bI_0.mp c_44]; rfl
          refine QP.locsE (L1 := [some (.ref m0), some (.int (nI p)), some (.int (bI (mIs (mRow H p) (mMix A w) (k + 1)))), some (.int (nI k)), some (.int (w (k)))]) (by rw [hv]) ?_
          refine qp_iinc (v := nI (k + 1)) dX4_isTaken_69 rfl (by decide) (nI_1 k) ?_
          refine QP.locsE (L1 := [some (.ref m0), some (.int (nI p)), some (.int (bI (mIs (mRow H p) (mMix A w) (k + 1)))), some (.int (nI (k + 1))), some (.int (w (k)))]) rfl ?_
          refine qp_goto 14 dX4_isTaken_72 (by decide) ?_
          refine QP.forget 4 ?_
          exact ih (k + 1) (by omega) (by omega)
        · refine qp_aload_n dX4_isTaken_47 rfl ?_
          refine qp_getf dX4_isTaken_48 fX4_20 gm rfl ?_
          refine qp_bipush (v := 40) dX4_isTaken_51 (by decide) ?_
          refine qp_iload_n dX4_isTaken_53 rfl ?_
          refine qp_imul dX4_isTaken_54 ?_
          refine QP.topI (y := nI (40 * p)) (pk_mul 40 _) ?_
          refine qp_iload_n dX4_isTaken_55 rfl ?_
          refine qp_iadd dX4_isTaken_56 ?_
          refine QP.topI (y := nI (40 * p + k)) (nI_add _ _) ?_
          refine qp_ialdN (40 * p + k) dX4_isTaken_57 gh rfl (by omega) (by decide) ?_
          refine QP.topI (y := mRow H p k) rfl ?_
          refine qp_iload dX4_isTaken_58 rfl ?_
          refine qp_icmp_ne 67 dX4_isTaken_60 (by decide) (fun c_60 => ?_) (fun c_60 => ?_)
          · refine qp_iconst (v := 0) dX4_isTaken_67 (by decide) ?_
            refine qp_istore_n dX4_isTaken_68 (by decide) ?_
            refine QP.locsE (L1 := [some (.ref m0), some (.int (nI p)), some (.int (0)), some (.int (nI k)), some (.int (w (k)))]) rfl ?_
            have hv : bI (mIs (mRow H p) (mMix A w) (k + 1)) = 0 := by rw [mIs, decide_eq_false (p := mRow H p k = mMix A w k) (by rw [hmx]; exact c_60), Bool.and_false]; rfl
            refine QP.locsE (L1 := [some (.ref m0), some (.int (nI p)), some (.int (bI (mIs (mRow H p) (mMix A w) (k + 1)))), some (.int (nI k)), some (.int (w (k)))]) (by rw [hv]) ?_
            refine qp_iinc (v := nI (k + 1)) dX4_isTaken_69 rfl (by decide) (nI_1 k) ?_
            refine QP.locsE (L1 := [some (.ref m0), some (.int (nI p)), some (.int (bI (mIs (mRow H p) (mMix A w) (k + 1)))), some (.int (nI (k + 1))), some (.int (w (k)))]) rfl ?_
            refine qp_goto 14 dX4_isTaken_72 (by decide) ?_
            refine QP.forget 4 ?_
            exact ih (k + 1) (by omega) (by omega)
          · refine qp_iconst (v := 1) dX4_isTaken_63 (by decide) ?_
            refine qp_goto 68 dX4_isTaken_64 (by decide) ?_
            refine qp_istore_n dX4_isTaken_68 (by decide) ?_
            refine QP.locsE (L1 := [some (.ref m0), some (.int (nI p)), some (.int (1)), some (.int (nI k)), some (.int (w (k)))]) rfl ?_
            have hv : bI (mIs (mRow H p) (mMix A w) (k + 1)) = 1 := by rw [mIs, (bI_n0.mp c_44), decide_eq_true (p := mRow H p k = mMix A w k) (by rw [hmx]; exact c_60)]; rfl
            refine QP.locsE (L1 := [some (.ref m0), some (.int (nI p)), some (.int (bI (mIs (mRow H p) (mMix A w) (k + 1)))), some (.int (nI k)), some (.int (w (k)))]) (by rw [hv]) ?_
            refine qp_iinc (v := nI (k + 1)) dX4_isTaken_69 rfl (by decide) (nI_1 k) ?_
            refine QP.locsE (L1 := [some (.ref m0), some (.int (nI p)), some (.int (bI (mIs (mRow H p) (mMix A w) (k + 1)))), some (.int (nI (k + 1))), some (.int (w (k)))]) rfl ?_
            refine qp_goto 14 dX4_isTaken_72 (by decide) ?_
            refine QP.forget 4 ?_
            exact ih (k + 1) (by omega) (by omega)
      · have hk2 : k < 17 := Nat.not_le.mp fun q => c_23 ((nI_leI (a := 17) (by decide) (by omega)).mpr q)
        have hmx : mMix A w k = A k := if_pos hk2
        refine qp_aload_n dX4_isTaken_26 rfl ?_
        refine qp_getf dX4_isTaken_27 fX4_17 gm rfl ?_
        refine qp_iload_n dX4_isTaken_30 rfl ?_
        refine qp_ialdN (k) dX4_isTaken_31 gl rfl (by omega) (by decide) ?_
        refine qp_goto 41 dX4_isTaken_32 (by decide) ?_
        refine qp_istore dX4_isTaken_41 (by decide) ?_
        refine QP.locsE (L1 := [some (.ref m0), some (.int (nI p)), some (.int (bI (mIs (mRow H p) (mMix A w) k))), some (.int (nI k)), some (.int (A (k)))]) rfl ?_
        refine qp_iload_n dX4_isTaken_43 rfl ?_
        refine qp_if_eq 67 dX4_isTaken_44 (by decide) (fun c_44 => ?_) (fun c_44 => ?_)
        · refine qp_iconst (v := 0) dX4_isTaken_67 (by decide) ?_
          refine qp_istore_n dX4_isTaken_68 (by decide) ?_
          refine QP.locsE (L1 := [some (.ref m0), some (.int (nI p)), some (.int (0)), some (.int (nI k)), some (.int (A (k)))]) rfl ?_
          have hv : bI (mIs (mRow H p) (mMix A w) (k + 1)) = 0 := by rw [mIs, bI_0.mp c_44]; rfl
          refine QP.locsE (L1 := [some (.ref m0), some (.int (nI p)), some (.int (bI (mIs (mRow H p) (mMix A w) (k + 1)))), some (.int (nI k)), some (.int (A (k)))]) (by rw [hv]) ?_
          refine qp_iinc (v := nI (k + 1)) dX4_isTaken_69 rfl (by decide) (nI_1 k) ?_
          refine QP.locsE (L1 := [some (.ref m0), some (.int (nI p)), some (.int (bI (mIs (mRow H p) (mMix A w) (k + 1)))), some (.int (nI (k + 1))), some (.int (A (k)))]) rfl ?_
          refine qp_goto 14 dX4_isTaken_72 (by decide) ?_
          refine QP.forget 4 ?_
          exact ih (k + 1) (by omega) (by omega)
        · refine qp_aload_n dX4_isTaken_47 rfl ?_
          refine qp_getf dX4_isTaken_48 fX4_20 gm rfl ?_
          refine qp_bipush (v := 40) dX4_isTaken_51 (by decide) ?_
          refine qp_iload_n dX4_isTaken_53 rfl ?_
          refine qp_imul dX4_isTaken_54 ?_
          refine QP.topI (y := nI (40 * p)) (pk_mul 40 _) ?_
          refine qp_iload_n dX4_isTaken_55 rfl ?_
          refine qp_iadd dX4_isTaken_56 ?_
          refine QP.topI (y := nI (40 * p + k)) (nI_add _ _) ?_
          refine qp_ialdN (40 * p + k) dX4_isTaken_57 gh rfl (by omega) (by decide) ?_
          refine QP.topI (y := mRow H p k) rfl ?_
          refine qp_iload dX4_isTaken_58 rfl ?_
          refine qp_icmp_ne 67 dX4_isTaken_60 (by decide) (fun c_60 => ?_) (fun c_60 => ?_)
          · refine qp_iconst (v := 0) dX4_isTaken_67 (by decide) ?_
            refine qp_istore_n dX4_isTaken_68 (by decide) ?_
            refine QP.locsE (L1 := [some (.ref m0), some (.int (nI p)), some (.int (0)), some (.int (nI k)), some (.int (A (k)))]) rfl ?_
            have hv : bI (mIs (mRow H p) (mMix A w) (k + 1)) = 0 := by rw [mIs, decide_eq_false (p := mRow H p k = mMix A w k) (by rw [hmx]; exact c_60), Bool.and_false]; rfl
            refine QP.locsE (L1 := [some (.ref m0), some (.int (nI p)), some (.int (bI (mIs (mRow H p) (mMix A w) (k + 1)))), some (.int (nI k)), some (.int (A (k)))]) (by rw [hv]) ?_
            refine qp_iinc (v := nI (k + 1)) dX4_isTaken_69 rfl (by decide) (nI_1 k) ?_
            refine QP.locsE (L1 := [some (.ref m0), some (.int (nI p)), some (.int (bI (mIs (mRow H p) (mMix A w) (k + 1)))), some (.int (nI (k + 1))), some (.int (A (k)))]) rfl ?_
            refine qp_goto 14 dX4_isTaken_72 (by decide) ?_
            refine QP.forget 4 ?_
            exact ih (k + 1) (by omega) (by omega)
          · refine qp_iconst (v := 1) dX4_isTaken_63 (by decide) ?_
            refine qp_goto 68 dX4_isTaken_64 (by decide) ?_
            refine qp_istore_n dX4_isTaken_68 (by decide) ?_
            refine QP.locsE (L1 := [some (.ref m0), some (.int (nI p)), some (.int (1)), some (.int (nI k)), some (.int (A (k)))]) rfl ?_
            have hv : bI (mIs (mRow H p) (mMix A w) (k + 1)) = 1 := by rw [mIs, (bI_n0.mp c_44), decide_eq_true (p := mRow H p k = mMix A w k) (by rw [hmx]; exact c_60)]; rfl
            refine QP.locsE (L1 := [some (.ref m0), some (.int (nI p)), some (.int (bI (mIs (mRow H p) (mMix A w) (k + 1)))), some (.int (nI k)), some (.int (A (k)))]) (by rw [hv]) ?_
            refine qp_iinc (v := nI (k + 1)) dX4_isTaken_69 rfl (by decide) (nI_1 k) ?_
            refine QP.locsE (L1 := [some (.ref m0), some (.int (nI p)), some (.int (bI (mIs (mRow H p) (mMix A w) (k + 1)))), some (.int (nI (k + 1))), some (.int (A (k)))]) rfl ?_
            refine qp_goto 14 dX4_isTaken_72 (by decide) ?_
            refine QP.forget 4 ?_
            exact ih (k + 1) (by omega) (by omega)
set_option maxHeartbeats 4000000 in
set_option maxRecDepth 100000 in
theorem lm_taken {G : qG} {h : qH} {thr sch th ps pp wr sz : Int32} {m0 sa nw la sh rcm bf c : Nat} {A H w : Nat → Int32} {r : Bool} (hc : c ≤ 60) (gm : h m0 = some (mdCell thr sch sa sz nw la th sh rcm (nI c) bf ps pp wr)) (gl : h la = some (rwCell A)) (gh : h sh = some (mshCell H)) (gw : h nw = some (rwCell w)) : ∀ (t n : Nat), c < n + t → n ≤ c → r = mAny (fun p => mIs (mRow H p) (mMix A w) 23) (c - n) n → QP G M_X4_isTaken qTr (qMZ G M_X4_isTaken (qI (fun v h1 => h1 = h ∧ v = bI r))) 2 [some (.ref m0), some (.int (nI n)), none, none, none] [] h 0 0 := by
  intro t
  induction t with
  | zero =>
    intro n h1 h2
    omega
  | succ t ih =>
    intro n h1 h2 hr
    refine qp_iload_n dX4_isTaken_2 rfl ?_
    refine qp_aload_n dX4_isTaken_3 rfl ?_
    refine qp_getf dX4_isTaken_4 fX4_118 gm rfl ?_
    refine qp_icmp_ge 87 dX4_isTaken_7 (by decide) (fun c_7 => ?_) (fun c_7 => ?_)
    · have hk : c ≤ n := (nI_leI (by omega) (by omega)).mp c_7
      refine qp_iconst (v := 0) dX4_isTaken_87 (by decide) ?_
      exact qr_z dX4_isTaken_88 rfl nar_0 rfl rfl ⟨rfl, by rw [hr, show c - n = 0 by omega]; rfl⟩
    · have hk : n < c := Nat.not_le.mp fun q => c_7 ((nI_leI (by omega) (by omega)).mpr q)
      refine qp_iconst (v := 1) dX4_isTaken_10 (by decide) ?_
      refine qp_istore_n dX4_isTaken_11 (by decide) ?_
      refine QP.locsE (L1 := [some (.ref m0), some (.int (nI n)), some (.int (1)), none, none]) rfl ?_
      refine qp_iconst (v := 0) dX4_isTaken_12 (by decide) ?_
      refine qp_istore_n dX4_isTaken_13 (by decide) ?_
      refine QP.locsE (L1 := [some (.ref m0), some (.int (nI n)), some (.int (1)), some (.int (0)), none]) rfl ?_
      refine QP.locsE (L1 := [some (.ref m0), some (.int (nI n)), some (.int (bI (mIs (mRow H n) (mMix A w) 0))), some (.int (nI 0)), none]) rfl ?_
      refine lm_takenI (by omega) hc gm gl gh gw ?_ 24 0 (by omega) (by omega)
      refine qp_iload_n dX4_isTaken_75 rfl ?_
      refine qp_if_eq 81 dX4_isTaken_76 (by decide) (fun c_76 => ?_) (fun c_76 => ?_)
      · refine qp_iinc (v := nI (n + 1)) dX4_isTaken_81 rfl (by decide) (nI_1 n) ?_
        refine QP.locsE (L1 := [some (.ref m0), some (.int (nI (n + 1))), some (.int (bI (mIs (mRow H n) (mMix A w) 23))), some (.int (nI 23)), none]) rfl ?_
        refine qp_goto 2 dX4_isTaken_84 (by decide) ?_
        refine QP.forget 2 ?_
        refine QP.forget 3 ?_
        refine ih (n + 1) (by omega) (by omega) ?_
        rw [hr, show c - n = (c - (n + 1)) + 1 by omega, mAny, if_neg (by rw [bI_0.mp c_76]; exact Bool.false_ne_true)]
      · refine qp_iconst (v := 1) dX4_isTaken_79 (by decide) ?_
        exact qr_z dX4_isTaken_80 rfl nar_1 rfl rfl ⟨rfl, by rw [hr, show c - n = (c - (n + 1)) + 1 by omega, mAny, if_pos (bI_n0.mp c_76)]; rfl⟩
set_option maxHeartbeats 4000000 in
set_option maxRecDepth 100000 in
theorem m_isTaken (G : qG) {h : qH} {thr sch th ps pp wr sz : Int32} {m0 sa nw la sh rcm bf c : Nat} {A H w : Nat → Int32} (hc : c ≤ 60) (gm : h m0 = some (mdCell thr sch sa sz nw la th sh rcm (nI c) bf ps pp wr)) (gl : h la = some (rwCell A)) (gh : h sh = some (mshCell H)) (gw : h nw = some (rwCell w)) : qMet G M_X4_isTaken [.ref m0] h (qI (fun v h1 => h1 = h ∧ v = bI (mAny (fun p => mIs (mRow H p) (mMix A w) 23) c 0))) := by
  refine qMet.of (by decide) (Nat.le_of_ble_eq_true rfl) rfl ?_
  refine QP.locsE (L1 := [some (.ref m0), none, none, none, none]) rfl ?_
  refine qp_iconst (v := 0) dX4_isTaken_0 (by decide) ?_
  refine qp_istore_n dX4_isTaken_1 (by decide) ?_
  refine QP.locsE (L1 := [some (.ref m0), some (.int (0)), none, none, none]) rfl ?_
  exact lm_taken hc gm gl gh gw (c + 1) 0 (by omega) (by omega) rfl
