def mPart0 (A : Nat → Int32) (j : Nat) : Int64 := if j = 0 then (A 3 - 1).toInt64 * 1000000000 + mVal A 4 9 else if j = 1 then mVal A 17 6 else if j = 2 then (A 23).toInt64 else if j = 3 then (A 24).toInt64 else (nI (runP pos32 A 8 26)).toInt64
set_option maxHeartbeats 4000000 in
set_option maxRecDepth 100000 in
theorem m_part0 (G : qG) {h : qH} {thr cnt ps pp wr sz : Int32} {m0 sa nw la sh rcm bf : Nat} {A : Nat → Int32} (j : Nat) (hj : j ≤ 4) (nm : G.2.1 ≤ m0) (gm : h m0 = some (mdCell thr 0 sa sz nw la 1 sh rcm cnt bf ps pp wr)) (gl : h la = some (rwCell A)) : qMet G M_X4_part [.ref m0, .int (nI j)] h (qJ (fun v h1 => v = mPart0 A j ∧ h1 m0 = some (mdCell 0 0 sa sz nw la 1 sh rcm cnt bf ps pp wr) ∧ ∀ b : Nat, b ≠ m0 → h1 b = h b)) := by
  refine qMet.of (by decide) (Nat.le_of_ble_eq_true rfl) rfl ?_
  refine QP.locsE (L1 := [some (.ref m0), some (.int (nI j))]) rfl ?_
  refine qp_aload_n dX4_part_0 rfl ?_
  refine qp_iconst (v := 0) dX4_part_1 (by decide) ?_
  refine qk_put dX4_part_2 fX4_33 gm nm rfl rfl rfl rfl rfl (fun h1 g2 o3 => ?_)
  have g4 : h1 la = some (.inl (0, 40, .inl (A))) := (o3 _ (ne_of_cells gl gm (by simp))).trans gl
  have g2 : h1 m0 = some (.inr (5, [.int (0), .int (0), .ref sa, .int (sz), .ref nw, .ref la, .int (1), .ref sh, .ref rcm, .int (cnt), .ref bf, .int (ps), .int (pp), .int (wr)])) := g2
  refine qp_aload_n dX4_part_5 rfl ?_
  refine qp_getf dX4_part_6 fX4_91 g2 rfl ?_
  refine qp_if_eq 21 dX4_part_9 (by decide) (fun c_9 => absurd c_9 (by decide)) (fun c_9 => ?_)
  refine qp_iload_n dX4_part_12 rfl ?_
  refine qp_if_lt 21 dX4_part_13 (by decide) (fun c_13 => absurd c_13 (nI_pos (by omega))) (fun c_13 => ?_)
  refine qp_iload_n dX4_part_16 rfl ?_
  refine qp_iconst (v := 4) dX4_part_17 (by decide) ?_
  refine qp_icmp_le 28 dX4_part_18 (by decide) (fun c_18 => ?_) (fun c_18 => absurd ((nI_leI (b := 4) (by omega) (by decide)).mpr hj) c_18)
  refine qp_iload_n dX4_part_28 rfl ?_
  rcases (show j = 0 ∨ j = 1 ∨ j = 2 ∨ j = 3 ∨ j = 4 by omega) with rfl | rfl | rfl | rfl | rfl
  · refine qp_tableIn 60 dX4_part_29 (by decide) (by decide) rfl (by decide) ?_
    refine qp_aload_n dX4_part_60 rfl ?_
    refine qp_getf dX4_part_61 fX4_29 g2 rfl ?_
    refine qp_if_ne 94 dX4_part_64 (by decide) (fun c_64 => absurd rfl c_64) (fun c_64 => ?_)
    refine qp_aload_n dX4_part_67 rfl ?_
    refine qp_getf dX4_part_68 fX4_17 g2 rfl ?_
    refine qp_iconst (v := 3) dX4_part_71 (by decide) ?_
    refine qp_ialdN (3) dX4_part_72 g4 rfl (by decide) (by decide) ?_
    refine qp_iconst (v := 1) dX4_part_73 (by decide) ?_
    refine qp_isub dX4_part_74 ?_
    refine qp_i2l dX4_part_75 ?_
    refine qp_ldc2 dX4_part_76 klX4_97 ?_
    refine qp_lmul dX4_part_79 ?_
    refine qp_aload_n dX4_part_80 rfl ?_
    refine qp_getf dX4_part_81 fX4_17 g2 rfl ?_
    refine qp_iconst (v := 4) dX4_part_84 (by decide) ?_
    refine qp_bipush (v := 9) dX4_part_85 (by decide) ?_
    refine qs_Jp dX4_part_87 mX4_99 (m_value G 4 9 (by decide) g4) rfl rfl rfl rfl rfl rfl ?_
    refine qp_ladd dX4_part_90 ?_
    refine qp_goto 115 dX4_part_91 (by decide) ?_
    exact qr_l dX4_part_115 rfl rfl rfl ⟨rfl, g2, fun b hb => (o3 b hb)⟩
  · refine qp_tableIn 116 dX4_part_29 (by decide) (by decide) rfl (by decide) ?_
    refine qp_aload_n dX4_part_116 rfl ?_
    refine qp_getf dX4_part_117 fX4_17 g2 rfl ?_
    refine qp_bipush (v := 17) dX4_part_120 (by decide) ?_
    refine qp_bipush (v := 6) dX4_part_122 (by decide) ?_
    refine qs_Jp dX4_part_124 mX4_99 (m_value G 17 6 (by decide) g4) rfl rfl rfl rfl rfl rfl ?_
    exact qr_l dX4_part_127 rfl rfl rfl ⟨rfl, g2, fun b hb => (o3 b hb)⟩
  · refine qp_tableIn 128 dX4_part_29 (by decide) (by decide) rfl (by decide) ?_
    refine qp_aload_n dX4_part_128 rfl ?_
    refine qp_getf dX4_part_129 fX4_17 g2 rfl ?_
    refine qp_bipush (v := 23) dX4_part_132 (by decide) ?_
    refine qp_ialdN (23) dX4_part_134 g4 rfl (by decide) (by decide) ?_
    refine qp_i2l dX4_part_135 ?_
    exact qr_l dX4_part_136 rfl rfl rfl ⟨rfl, g2, fun b hb => (o3 b hb)⟩
  · refine qp_tableIn 137 dX4_part_29 (by decide) (by decide) rfl (by decide) ?_
    refine qp_aload_n dX4_part_137 rfl ?_
    refine qp_getf dX4_part_138 fX4_17 g2 rfl ?_
    refine qp_bipush (v := 24) dX4_part_141 (by decide) ?_
    refine qp_ialdN (24) dX4_part_143 g4 rfl (by decide) (by decide) ?_
    refine qp_i2l dX4_part_144 ?_
    exact qr_l dX4_part_145 rfl rfl rfl ⟨rfl, g2, fun b hb => (o3 b hb)⟩
  · refine qp_tableOut 146 dX4_part_29 (by decide) (by decide) ?_
    refine qp_aload_n dX4_part_146 rfl ?_
    refine qv_Ip dX4_part_147 mX4_105 (m_marks G g2 g4) g2 rfl rfl rfl rfl rfl rfl rfl ?_
    refine qp_i2l dX4_part_150 ?_
    exact qr_l dX4_part_151 rfl rfl rfl ⟨rfl, g2, fun b hb => (o3 b hb)⟩
def mPart1 (A : Nat → Int32) (j : Nat) : Int64 := if j = 0 then (A 3).toInt64 * 10000 + mVal A 4 4 else if j = 1 then mVal A 17 6 else if j = 2 then (A 23).toInt64 else if j = 3 then (A 24).toInt64 else (nI (runP pos32 A 8 26)).toInt64
set_option maxHeartbeats 4000000 in
set_option maxRecDepth 100000 in
theorem m_part1 (G : qG) {h : qH} {thr cnt ps pp wr sz : Int32} {m0 sa nw la sh rcm bf : Nat} {A : Nat → Int32} (j : Nat) (hj : j ≤ 4) (nm : G.2.1 ≤ m0) (gm : h m0 = some (mdCell thr 1 sa sz nw la 1 sh rcm cnt bf ps pp wr)) (gl : h la = some (rwCell A)) : qMet G M_X4_part [.ref m0, .int (nI j)] h (qJ (fun v h1 => v = mPart1 A j ∧ h1 m0 = some (mdCell 0 1 sa sz nw la 1 sh rcm cnt bf ps pp wr) ∧ ∀ b : Nat, b ≠ m0 → h1 b = h b)) := by
  refine qMet.of (by decide) (Nat.le_of_ble_eq_true rfl) rfl ?_
  refine QP.locsE (L1 := [some (.ref m0), some (.int (nI j))]) rfl ?_
  refine qp_aload_n dX4_part_0 rfl ?_
  refine qp_iconst (v := 0) dX4_part_1 (by decide) ?_
  refine qk_put dX4_part_2 fX4_33 gm nm rfl rfl rfl rfl rfl (fun h1 g2 o3 => ?_)
  have g4 : h1 la = some (.inl (0, 40, .inl (A))) := (o3 _ (ne_of_cells gl gm (by simp))).trans gl
  have g2 : h1 m0 = some (.inr (5, [.int (0), .int (1), .ref sa, .int (sz), .ref nw, .ref la, .int (1), .ref sh, .ref rcm, .int (cnt), .ref bf, .int (ps), .int (pp), .int (wr)])) := g2
  refine qp_aload_n dX4_part_5 rfl ?_
  refine qp_getf dX4_part_6 fX4_91 g2 rfl ?_
  refine qp_if_eq 21 dX4_part_9 (by decide) (fun c_9 => absurd c_9 (by decide)) (fun c_9 => ?_)
  refine qp_iload_n dX4_part_12 rfl ?_
  refine qp_if_lt 21 dX4_part_13 (by decide) (fun c_13 => absurd c_13 (nI_pos (by omega))) (fun c_13 => ?_)
  refine qp_iload_n dX4_part_16 rfl ?_
  refine qp_iconst (v := 4) dX4_part_17 (by decide) ?_
  refine qp_icmp_le 28 dX4_part_18 (by decide) (fun c_18 => ?_) (fun c_18 => absurd ((nI_leI (b := 4) (by omega) (by decide)).mpr hj) c_18)
  refine qp_iload_n dX4_part_28 rfl ?_
  rcases (show j = 0 ∨ j = 1 ∨ j = 2 ∨ j = 3 ∨ j = 4 by omega) with rfl | rfl | rfl | rfl | rfl
  · refine qp_tableIn 60 dX4_part_29 (by decide) (by decide) rfl (by decide) ?_
    refine qp_aload_n dX4_part_60 rfl ?_
    refine qp_getf dX4_part_61 fX4_29 g2 rfl ?_
    refine qp_if_ne 94 dX4_part_64 (by decide) (fun c_64 => ?_) (fun c_64 => absurd c_64 (by decide))
    refine qp_aload_n dX4_part_94 rfl ?_
    refine qp_getf dX4_part_95 fX4_17 g2 rfl ?_
    refine qp_iconst (v := 3) dX4_part_98 (by decide) ?_
    refine qp_ialdN (3) dX4_part_99 g4 rfl (by decide) (by decide) ?_
    refine qp_i2l dX4_part_100 ?_
    refine qp_ldc2 dX4_part_101 klX4_103 ?_
    refine qp_lmul dX4_part_104 ?_
    refine qp_aload_n dX4_part_105 rfl ?_
    refine qp_getf dX4_part_106 fX4_17 g2 rfl ?_
    refine qp_iconst (v := 4) dX4_part_109 (by decide) ?_
    refine qp_iconst (v := 4) dX4_part_110 (by decide) ?_
    refine qs_Jp dX4_part_111 mX4_99 (m_value G 4 4 (by decide) g4) rfl rfl rfl rfl rfl rfl ?_
    refine qp_ladd dX4_part_114 ?_
    exact qr_l dX4_part_115 rfl rfl rfl ⟨rfl, g2, fun b hb => (o3 b hb)⟩
  · refine qp_tableIn 116 dX4_part_29 (by decide) (by decide) rfl (by decide) ?_
    refine qp_aload_n dX4_part_116 rfl ?_
    refine qp_getf dX4_part_117 fX4_17 g2 rfl ?_
    refine qp_bipush (v := 17) dX4_part_120 (by decide) ?_
    refine qp_bipush (v := 6) dX4_part_122 (by decide) ?_
    refine qs_Jp dX4_part_124 mX4_99 (m_value G 17 6 (by decide) g4) rfl rfl rfl rfl rfl rfl ?_
    exact qr_l dX4_part_127 rfl rfl rfl ⟨rfl, g2, fun b hb => (o3 b hb)⟩
  · refine qp_tableIn 128 dX4_part_29 (by decide) (by decide) rfl (by decide) ?_
    refine qp_aload_n dX4_part_128 rfl ?_
    refine qp_getf dX4_part_129 fX4_17 g2 rfl ?_
    refine qp_bipush (v := 23) dX4_part_132 (by decide) ?_
    refine qp_ialdN (23) dX4_part_134 g4 rfl (by decide) (by decide) ?_
    refine qp_i2l dX4_part_135 ?_
    exact qr_l dX4_part_136 rfl rfl rfl ⟨rfl, g2, fun b hb => (o3 b hb)⟩
  · refine qp_tableIn 137 dX4_part_29 (by decide) (by decide) rfl (by decide) ?_
    refine qp_aload_n dX4_part_137 rfl ?_
    refine qp_getf dX4_part_138 fX4_17 g2 rfl ?_
    refine qp_bipush (v := 24) dX4_part_141 (by decide) ?_
    refine qp_ialdN (24) dX4_part_143 g4 rfl (by decide) (by decide) ?_
    refine qp_i2l dX4_part_144 ?_
    exact qr_l dX4_part_145 rfl rfl rfl ⟨rfl, g2, fun b hb => (o3 b hb)⟩
  · refine qp_tableOut 146 dX4_part_29 (by decide) (by decide) ?_
    refine qp_aload_n dX4_part_146 rfl ?_
    refine qv_Ip dX4_part_147 mX4_105 (m_marks G g2 g4) g2 rfl rfl rfl rfl rfl rfl rfl ?_
    refine qp_i2l dX4_part_150 ?_
    exact qr_l dX4_part_151 rfl rfl rfl ⟨rfl, g2, fun b hb => (o3 b hb)⟩
set_option maxHeartbeats 4000000 in
set_option maxRecDepth 100000 in
theorem m_partN (G : qG) {h : qH} {thr sch cnt ps pp wr sz : Int32} {m0 sa nw la sh rcm bf : Nat} (i : Int32) (nm : G.2.1 ≤ m0) (gm : h m0 = some (mdCell thr sch sa sz nw la 0 sh rcm cnt bf ps pp wr)) : qMet G M_X4_part [.ref m0, .int i] h (qJ (fun v h1 => v = 0 ∧ h1 m0 = some (mdCell 1 sch sa sz nw la 0 sh rcm cnt bf ps pp wr) ∧ ∀ b : Nat, b ≠ m0 → h1 b = h b)) := by
  refine qMet.of (by decide) (Nat.le_of_ble_eq_true rfl) rfl ?_
  refine QP.locsE (L1 := [some (.ref m0), some (.int (i))]) rfl ?_
  refine qp_aload_n dX4_part_0 rfl ?_
  refine qp_iconst (v := 0) dX4_part_1 (by decide) ?_
  refine qk_put dX4_part_2 fX4_33 gm nm rfl rfl rfl rfl rfl (fun h1 g2 o3 => ?_)
  have g2 : h1 m0 = some (.inr (5, [.int (0), .int (sch), .ref sa, .int (sz), .ref nw, .ref la, .int (0), .ref sh, .ref rcm, .int (cnt), .ref bf, .int (ps), .int (pp), .int (wr)])) := g2
  refine qp_aload_n dX4_part_5 rfl ?_
  refine qp_getf dX4_part_6 fX4_91 g2 rfl ?_
  refine qp_if_eq 21 dX4_part_9 (by decide) (fun c_9 => ?_) (fun c_9 => absurd rfl c_9)
  refine qp_aload_n dX4_part_21 rfl ?_
  refine qp_iconst (v := 1) dX4_part_22 (by decide) ?_
  refine qk_put dX4_part_23 fX4_33 g2 nm rfl rfl rfl rfl rfl (fun h4 g5 o6 => ?_)
  have g5 : h4 m0 = some (.inr (5, [.int (1), .int (sch), .ref sa, .int (sz), .ref nw, .ref la, .int (0), .ref sh, .ref rcm, .int (cnt), .ref bf, .int (ps), .int (pp), .int (wr)])) := g5
  refine qp_lconst (v := 0) dX4_part_26 (by decide) ?_
  exact qr_l dX4_part_27 rfl rfl rfl ⟨rfl, g5, fun b hb => ((o6 b hb).trans (o3 b hb))⟩
set_option maxHeartbeats 4000000 in
set_option maxRecDepth 100000 in
theorem m_partX (G : qG) {h : qH} {thr sch cnt ps pp wr sz : Int32} {m0 sa nw la sh rcm bf : Nat} (i : Int32) (hi : i < 0 ∨ 4 < i) (nm : G.2.1 ≤ m0) (gm : h m0 = some (mdCell thr sch sa sz nw la 1 sh rcm cnt bf ps pp wr)) : qMet G M_X4_part [.ref m0, .int i] h (qJ (fun v h1 => v = 0 ∧ h1 m0 = some (mdCell 1 sch sa sz nw la 1 sh rcm cnt bf ps pp wr) ∧ ∀ b : Nat, b ≠ m0 → h1 b = h b)) := by
  refine qMet.of (by decide) (Nat.le_of_ble_eq_true rfl) rfl ?_
  refine QP.locsE (L1 := [some (.ref m0), some (.int (i))]) rfl ?_
  refine qp_aload_n dX4_part_0 rfl ?_
  refine qp_iconst (v := 0) dX4_part_1 (by decide) ?_
  refine qk_put dX4_part_2 fX4_33 gm nm rfl rfl rfl rfl rfl (fun h1 g2 o3 => ?_)
  have g2 : h1 m0 = some (.inr (5, [.int (0), .int (sch), .ref sa, .int (sz), .ref nw, .ref la, .int (1), .ref sh, .ref rcm, .int (cnt), .ref bf, .int (ps), .int (pp), .int (wr)])) := g2
  refine qp_aload_n dX4_part_5 rfl ?_
  refine qp_getf dX4_part_6 fX4_91 g2 rfl ?_
  refine qp_if_eq 21 dX4_part_9 (by decide) (fun c_9 => absurd c_9 (by decide)) (fun c_9 => ?_)
  refine qp_iload_n dX4_part_12 rfl ?_
  refine qp_if_lt 21 dX4_part_13 (by decide) (fun c_13 => ?_) (fun c_13 => ?_)
  · refine qp_aload_n dX4_part_21 rfl ?_
    refine qp_iconst (v := 1) dX4_part_22 (by decide) ?_
    refine qk_put dX4_part_23 fX4_33 g2 nm rfl rfl rfl rfl rfl (fun h4 g5 o6 => ?_)
    have g5 : h4 m0 = some (.inr (5, [.int (1), .int (sch), .ref sa, .int (sz), .ref nw, .ref la, .int (1), .ref sh, .ref rcm, .int (cnt), .ref bf, .int (ps), .int (pp), .int (wr)])) := g5
    refine qp_lconst (v := 0) dX4_part_26 (by decide) ?_
    exact qr_l dX4_part_27 rfl rfl rfl ⟨rfl, g5, fun b hb => ((o6 b hb).trans (o3 b hb))⟩
  · refine qp_iload_n dX4_part_16 rfl ?_
    refine qp_iconst (v := 4) dX4_part_17 (by decide) ?_
    refine qp_icmp_le 28 dX4_part_18 (by decide) (fun c_18 => absurd c_18 (i32_nle.mpr (hi.resolve_left c_13))) (fun c_18 => ?_)
    refine qp_aload_n dX4_part_21 rfl ?_
    refine qp_iconst (v := 1) dX4_part_22 (by decide) ?_
    refine qk_put dX4_part_23 fX4_33 g2 nm rfl rfl rfl rfl rfl (fun h7 g8 o9 => ?_)
    have g8 : h7 m0 = some (.inr (5, [.int (1), .int (sch), .ref sa, .int (sz), .ref nw, .ref la, .int (1), .ref sh, .ref rcm, .int (cnt), .ref bf, .int (ps), .int (pp), .int (wr)])) := g8
    refine qp_lconst (v := 0) dX4_part_26 (by decide) ?_
    exact qr_l dX4_part_27 rfl rfl rfl ⟨rfl, g8, fun b hb => ((o9 b hb).trans (o3 b hb))⟩
def s137 (A : Nat → Int32) (l : Int32) : Int32 := if 0 < A 26 ∧ l = 0 then nI (runP pos32 A 8 26) else -1
def s91 (A : Nat → Int32) (l : Int32) : Int32 := if 0 < A 24 then (if l = 0 then 2 + mDec (A 24) + (if 0 < A 25 then 1 else 0) else s137 A (l + (-1))) else s137 A l
def s72 (A : Nat → Int32) (l : Int32) : Int32 := if 0 < A 23 then (if l = 0 then 4 else s91 A (l + (-1))) else s91 A l
def s40 (A : Nat → Int32) (l : Int32) : Int32 := if l = 0 then A 37 - nI (runP pos32 A 3 0) else if l = 1 then 1 + nI (runP pos32 A 6 17) else s72 A (l + (-2))
def mSpine0 (A : Nat → Int32) (i : Int32) : Int32 := if i < 0 then -1 else s40 A i
def mSpine1 (A : Nat → Int32) (i : Int32) : Int32 := if i < 0 then -1 else if i = 0 then nI (runP pos32 A 3 0) else s40 A (i + (-1))
set_option maxHeartbeats 4000000 in
set_option maxRecDepth 100000 in
theorem lm_s137 {G : qG} {h : qH} {thr sch th cnt ps pp wr sz : Int32} {m0 sa nw la sh rcm bf : Nat} {A : Nat → Int32} {i0 r : Int32} (gm : h m0 = some (mdCell thr sch sa sz nw la th sh rcm cnt bf ps pp wr)) (gl : h la = some (rwCell A)) (l : Int32) (hr : r = s137 A l) : QP G M_X4_spine qTr (qMZ G M_X4_spine (qI (fun v h1 => v = r ∧ h1 = h))) 137 [some (.ref m0), some (.int i0), some (.int l)] [] h 0 0 := by
  refine qp_aload_n dX4_spine_137 rfl ?_
  refine qp_getf dX4_spine_138 fX4_17 gm rfl ?_
  refine qp_bipush (v := 26) dX4_spine_141 (by decide) ?_
  refine qp_ialdN (26) dX4_spine_143 gl rfl (by decide) (by decide) ?_
  refine qp_if_le 158 dX4_spine_144 (by decide) (fun c_144 => ?_) (fun c_144 => ?_)
  · refine qp_iconst (v := -1) dX4_spine_158 (by decide) ?_
    exact qr_i dX4_spine_159 rfl rfl rfl ⟨by rw [hr, s137, if_neg (fun q => (i32_nlt.mpr c_144) q.1)], rfl⟩
  · refine qp_iload_n dX4_spine_147 rfl ?_
    refine qp_if_ne 158 dX4_spine_148 (by decide) (fun c_148 => ?_) (fun c_148 => ?_)
    · refine qp_iconst (v := -1) dX4_spine_158 (by decide) ?_
      exact qr_i dX4_spine_159 rfl rfl rfl ⟨by rw [hr, s137, if_neg (fun q => c_148 q.2)], rfl⟩
    · refine qp_aload_n dX4_spine_151 rfl ?_
      refine qv_Ip dX4_spine_152 mX4_105 (m_marks G gm gl) gm rfl rfl rfl rfl rfl rfl rfl ?_
      refine qp_goto 159 dX4_spine_155 (by decide) ?_
      exact qr_i dX4_spine_159 rfl rfl rfl ⟨by rw [hr, s137, if_pos ⟨(i32_nle.mp c_144), c_148⟩], rfl⟩
set_option maxHeartbeats 4000000 in
set_option maxRecDepth 100000 in
theorem lm_s91 {G : qG} {h : qH} {thr sch th cnt ps pp wr sz : Int32} {m0 sa nw la sh rcm bf : Nat} {A : Nat → Int32} {i0 r : Int32} (gm : h m0 = some (mdCell thr sch sa sz nw la th sh rcm cnt bf ps pp wr)) (gl : h la = some (rwCell A)) (l : Int32) (hr : r = s91 A l) : QP G M_X4_spine qTr (qMZ G M_X4_spine (qI (fun v h1 => v = r ∧ h1 = h))) 91 [some (.ref m0), some (.int i0), some (.int l)] [] h 0 0 := by
  refine qp_aload_n dX4_spine_91 rfl ?_
  refine qp_getf dX4_spine_92 fX4_17 gm rfl ?_
  refine qp_bipush (v := 24) dX4_spine_95 (by decide) ?_
  refine qp_ialdN (24) dX4_spine_97 gl rfl (by decide) (by decide) ?_
  refine qp_if_le 137 dX4_spine_98 (by decide) (fun c_98 => ?_) (fun c_98 => ?_)
  · exact lm_s137 gm gl _ (by rw [hr, s91, if_neg (i32_nlt.mpr c_98)])
  · refine qp_iload_n dX4_spine_101 rfl ?_
    refine qp_if_ne 134 dX4_spine_102 (by decide) (fun c_102 => ?_) (fun c_102 => ?_)
    · refine qp_iinc (v := l + (-1)) dX4_spine_134 rfl (by decide) rfl ?_
      refine QP.locsE (L1 := [some (.ref m0), some (.int (i0)), some (.int (l + (-1)))]) rfl ?_
      exact lm_s137 gm gl _ (by rw [hr, s91, if_pos (i32_nle.mp c_98), if_neg c_102])
    · refine qp_iconst (v := 2) dX4_spine_105 (by decide) ?_
      refine qp_aload_n dX4_spine_106 rfl ?_
      refine qp_getf dX4_spine_107 fX4_17 gm rfl ?_
      refine qp_bipush (v := 24) dX4_spine_110 (by decide) ?_
      refine qp_ialdN (24) dX4_spine_112 gl rfl (by decide) (by decide) ?_
      refine qs_Ip dX4_spine_113 mX4_114 (m_decimals G (A (24))) rfl rfl rfl rfl rfl rfl ?_
      refine qp_iadd dX4_spine_116 ?_
      refine qp_aload_n dX4_spine_117 rfl ?_
      refine qp_getf dX4_spine_118 fX4_17 gm rfl ?_
      refine qp_bipush (v := 25) dX4_spine_121 (by decide) ?_
      refine qp_ialdN (25) dX4_spine_123 gl rfl (by decide) (by decide) ?_
      refine qp_if_le 131 dX4_spine_124 (by decide) (fun c_124 => ?_) (fun c_124 => ?_)
      · refine qp_iconst (v := 0) dX4_spine_131 (by decide) ?_
        refine qp_iadd dX4_spine_132 ?_
        exact qr_i dX4_spine_133 rfl rfl rfl ⟨by rw [hr, s91, if_pos (i32_nle.mp c_98), if_pos c_102, if_neg (i32_nlt.mpr c_124)], rfl⟩
      · refine qp_iconst (v := 1) dX4_spine_127 (by decide) ?_
        refine qp_goto 132 dX4_spine_128 (by decide) ?_
        refine qp_iadd dX4_spine_132 ?_
        exact qr_i dX4_spine_133 rfl rfl rfl ⟨by rw [hr, s91, if_pos (i32_nle.mp c_98), if_pos c_102, if_pos (i32_nle.mp c_124)], rfl⟩
set_option maxHeartbeats 4000000 in
set_option maxRecDepth 100000 in
theorem lm_s72 {G : qG} {h : qH} {thr sch th cnt ps pp wr sz : Int32} {m0 sa nw la sh rcm bf : Nat} {A : Nat → Int32} {i0 r : Int32} (gm : h m0 = some (mdCell thr sch sa sz nw la th sh rcm cnt bf ps pp wr)) (gl : h la = some (rwCell A)) (l : Int32) (hr : r = s72 A l) : QP G M_X4_spine qTr (qMZ G M_X4_spine (qI (fun v h1 => v = r ∧ h1 = h))) 72 [some (.ref m0), some (.int i0), some (.int l)] [] h 0 0 := by
  refine qp_aload_n dX4_spine_72 rfl ?_
  refine qp_getf dX4_spine_73 fX4_17 gm rfl ?_
  refine qp_bipush (v := 23) dX4_spine_76 (by decide) ?_
  refine qp_ialdN (23) dX4_spine_78 gl rfl (by decide) (by decide) ?_
  refine qp_if_le 91 dX4_spine_79 (by decide) (fun c_79 => ?_) (fun c_79 => ?_)
  · exact lm_s91 gm gl _ (by rw [hr, s72, if_neg (i32_nlt.mpr c_79)])
  · refine qp_iload_n dX4_spine_82 rfl ?_
    refine qp_if_ne 88 dX4_spine_83 (by decide) (fun c_83 => ?_) (fun c_83 => ?_)
    · refine qp_iinc (v := l + (-1)) dX4_spine_88 rfl (by decide) rfl ?_
      refine QP.locsE (L1 := [some (.ref m0), some (.int (i0)), some (.int (l + (-1)))]) rfl ?_
      exact lm_s91 gm gl _ (by rw [hr, s72, if_pos (i32_nle.mp c_79), if_neg c_83])
    · refine qp_iconst (v := 4) dX4_spine_86 (by decide) ?_
      exact qr_i dX4_spine_87 rfl rfl rfl ⟨by rw [hr, s72, if_pos (i32_nle.mp c_79), if_pos c_83], rfl⟩
set_option maxHeartbeats 4000000 in
set_option maxRecDepth 100000 in
theorem lm_s40 {G : qG} {h : qH} {thr sch th cnt ps pp wr sz : Int32} {m0 sa nw la sh rcm bf : Nat} {A : Nat → Int32} {i0 r : Int32} (gm : h m0 = some (mdCell thr sch sa sz nw la th sh rcm cnt bf ps pp wr)) (gl : h la = some (rwCell A)) (l : Int32) (hr : r = s40 A l) : QP G M_X4_spine qTr (qMZ G M_X4_spine (qI (fun v h1 => v = r ∧ h1 = h))) 40 [some (.ref m0), some (.int i0), some (.int l)] [] h 0 0 := by
  refine qp_iload_n dX4_spine_40 rfl ?_
  refine qp_if_ne 57 dX4_spine_41 (by decide) (fun c_41 => ?_) (fun c_41 => ?_)
  · refine qp_iload_n dX4_spine_57 rfl ?_
    refine qp_iconst (v := 1) dX4_spine_58 (by decide) ?_
    refine qp_icmp_ne 69 dX4_spine_59 (by decide) (fun c_59 => ?_) (fun c_59 => ?_)
    · refine qp_iinc (v := l + (-2)) dX4_spine_69 rfl (by decide) rfl ?_
      refine QP.locsE (L1 := [some (.ref m0), some (.int (i0)), some (.int (l + (-2)))]) rfl ?_
      exact lm_s72 gm gl _ (by rw [hr, s40, if_neg c_41, if_neg c_59])
    · refine qp_iconst (v := 1) dX4_spine_62 (by decide) ?_
      refine qp_aload_n dX4_spine_63 rfl ?_
      refine qv_Ip dX4_spine_64 mX4_111 (m_cutterSize G gm gl) gm rfl rfl rfl rfl rfl rfl rfl ?_
      refine qp_iadd dX4_spine_67 ?_
      exact qr_i dX4_spine_68 rfl rfl rfl ⟨by rw [hr, s40, if_neg c_41, if_pos c_59], rfl⟩
  · refine qp_aload_n dX4_spine_44 rfl ?_
    refine qp_getf dX4_spine_45 fX4_17 gm rfl ?_
    refine qp_bipush (v := 37) dX4_spine_48 (by decide) ?_
    refine qp_ialdN (37) dX4_spine_50 gl rfl (by decide) (by decide) ?_
    refine qp_aload_n dX4_spine_51 rfl ?_
    refine qv_Ip dX4_spine_52 mX4_108 (m_letters G gm gl) gm rfl rfl rfl rfl rfl rfl rfl ?_
    refine qp_isub dX4_spine_55 ?_
    exact qr_i dX4_spine_56 rfl rfl rfl ⟨by rw [hr, s40, if_pos c_41], rfl⟩
set_option maxHeartbeats 4000000 in
set_option maxRecDepth 100000 in
theorem m_spine0 (G : qG) {h : qH} {thr cnt ps pp wr sz : Int32} {m0 sa nw la sh rcm bf : Nat} {A : Nat → Int32} (i : Int32) (nm : G.2.1 ≤ m0) (gm : h m0 = some (mdCell thr 0 sa sz nw la 1 sh rcm cnt bf ps pp wr)) (gl : h la = some (rwCell A)) : qMet G M_X4_spine [.ref m0, .int i] h (qI (fun v h1 => v = mSpine0 A i ∧ h1 m0 = some (mdCell 0 0 sa sz nw la 1 sh rcm cnt bf ps pp wr) ∧ ∀ b : Nat, b ≠ m0 → h1 b = h b)) := by
  refine qMet.of (by decide) (Nat.le_of_ble_eq_true rfl) rfl ?_
  refine QP.locsE (L1 := [some (.ref m0), some (.int (i)), none]) rfl ?_
  refine qp_aload_n dX4_spine_0 rfl ?_
  refine qp_iconst (v := 0) dX4_spine_1 (by decide) ?_
  refine qk_put dX4_spine_2 fX4_33 gm nm rfl rfl rfl rfl rfl (fun h1 g2 o3 => ?_)
  have g4 : h1 la = some (.inl (0, 40, .inl (A))) := (o3 _ (ne_of_cells gl gm (by simp))).trans gl
  have g2 : h1 m0 = some (.inr (5, [.int (0), .int (0), .ref sa, .int (sz), .ref nw, .ref la, .int (1), .ref sh, .ref rcm, .int (cnt), .ref bf, .int (ps), .int (pp), .int (wr)])) := g2
  refine qp_aload_n dX4_spine_5 rfl ?_
  refine qp_getf dX4_spine_6 fX4_91 g2 rfl ?_
  refine qp_if_eq 16 dX4_spine_9 (by decide) (fun c_9 => absurd c_9 (by decide)) (fun c_9 => ?_)
  refine qp_iload_n dX4_spine_12 rfl ?_
  refine qp_if_ge 18 dX4_spine_13 (by decide) (fun c_13 => ?_) (fun c_13 => ?_)
  · refine qp_iload_n dX4_spine_18 rfl ?_
    refine qp_istore_n dX4_spine_19 (by decide) ?_
    refine QP.locsE (L1 := [some (.ref m0), some (.int (i)), some (.int (i))]) rfl ?_
    refine qp_aload_n dX4_spine_20 rfl ?_
    refine qp_getf dX4_spine_21 fX4_29 g2 rfl ?_
    refine qp_iconst (v := 1) dX4_spine_24 (by decide) ?_
    refine qp_icmp_ne 40 dX4_spine_25 (by decide) (fun c_25 => ?_) (fun c_25 => absurd c_25 (by decide))
    refine QP.mono (fun r h' ⟨v, e, e2, e3⟩ => ⟨v, e, e2, by rw [e3]; exact g2, fun b hb => by rw [e3]; exact (o3 b hb)⟩) (lm_s40 (r := mSpine0 A i) g2 g4 _ (by rw [mSpine0, if_neg (i32_nlt.mpr c_13)]))
  · refine qp_iconst (v := -1) dX4_spine_16 (by decide) ?_
    exact qr_i dX4_spine_17 rfl rfl rfl ⟨by rw [mSpine0, if_pos (i32_nle.mp c_13)], g2, fun b hb => (o3 b hb)⟩
set_option maxHeartbeats 4000000 in
set_option maxRecDepth 100000 in
theorem m_spine1 (G : qG) {h : qH} {thr cnt ps pp wr sz : Int32} {m0 sa nw la sh rcm bf : Nat} {A : Nat → Int32} (i : Int32) (nm : G.2.1 ≤ m0) (gm : h m0 = some (mdCell thr 1 sa sz nw la 1 sh rcm cnt bf ps pp wr)) (gl : h la = some (rwCell A)) : qMet G M_X4_spine [.ref m0, .int i] h (qI (fun v h1 => v = mSpine1 A i ∧ h1 m0 = some (mdCell 0 1 sa sz nw la 1 sh rcm cnt bf ps pp wr) ∧ ∀ b : Nat, b ≠ m0 → h1 b = h b)) := by
  refine qMet.of (by decide) (Nat.le_of_ble_eq_true rfl) rfl ?_
  refine QP.locsE (L1 := [some (.ref m0), some (.int (i)), none]) rfl ?_
  refine qp_aload_n dX4_spine_0 rfl ?_
  refine qp_iconst (v := 0) dX4_spine_1 (by decide) ?_
  refine qk_put dX4_spine_2 fX4_33 gm nm rfl rfl rfl rfl rfl (fun h1 g2 o3 => ?_)
  have g4 : h1 la = some (.inl (0, 40, .inl (A))) := (o3 _ (ne_of_cells gl gm (by simp))).trans gl
  have g2 : h1 m0 = some (.inr (5, [.int (0), .int (1), .ref sa, .int (sz), .ref nw, .ref la, .int (1), .ref sh, .ref rcm, .int (cnt), .ref bf, .int (ps), .int (pp), .int (wr)])) := g2
  refine qp_aload_n dX4_spine_5 rfl ?_
  refine qp_getf dX4_spine_6 fX4_91 g2 rfl ?_
  refine qp_if_eq 16 dX4_spine_9 (by decide) (fun c_9 => absurd c_9 (by decide)) (fun c_9 => ?_)
  refine qp_iload_n dX4_spine_12 rfl ?_
  refine qp_if_ge 18 dX4_spine_13 (by decide) (fun c_13 => ?_) (fun c_13 => ?_)
  · refine qp_iload_n dX4_spine_18 rfl ?_
    refine qp_istore_n dX4_spine_19 (by decide) ?_
    refine QP.locsE (L1 := [some (.ref m0), some (.int (i)), some (.int (i))]) rfl ?_
    refine qp_aload_n dX4_spine_20 rfl ?_
    refine qp_getf dX4_spine_21 fX4_29 g2 rfl ?_
    refine qp_iconst (v := 1) dX4_spine_24 (by decide) ?_
    refine qp_icmp_ne 40 dX4_spine_25 (by decide) (fun c_25 => absurd rfl c_25) (fun c_25 => ?_)
    refine qp_iload_n dX4_spine_28 rfl ?_
    refine qp_if_ne 37 dX4_spine_29 (by decide) (fun c_29 => ?_) (fun c_29 => ?_)
    · refine qp_iinc (v := i + (-1)) dX4_spine_37 rfl (by decide) rfl ?_
      refine QP.locsE (L1 := [some (.ref m0), some (.int (i)), some (.int (i + (-1)))]) rfl ?_
      refine QP.mono (fun r h' ⟨v, e, e2, e3⟩ => ⟨v, e, e2, by rw [e3]; exact g2, fun b hb => by rw [e3]; exact (o3 b hb)⟩) (lm_s40 (r := mSpine1 A i) g2 g4 _ (by rw [mSpine1, if_neg (i32_nlt.mpr c_13), if_neg c_29]))
    · refine qp_aload_n dX4_spine_32 rfl ?_
      refine qv_Ip dX4_spine_33 mX4_108 (m_letters G g2 g4) g2 rfl rfl rfl rfl rfl rfl rfl ?_
      exact qr_i dX4_spine_36 rfl rfl rfl ⟨by rw [mSpine1, if_neg (i32_nlt.mpr c_13), if_pos c_29], g2, fun b hb => (o3 b hb)⟩
  · refine qp_iconst (v := -1) dX4_spine_16 (by decide) ?_
    exact qr_i dX4_spine_17 rfl rfl rfl ⟨by rw [mSpine1, if_pos (i32_nle.mp c_13)], g2, fun b hb => (o3 b hb)⟩
set_option maxHeartbeats 4000000 in
set_option maxRecDepth 100000 in
theorem m_spineN (G : qG) {h : qH} {thr sch cnt ps pp wr sz : Int32} {m0 sa nw la sh rcm bf : Nat} (i : Int32) (nm : G.2.1 ≤ m0) (gm : h m0 = some (mdCell thr sch sa sz nw la 0 sh rcm cnt bf ps pp wr)) : qMet G M_X4_spine [.ref m0, .int i] h (qI (fun v h1 => v = -1 ∧ h1 m0 = some (mdCell 0 sch sa sz nw la 0 sh rcm cnt bf ps pp wr) ∧ ∀ b : Nat, b ≠ m0 → h1 b = h b)) := by
  refine qMet.of (by decide) (Nat.le_of_ble_eq_true rfl) rfl ?_
  refine QP.locsE (L1 := [some (.ref m0), some (.int (i)), none]) rfl ?_
  refine qp_aload_n dX4_spine_0 rfl ?_
  refine qp_iconst (v := 0) dX4_spine_1 (by decide) ?_
  refine qk_put dX4_spine_2 fX4_33 gm nm rfl rfl rfl rfl rfl (fun h1 g2 o3 => ?_)
  have g2 : h1 m0 = some (.inr (5, [.int (0), .int (sch), .ref sa, .int (sz), .ref nw, .ref la, .int (0), .ref sh, .ref rcm, .int (cnt), .ref bf, .int (ps), .int (pp), .int (wr)])) := g2
  refine qp_aload_n dX4_spine_5 rfl ?_
  refine qp_getf dX4_spine_6 fX4_91 g2 rfl ?_
  refine qp_if_eq 16 dX4_spine_9 (by decide) (fun c_9 => ?_) (fun c_9 => absurd rfl c_9)
  refine qp_iconst (v := -1) dX4_spine_16 (by decide) ?_
  exact qr_i dX4_spine_17 rfl rfl rfl ⟨rfl, g2, fun b hb => (o3 b hb)⟩
