def sPart (x : CNv) (j : Nat) : Int64 := if j = 0 then x.cd else if j = 1 then x.cut.toInt64 else if j = 2 then x.year.toInt64 else if j = 3 then x.vol.toInt64 else x.markn.toInt64
set_option maxHeartbeats 4000000 in
set_option maxRecDepth 100000 in
theorem c_part (G : qG) {h : qH} {o0 r k0 a ln : Nat} {tol : Option Nat} {x : CNv} (j : Nat) (hj : j ≤ 4) (go : h o0 = some (csCell r k0 (some a) tol)) (ga : h a = some (cnCell x ln)) : qMet G M_X3_part [.ref o0, .int (nI j)] h (qJ (fun v h1 => h1 = h ∧ v = sPart x j)) := by
  refine qMet.of (by decide) (Nat.le_of_ble_eq_true rfl) rfl ?_
  refine QP.locsE (L1 := [some (.ref o0), some (.int (nI j))]) rfl ?_
  refine qp_aload_n dX3_part_0 rfl ?_
  refine qp_getf dX3_part_1 fX3_25 go rfl ?_
  refine qp_ifnull dX3_part_4 ?_
  refine qp_iload_n dX3_part_7 rfl ?_
  refine qp_if_lt 16 dX3_part_8 (by decide) (fun c_8 => absurd c_8 (nI_pos (by omega))) (fun c_8 => ?_)
  refine qp_iload_n dX3_part_11 rfl ?_
  refine qp_iconst (v := 4) dX3_part_12 (by decide) ?_
  refine qp_icmp_le 26 dX3_part_13 (by decide) (fun c_13 => ?_) (fun c_13 => absurd ((nI_leI (b := 4) (by omega) (by decide)).mpr hj) c_13)
  refine qp_iload_n dX3_part_26 rfl ?_
  rcases (show j = 0 ∨ j = 1 ∨ j = 2 ∨ j = 3 ∨ j = 4 by omega) with rfl | rfl | rfl | rfl | rfl
  · refine qp_tableIn 56 dX3_part_27 (by decide) (by decide) rfl (by decide) ?_
    refine qp_aload_n dX3_part_56 rfl ?_
    refine qp_getf dX3_part_57 fX3_25 go rfl ?_
    refine qp_getf dX3_part_60 fX3_59 ga rfl ?_
    exact qr_l dX3_part_63 rfl rfl rfl ⟨rfl, rfl⟩
  · refine qp_tableIn 64 dX3_part_27 (by decide) (by decide) rfl (by decide) ?_
    refine qp_aload_n dX3_part_64 rfl ?_
    refine qp_getf dX3_part_65 fX3_25 go rfl ?_
    refine qp_getf dX3_part_68 fX3_63 ga rfl ?_
    refine qp_i2l dX3_part_71 ?_
    exact qr_l dX3_part_72 rfl rfl rfl ⟨rfl, rfl⟩
  · refine qp_tableIn 73 dX3_part_27 (by decide) (by decide) rfl (by decide) ?_
    refine qp_aload_n dX3_part_73 rfl ?_
    refine qp_getf dX3_part_74 fX3_25 go rfl ?_
    refine qp_getf dX3_part_77 fX3_67 ga rfl ?_
    refine qp_i2l dX3_part_80 ?_
    exact qr_l dX3_part_81 rfl rfl rfl ⟨rfl, rfl⟩
  · refine qp_tableIn 82 dX3_part_27 (by decide) (by decide) rfl (by decide) ?_
    refine qp_aload_n dX3_part_82 rfl ?_
    refine qp_getf dX3_part_83 fX3_25 go rfl ?_
    refine qp_getf dX3_part_86 fX3_70 ga rfl ?_
    refine qp_i2l dX3_part_89 ?_
    exact qr_l dX3_part_90 rfl rfl rfl ⟨rfl, rfl⟩
  · refine qp_tableOut 91 dX3_part_27 (by decide) (by decide) ?_
    refine qp_aload_n dX3_part_91 rfl ?_
    refine qp_getf dX3_part_92 fX3_25 go rfl ?_
    refine qp_getf dX3_part_95 fX3_73 ga rfl ?_
    refine qp_i2l dX3_part_98 ?_
    exact qr_l dX3_part_99 rfl rfl rfl ⟨rfl, rfl⟩
set_option maxHeartbeats 4000000 in
set_option maxRecDepth 100000 in
theorem l_part (G : qG) {h : qH} {o0 r k0 a ln ou : Nat} {tol : Option Nat} {x : CNv} {g : Nat → Int64} (j : Nat) (hj : j ≤ 4) (nu : G.2.1 ≤ ou) (go : h o0 = some (csCell r k0 (some a) tol)) (ga : h a = some (cnCell x ln)) (gu : h ou = some (.inl (2, 1, .inr (.inl g)))) : qMetX G M_L_part xHh [.ref o0, .int (nI j), .ref ou] h (qI (fun v h1 => v = 0 ∧ h1 ou = some (.inl (2, 1, .inr (.inl (vp_updL g 0 (sPart x j))))) ∧ ∀ b : Nat, b ≠ ou → h1 b = h b)) := by
  refine qMetX.of (by decide) (Nat.le_of_ble_eq_true rfl) rfl ?_
  refine QP.locsE (L1 := [some (.ref o0), some (.int (nI j)), some (.ref ou), none]) rfl ?_
  refine qp_aload_n dL_part_0 rfl ?_
  refine qp_iconst (v := 0) dL_part_1 (by decide) ?_
  refine qp_aload_n dL_part_2 rfl ?_
  refine qp_iload_n dL_part_3 rfl ?_
  refine qv_Jp dL_part_4 mL_7 (c_part G j hj go ga) go rfl rfl rfl rfl rfl rfl rfl ?_
  refine qk_last (0) dL_part_7 gu nu rfl (by omega) (by decide) (fun h4 g5 o6 => ?_)
  have g7 : h4 o0 = some (.inr (4, [.ref r, .ref k0, .ref a, va_rf (tol)])) := (o6 _ (ne_of_cells go gu (by simp))).trans go
  have g8 : h4 a = some (.inr (1, [.int (x.cl), .int (x.cc), .long (x.cd), .int (x.cap), .int (x.cut), .int (x.cutn), .int (x.year), .int (x.vol), .int (x.voll), .long (x.mark), .int (x.markn), .ref ln, .int (x.lc)])) := (o6 _ (ne_of_cells ga gu (by simp))).trans ga
  have g5 : h4 ou = some (.inl (2, 1, .inr (.inl (vp_updL (g) (0) (sPart x j))))) := g5
  refine qp_goto 14 dL_part_8 (by decide) ?_
  refine qp_iconst (v := 0) dL_part_14 (by decide) ?_
  exact qr_i dL_part_15 rfl rfl rfl ⟨rfl, g5, fun b hb => (o6 b hb)⟩
set_option maxHeartbeats 4000000 in
set_option maxRecDepth 100000 in
theorem l_partX (G : qG) {h : qH} {o0 r k0 ou : Nat} {lat tol : Option Nat} (i : Int32) (hl : G.1.stackTraces = false) (go : h o0 = some (csCell r k0 lat tol)) (hi : lat = none ∨ i < 0 ∨ 4 < i) : qMetX G M_L_part xHh [.ref o0, .int i, .ref ou] h (qI (fun v h1 => h1 = h ∧ v = 1)) := by
  refine x_lpart G i hl go hi (fun x => ?_)
  refine qp_astore_n dL_part_11 (by decide) ?_
  refine QP.locsE (L1 := [some (.ref o0), some (.int (i)), some (.ref ou), some (.ref x)]) rfl ?_
  refine qp_iconst (v := 1) dL_part_12 (by decide) ?_
  exact qr_i dL_part_13 rfl rfl rfl ⟨rfl, rfl⟩
/-- a contract whose start also asks P of the state -/
def qMetE (G : qG) (M : qM) (P : State → Prop) (av : List Value) (h : qH) (Q : Option Value → qH → Prop) : Prop :=
  Met G.1 M.1 (qWs M) M.2.2.2.2 (fun v U => qPc G av h v U ∧ P U) (qQc G Q) M.2.2.2.2.cells M.2.2.2.2.slots (fun q => G.2.1 ≤ q)
theorem qMetE.of {G : qG} {M : qM} {P : State → Prop} {av : List Value} {h : qH} {Q : Option Value → qH → Prop} {L : List (Option Value)} (hy : plainName M.1.cls = true) (hn : (lg_sl av).length ≤ M.2.2.1) (hL : qArgs av ++ List.replicate (M.2.2.1 - (lg_sl av).length) none = L)
    (k : QP G M (fun _ s => P s) (qMZ G M Q) 0 L [] h 0 0) : qMetE G M P av h Q := by
  refine Met.ofW (cc := M.2.1) (maxL := M.2.2.1) (ret := M.2.2.2.1) hy rfl ?_
  intro p e s m args below meth c s₁ B hml hv
  obtain ⟨⟨rfl, hR, hK, hN⟩, hP⟩ := hv
  have hts := atoms_spec (ws := qWs M) B.pre
  have hl := lv_entry av (n := M.2.2.1) hn
  rw [lg_entry_eq]
  exact k p e s m _ below meth c ⟨B.exec, B.bytes, hml, B.returns, B.notSynchronized, findClass_of_methodNamed B.named, fun w hw => hts w (List.mem_cons_of_mem _ hw), hK, (name_of_methodNamed B.named B.method).1, hN⟩ hP s.heap _ [] hR (qL_of_has hl hL) va_S.rf
section QPE
variable {G : qG} {M : qM} {E : qX} {Z : qZ} {pc : Nat} {L : List (Option Value)} {st : List Value} {h : qH} {cn sn : Nat}
theorem qp_callSE {index n : Nat} {As st0 : List Value} {M' : qM} {P : State → Prop} {Q' : Option Value → qH → Prop} (hd : decode M.2.1 pc = .ok (.invokestatic index, 3)) (hlk : qLkS M.1.cls index M' n) (hrm : qRm M M') (hm : qMetE G M' P As h Q') (hE1 : ∀ (args : Array Value) (s U : State), E args s → s.WarmedH U.vm → (∀ q : Nat, q < G.2.1 → U.heap[q]? = s.heap[q]?) → P U) (hPb : ∀ (U : State) (g : JFrame) (mk : MethodId) (a : Array Value), P U → P (U.calling g mk a)) (hst : st0 = As.reverse ++ st) (hn : As.length = n) (hW : (st.map fun v => v.category).sum ≤ 8) (hc : cn + M'.2.2.2.2.cells ≤ M.2.2.2.2.cells) (hs : sn + M'.2.2.2.2.slots ≤ M.2.2.2.2.slots)
    (k : ∀ (r : Option Value) (h' : qH), Q' r h' → QP G M E Z (pc + 3) L (r.toList ++ st) h' (cn + M'.2.2.2.2.cells) (sn + M'.2.2.2.2.slots)) : QP G M E Z pc L st0 h cn sn := by
  intro p e s m args below meth c C hE H ls locs hR hL hS
  obtain ⟨hx, hb, hml, hr, hlks, hown, hts, hK, hnm, hN⟩ := id C
  obtain ⟨⟨k1, k2, k3, k4⟩, k5, k7⟩ := hlk
  have hlen : ∀ sig, parseMethodDescriptor M'.1.desc = some sig → n = sig.parameters.length := fun sig hsg => by
    rw [hsg] at k4
    exact (Option.some.inj k4).symm
  have hp : PreS s H (fun v U => qPc G As h v U ∧ P U) As := ⟨fun a U g mk q => ⟨qPc.blind a U g mk q.1, hPb U g mk a q.2⟩, fun U hU hW => ⟨qpre hR hK (Nat.le_trans hN hS.1) hU hW, hE1 args s U hE hW (fun q hq => by rw [hU]; exact hS.2.1 q (Nat.lt_of_lt_of_le hq hN) (Nat.not_le.mpr hq))⟩⟩
  have hws := pay_in hts (qGood k1)
  subst hst
  rcases k7 with k7 | ⟨host, k7⟩
  · exact qgo C hE hL hS (va_runS (n := n) (Ts := qT) (own := M.1.cls) ⟨hx, hb, hml, hown, hts⟩ hm ⟨⟨rfl, rfl, hrm.1, hrm.2, hws, List.mem_cons_self, hts _ k1, hts _ k2, k3, hlen, hts _ k7⟩, hts _ k5⟩ hp rfl hn hL.1 rfl (lv_room hW) hd ⟨hc, hs⟩) k
  · exact qgo C hE hL hS (va_runSN (n := n) (Ts := qT) (own := M.1.cls) (host := host) ⟨hx, hb, hml, hown, hts⟩ hm ⟨⟨⟨rfl, rfl, hrm.1, hrm.2, hws, List.mem_cons_self⟩, hts _ k1, hts _ k2, k3, hlen, va_Nw.use rfl (hK.2.2 _ k7)⟩, hts _ k5, trivial⟩ hp rfl hn hL.1 rfl (lv_room hW) hd ⟨hc, hs⟩) k
theorem qp_callSX {index n : Nat} {hh : List (Nat × Nat × Nat × Nat)} {As st0 : List Value} {M' : qM} {Q' : Option Value → qH → Prop} (hd : decode M.2.1 pc = .ok (.invokestatic index, 3)) (hcd : Cond.codeWith M'.1 M'.2.1 M'.2.2.1 M'.2.2.2.1 hh ∈ qT) (hin : Cond.initialized M'.1.cls ∈ qT) (hy : M'.1.cls ≠ "java/lang/invoke/MethodHandle" ∧ M'.1.cls ≠ "java/lang/invoke/VarHandle") (hpn : (parseMethodDescriptor M'.1.desc).map (fun d => d.parameters.length) = some n) (hstt : Cond.static M'.1 ∈ qT) (hlk : Cond.methodLink M.1.cls index M'.1 ∈ qT) (hrm : qRm M M') (hm : qMetX G M' hh As h Q') (hE1 : ∀ (args : Array Value) (s : State), E args s → xW G.2.1 s) (hst : st0 = As.reverse ++ st) (hn : As.length = n) (hW : (st.map fun v => v.category).sum ≤ 8) (hc : cn + M'.2.2.2.2.cells ≤ M.2.2.2.2.cells) (hs : sn + M'.2.2.2.2.slots ≤ M.2.2.2.2.slots)
    (k : ∀ (r : Option Value) (h' : qH), Q' r h' → QP G M E Z (pc + 3) L (r.toList ++ st) h' (cn + M'.2.2.2.2.cells) (sn + M'.2.2.2.2.slots)) : QP G M E Z pc L st0 h cn sn := by
  intro p e s m args below meth c C hE H ls locs hR hL hS
  obtain ⟨hx, hb, hml, hr, hlks, hown, hts, hK, hnm, hN⟩ := id C
  have hws : ∀ w ∈ qWx M' hh, ∀ (a' : Array Value) (U : State), s.WarmedH U.vm → w.before a' U = true := pay_in hts (fun w hw => by
    rcases List.mem_cons.mp hw with e | e
    · subst e; exact ⟨hcd, qT_good hcd⟩
    · exact ⟨e, qT_good e⟩)
  have hBk : Back G.1 M.2.2.2.2 p e below s args M'.1 3 8 (PreOf M.2.2.2.2 M'.2.2.2.2.cells M'.2.2.2.2.slots (xPc G As h)) (PostOf (qQc G Q') M'.2.2.2.2.cells M'.2.2.2.2.slots (fun q => G.2.1 ≤ q)) :=
    va_backW (hh := hh) (bytes := M'.2.1) (maxL := M'.2.2.1) (ret := M'.2.2.2.1) hm xPc.blind rfl rfl hrm.1 hrm.2 hws List.mem_cons_self (fun a' U hW => word_at hW (qT_good hin) (hts _ hin))
  obtain ⟨mk, methM, cM, hnamed, hmethM, hcodeM, -, -, -, -, -, hsig⟩ := Cond.codeWith_spec (hts _ hcd)
  have hstatic : methM.isStatic = true := Cond.static_spec hnamed hmethM (hts _ hstt)
  obtain ⟨kP, hkP, -⟩ := className_of_methodNamed hnamed
  have hinitP : kP.init = .initialized := Cond.initialized_spec (findClass_of_methodNamed hnamed) hkP (hts _ hin)
  subst hst
  refine qgo C hE hL hS ?_ k (av := As.toArray) (M' := M')
  intro T hT X
  have hlen : As.length = methM.sig.parameters.length := by
    rw [hsig] at hpn
    exact hn.trans (Option.some.inj hpn).symm
  obtain ⟨vm₁, X₁, hstep₁⟩ := X.invokestatic hx hown (hts _ hlk) hnamed hmethM hstatic hkP hinitP hy (g := F0 m pc ls (As.reverse ++ st)) rfl (argsL := As) (rest := st) hlen rfl (by rw [hb]; exact hd)
  have hpre : PreOf M.2.2.2.2 M'.2.2.2.2.cells M'.2.2.2.2.slots (xPc G As h) ⟨T.setVm vm₁, locs, cn, sn⟩ As.toArray := by
    refine ⟨hc, hs, qpre (U := T.setVm vm₁) hR hK (Nat.le_trans hN hS.1) hT X₁.warmed, (hE1 args s hE).moved X₁.warmed (fun q hq => ?_)⟩
    show T.heap[q]? = _
    rw [hT]
    exact hS.2.1 q (Nat.lt_of_lt_of_le hq hN) (Nat.not_le.mpr hq)
  obtain ⟨v, Bp, X', hpost, hsteps⟩ := hBk m meth c ⟨T.setVm vm₁, locs, cn, sn⟩ (F0 m pc ls st) (.invokestatic index) mk As.toArray X₁ rfl (hL.1.trans hml.symm) (by rw [hb]; exact hd) (lv_room hW) (X₁.named hnamed) hpre
  obtain ⟨g', mk', t, Ls, e1, e2, hq, e3, e4, e5, e6⟩ := hpost
  rw [e3, e5, e6] at X'
  exact ⟨v, _, t, Bp.U, Ls, hT, X', e4, e1, e2, hq, fun target hs => hstep₁ _ fun acts => by rw [doInvoke_state]; exact hsteps.trans hs⟩
theorem qp_sld {b Ln : Nat} {xs : Nat → Int32} {i : Int32} (hE1 : ∀ (args : Array Value) (s : State), E args s → va_X b Ln xs s s.heap ∧ b < G.2.1) (hd : decode M.2.1 pc = .ok (.iaload, 1)) (hin : vp_in i Ln) (k : QP G M E Z (pc + 1) L (.int (xs i.toNatClampNeg) :: st) h cn sn) : QP G M E Z pc L (.int i :: .ref b :: st) h cn sn :=
  fun p e s m args below meth c C hE H ls locs hR hL hS => va_sld C.1 C.2.1 (hE1 args s hE).1 (Nat.lt_of_lt_of_le (hE1 args s hE).2 C.2.2.2.2.2.2.2.2.2) (Nat.not_le.mpr (hE1 args s hE).2) hS hin hd (k p e s m args below meth c C hE H ls locs hR hL hS)
theorem qp_slen {b Ln : Nat} {xs : Nat → Int32} (hE1 : ∀ (args : Array Value) (s : State), E args s → va_X b Ln xs s s.heap ∧ b < G.2.1) (hd : decode M.2.1 pc = .ok (.arraylength, 1)) (k : QP G M E Z (pc + 1) L (.int (nI Ln) :: st) h cn sn) : QP G M E Z pc L (.ref b :: st) h cn sn :=
  fun p e s m args below meth c C hE H ls locs hR hL hS => va_slen C.1 C.2.1 (hE1 args s hE).1 (Nat.lt_of_lt_of_le (hE1 args s hE).2 C.2.2.2.2.2.2.2.2.2) (Nat.not_le.mpr (hE1 args s hE).2) hS hd (k p e s m args below meth c C hE H ls locs hR hL hS)
end QPE
def cP (N b Ln : Nat) (xs : Nat → Int32) : State → Prop := fun s => va_X b Ln xs s s.heap ∧ b < N
def cellV (Ln : Nat) (xs : Nat → Int32) (k : Nat) : Int32 := if k < Ln then xs k else 0
set_option maxHeartbeats 4000000 in
set_option maxRecDepth 100000 in
theorem l_cell (G : qG) {h : qH} {b Ln : Nat} {xs : Nat → Int32} (hL : Ln ≤ 1537) : qMetE G M_L_cell (cP G.2.1 b Ln xs) [.ref b, .int 0] h (qI (fun v h1 => h1 = h ∧ v = cellV Ln xs 0)) := by
  refine qMetE.of (by decide) (Nat.le_of_ble_eq_true rfl) rfl ?_
  refine QP.locsE (L1 := [some (.ref b), some (.int 0)]) rfl ?_
  refine qp_iload_n dL_cell_0 rfl ?_
  refine qp_aload_n dL_cell_1 rfl ?_
  refine qp_slen (b := b) (fun _ _ q => q) dL_cell_2 ?_
  refine qp_icmp_ge 12 dL_cell_3 (by decide) (fun q => ?_) (fun q => ?_)
  · have h0 : Ln ≤ 0 := (nI_leI (b := 0) (by omega) (by decide)).mp q
    refine qp_iconst (v := 0) dL_cell_12 (by decide) ?_
    exact qr_i dL_cell_13 rfl rfl rfl ⟨rfl, by rw [cellV, if_neg (by omega)]⟩
  · have h0 : 0 < Ln := Nat.not_le.mp fun q2 => q ((nI_leI (b := 0) (by omega) (by decide)).mpr q2)
    refine qp_aload_n dL_cell_6 rfl ?_
    refine qp_iload_n dL_cell_7 rfl ?_
    refine qp_sld (b := b) (fun _ _ q => q) dL_cell_8 (vp_in_nI (n := 0) h0 (by omega)) ?_
    refine qp_goto 13 dL_cell_9 (by decide) ?_
    exact qr_i dL_cell_13 rfl rfl rfl ⟨rfl, by rw [cellV, if_pos h0]; rfl⟩
