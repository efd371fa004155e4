/-! ===== the law: its walk ===== -/
abbrev M_law : qM := (x, code, 8, ret, room_1)
abbrev L8 (b o0 m0 ou i : Nat) : List (Option Value) := [some (.ref b), some (.ref o0), some (.ref m0), some (.ref ou), some (.int (nI i)), none, none, none]
def lE (G : qG) (b Ln : Nat) (xs : Nat → Int32) : qX := fun args s => (xW G.2.1 s ∧ args = #[Value.ref b] ∧ G.2.1 = s.heap.size) ∧ va_X b Ln xs s s.heap ∧ b < G.2.1
theorem qp_sldN {G : qG} {M : qM} {E : qX} {Z : qZ} {pc : Nat} {L : List (Option Value)} {st : List Value} {h : qH} {cn sn : Nat} {b Ln : Nat} {xs : Nat → Int32} {v : Int32} (j : Nat) (hE1 : ∀ (args : Array Value) (s : State), E args s → va_X b Ln xs s s.heap ∧ b < G.2.1) (hd : decode M.2.1 pc = .ok (.iaload, 1)) (hv : v = nI j) (hj : j < Ln) (hL : Ln ≤ 1537) (k : QP G M E Z (pc + 1) L (.int (xs j) :: st) h cn sn) : QP G M E Z pc L (.int v :: .ref b :: st) h cn sn := by
  subst hv
  refine qp_sld hE1 hd (vp_in_nI (n := j) hj (by omega)) ?_
  rw [nI_clamp (by omega)]
  exact k
theorem nI2 (n : Nat) : nI n + 2 = nI (n + 2) := by rw [show (2 : Int32) = nI 2 from rfl, nI_add]
/-- where a step of the law goes on -/
def KT (G : qG) (E : qX) (Z : qZ) (b o0 m0 ou i cn sn : Nat) : Prop := ∀ (h' : qH) (cn' sn' : Nat), LawI G h' o0 m0 ou → cn' ≤ cn + 2 → sn' ≤ sn + 19 → QP G M_law E Z 416 (L8 b o0 m0 ou i) [] h' cn' sn'
section LWK
variable {G : qG} {Z : qZ} {b Ln : Nat} {xs : Nat → Int32} {o0 m0 ou i : Nat} {h : qH} {cn sn : Nat}
set_option maxHeartbeats 4000000 in
set_option maxRecDepth 100000 in
theorem law_sign (hI : LawI G h o0 m0 ou) (hL : Ln ≤ 1537) (hi : i + 2 < Ln) (hcn : cn + 100 ≤ 601024) (hsn : sn + 1000 ≤ 7293000) (k : KT G (lE G b Ln xs) Z b o0 m0 ou i cn sn) : QP G M_law (lE G b Ln xs) Z 112 (L8 b o0 m0 ou i) [] h cn sn := by
  obtain ⟨⟨fs, go⟩, Qc, hc, k1⟩ := pair_sign hI (xs (i + 1))
  refine qp_aload_n dL_law_112 rfl ?_
  refine qp_aload_n dL_law_113 rfl ?_
  refine qp_iload dL_law_114 rfl ?_
  refine qp_iconst (v := 1) dL_law_116 (by decide) ?_
  refine qp_iadd dL_law_117 ?_
  refine qp_sldN (b := b) (i + 1) (fun _ _ q => q.2) dL_law_118 (nI1 i) (by omega) hL ?_
  refine qv_V (As := [.int (xs (i + 1))]) dL_law_119 mL_27 hc go rfl rfl rfl rfl rfl (Nat.ble_eq.mpr (show cn + 0 ≤ 601024 by omega)) (Nat.ble_eq.mpr (show sn + 0 ≤ 7293000 by omega)) (fun h1 q1 => ?_)
  obtain ⟨⟨fs1, gm⟩, Qm, hm, k2⟩ := k1 h1 q1
  refine qp_aload_n dL_law_122 rfl ?_
  refine qp_aload_n dL_law_123 rfl ?_
  refine qp_iload dL_law_124 rfl ?_
  refine qp_iconst (v := 1) dL_law_126 (by decide) ?_
  refine qp_iadd dL_law_127 ?_
  refine qp_sldN (b := b) (i + 1) (fun _ _ q => q.2) dL_law_128 (nI1 i) (by omega) hL ?_
  refine qv_V (As := [.int (xs (i + 1))]) dL_law_129 mL_30 hm gm rfl rfl rfl rfl rfl (Nat.ble_eq.mpr (show cn + 0 + 0 ≤ 601024 by omega)) (Nat.ble_eq.mpr (show sn + 0 + 0 ≤ 7293000 by omega)) (fun h2 q2 => ?_)
  refine qp_goto 416 dL_law_132 (by decide) ?_
  exact k h2 _ _ (k2 h2 q2) (show cn + 0 + 0 ≤ cn + 2 by omega) (show sn + 0 + 0 ≤ sn + 19 by omega)
set_option maxHeartbeats 4000000 in
set_option maxRecDepth 100000 in
theorem law_read (hI : LawI G h o0 m0 ou) (hL : Ln ≤ 1537) (hi : i + 2 < Ln) (hcn : cn + 100 ≤ 601024) (hsn : sn + 1000 ≤ 7293000) (k : KT G (lE G b Ln xs) Z b o0 m0 ou i cn sn) : QP G M_law (lE G b Ln xs) Z 135 (L8 b o0 m0 ou i) [] h cn sn := by
  obtain ⟨⟨fs, go⟩, Qc, hc, k1⟩ := pair_read hI
  refine qp_aload_n dL_law_135 rfl ?_
  refine qv_I (As := []) dL_law_136 mL_31 hc go rfl rfl rfl rfl rfl (Nat.ble_eq.mpr (show cn + 2 ≤ 601024 by omega)) (Nat.ble_eq.mpr (show sn + 19 ≤ 7293000 by omega)) (fun v h1 q1 => ?_)
  obtain ⟨⟨fs1, gm⟩, Qm, hm, k2⟩ := k1 v h1 q1
  refine qp_aload_n dL_law_139 rfl ?_
  refine qv_I (As := []) dL_law_140 mL_35 hm gm rfl rfl rfl rfl rfl (Nat.ble_eq.mpr (show cn + 2 + 0 ≤ 601024 by omega)) (Nat.ble_eq.mpr (show sn + 19 + 0 ≤ 7293000 by omega)) (fun u h2 q2 => ?_)
  obtain ⟨e, hI2⟩ := k2 u h2 q2
  refine qp_icmp_eq 416 dL_law_143 (by decide) (fun _ => ?_) (fun ne => absurd e ne)
  exact k h2 _ _ hI2 (show cn + 2 + 0 ≤ cn + 2 by omega) (show sn + 19 + 0 ≤ sn + 19 by omega)
set_option maxHeartbeats 4000000 in
set_option maxRecDepth 100000 in
theorem law_letter (hI : LawI G h o0 m0 ou) (hL : Ln ≤ 1537) (hi : i + 2 < Ln) (hcn : cn + 100 ≤ 601024) (hsn : sn + 1000 ≤ 7293000) (k : KT G (lE G b Ln xs) Z b o0 m0 ou i cn sn) : QP G M_law (lE G b Ln xs) Z 203 (L8 b o0 m0 ou i) [] h cn sn := by
  obtain ⟨⟨fs, go⟩, Qc, hc, k1⟩ := pair_letter hI (xs (i + 1))
  refine qp_aload_n dL_law_203 rfl ?_
  refine qp_aload_n dL_law_204 rfl ?_
  refine qp_iload dL_law_205 rfl ?_
  refine qp_iconst (v := 1) dL_law_207 (by decide) ?_
  refine qp_iadd dL_law_208 ?_
  refine qp_sldN (b := b) (i + 1) (fun _ _ q => q.2) dL_law_209 (nI1 i) (by omega) hL ?_
  refine qv_I (As := [.int (xs (i + 1))]) dL_law_210 mL_43 hc go rfl rfl rfl rfl rfl (Nat.ble_eq.mpr (show cn + 0 ≤ 601024 by omega)) (Nat.ble_eq.mpr (show sn + 0 ≤ 7293000 by omega)) (fun v h1 q1 => ?_)
  obtain ⟨⟨fs1, gm⟩, Qm, hm, k2⟩ := k1 v h1 q1
  refine qp_aload_n dL_law_213 rfl ?_
  refine qp_aload_n dL_law_214 rfl ?_
  refine qp_iload dL_law_215 rfl ?_
  refine qp_iconst (v := 1) dL_law_217 (by decide) ?_
  refine qp_iadd dL_law_218 ?_
  refine qp_sldN (b := b) (i + 1) (fun _ _ q => q.2) dL_law_219 (nI1 i) (by omega) hL ?_
  refine qv_I (As := [.int (xs (i + 1))]) dL_law_220 mL_47 hm gm rfl rfl rfl rfl rfl (Nat.ble_eq.mpr (show cn + 0 + 0 ≤ 601024 by omega)) (Nat.ble_eq.mpr (show sn + 0 + 0 ≤ 7293000 by omega)) (fun u h2 q2 => ?_)
  obtain ⟨e, hI2⟩ := k2 u h2 q2
  refine qp_icmp_eq 416 dL_law_223 (by decide) (fun _ => ?_) (fun ne => absurd e ne)
  exact k h2 _ _ hI2 (show cn + 0 + 0 ≤ cn + 2 by omega) (show sn + 0 + 0 ≤ sn + 19 by omega)
set_option maxHeartbeats 4000000 in
set_option maxRecDepth 100000 in
theorem law_put (hI : LawI G h o0 m0 ou) (hL : Ln ≤ 1537) (hi : i + 2 < Ln) (hcn : cn + 100 ≤ 601024) (hsn : sn + 1000 ≤ 7293000) (k : KT G (lE G b Ln xs) Z b o0 m0 ou i cn sn) : QP G M_law (lE G b Ln xs) Z 228 (L8 b o0 m0 ou i) [] h cn sn := by
  obtain ⟨⟨fs, go⟩, Qc, hc, k1⟩ := pair_put hI (xs (i + 1))
  refine qp_aload_n dL_law_228 rfl ?_
  refine qp_aload_n dL_law_229 rfl ?_
  refine qp_iload dL_law_230 rfl ?_
  refine qp_iconst (v := 1) dL_law_232 (by decide) ?_
  refine qp_iadd dL_law_233 ?_
  refine qp_sldN (b := b) (i + 1) (fun _ _ q => q.2) dL_law_234 (nI1 i) (by omega) hL ?_
  refine qv_I (As := [.int (xs (i + 1))]) dL_law_235 mL_48 hc go rfl rfl rfl rfl rfl (Nat.ble_eq.mpr (show cn + 0 ≤ 601024 by omega)) (Nat.ble_eq.mpr (show sn + 0 ≤ 7293000 by omega)) (fun v h1 q1 => ?_)
  obtain ⟨⟨fs1, gm⟩, Qm, hm, k2⟩ := k1 v h1 q1
  refine qp_aload_n dL_law_238 rfl ?_
  refine qp_aload_n dL_law_239 rfl ?_
  refine qp_iload dL_law_240 rfl ?_
  refine qp_iconst (v := 1) dL_law_242 (by decide) ?_
  refine qp_iadd dL_law_243 ?_
  refine qp_sldN (b := b) (i + 1) (fun _ _ q => q.2) dL_law_244 (nI1 i) (by omega) hL ?_
  refine qv_I (As := [.int (xs (i + 1))]) dL_law_245 mL_51 hm gm rfl rfl rfl rfl rfl (Nat.ble_eq.mpr (show cn + 0 + 0 ≤ 601024 by omega)) (Nat.ble_eq.mpr (show sn + 0 + 0 ≤ 7293000 by omega)) (fun u h2 q2 => ?_)
  obtain ⟨e, hI2⟩ := k2 u h2 q2
  refine qp_icmp_eq 416 dL_law_248 (by decide) (fun _ => ?_) (fun ne => absurd e ne)
  exact k h2 _ _ hI2 (show cn + 0 + 0 ≤ cn + 2 by omega) (show sn + 0 + 0 ≤ sn + 19 by omega)
set_option maxHeartbeats 4000000 in
set_option maxRecDepth 100000 in
theorem law_shelf (hI : LawI G h o0 m0 ou) (hL : Ln ≤ 1537) (hi : i + 2 < Ln) (hcn : cn + 100 ≤ 601024) (hsn : sn + 1000 ≤ 7293000) (k : KT G (lE G b Ln xs) Z b o0 m0 ou i cn sn) : QP G M_law (lE G b Ln xs) Z 253 (L8 b o0 m0 ou i) [] h cn sn := by
  obtain ⟨⟨fs, go⟩, Qc, hc, k1⟩ := pair_shelf hI (xs (i + 1))
  refine qp_aload_n dL_law_253 rfl ?_
  refine qp_aload_n dL_law_254 rfl ?_
  refine qp_iload dL_law_255 rfl ?_
  refine qp_iconst (v := 1) dL_law_257 (by decide) ?_
  refine qp_iadd dL_law_258 ?_
  refine qp_sldN (b := b) (i + 1) (fun _ _ q => q.2) dL_law_259 (nI1 i) (by omega) hL ?_
  refine qv_I (As := [.int (xs (i + 1))]) dL_law_260 mL_52 hc go rfl rfl rfl rfl rfl (Nat.ble_eq.mpr (show cn + 0 ≤ 601024 by omega)) (Nat.ble_eq.mpr (show sn + 0 ≤ 7293000 by omega)) (fun v h1 q1 => ?_)
  obtain ⟨⟨fs1, gm⟩, Qm, hm, k2⟩ := k1 v h1 q1
  refine qp_aload_n dL_law_263 rfl ?_
  refine qp_aload_n dL_law_264 rfl ?_
  refine qp_iload dL_law_265 rfl ?_
  refine qp_iconst (v := 1) dL_law_267 (by decide) ?_
  refine qp_iadd dL_law_268 ?_
  refine qp_sldN (b := b) (i + 1) (fun _ _ q => q.2) dL_law_269 (nI1 i) (by omega) hL ?_
  refine qv_I (As := [.int (xs (i + 1))]) dL_law_270 mL_55 hm gm rfl rfl rfl rfl rfl (Nat.ble_eq.mpr (show cn + 0 + 0 ≤ 601024 by omega)) (Nat.ble_eq.mpr (show sn + 0 + 0 ≤ 7293000 by omega)) (fun u h2 q2 => ?_)
  obtain ⟨e, hI2⟩ := k2 u h2 q2
  refine qp_icmp_eq 416 dL_law_273 (by decide) (fun _ => ?_) (fun ne => absurd e ne)
  exact k h2 _ _ hI2 (show cn + 0 + 0 ≤ cn + 2 by omega) (show sn + 0 + 0 ≤ sn + 19 by omega)
set_option maxHeartbeats 4000000 in
set_option maxRecDepth 100000 in
theorem law_take (hI : LawI G h o0 m0 ou) (hL : Ln ≤ 1537) (hi : i + 2 < Ln) (hcn : cn + 100 ≤ 601024) (hsn : sn + 1000 ≤ 7293000) (k : KT G (lE G b Ln xs) Z b o0 m0 ou i cn sn) : QP G M_law (lE G b Ln xs) Z 278 (L8 b o0 m0 ou i) [] h cn sn := by
  obtain ⟨⟨fs, go⟩, Qc, hc, k1⟩ := pair_take hI (xs (i + 1))
  refine qp_aload_n dL_law_278 rfl ?_
  refine qp_aload_n dL_law_279 rfl ?_
  refine qp_iload dL_law_280 rfl ?_
  refine qp_iconst (v := 1) dL_law_282 (by decide) ?_
  refine qp_iadd dL_law_283 ?_
  refine qp_sldN (b := b) (i + 1) (fun _ _ q => q.2) dL_law_284 (nI1 i) (by omega) hL ?_
  refine qv_I (As := [.int (xs (i + 1))]) dL_law_285 mL_56 hc go rfl rfl rfl rfl rfl (Nat.ble_eq.mpr (show cn + 0 ≤ 601024 by omega)) (Nat.ble_eq.mpr (show sn + 0 ≤ 7293000 by omega)) (fun v h1 q1 => ?_)
  obtain ⟨⟨fs1, gm⟩, Qm, hm, k2⟩ := k1 v h1 q1
  refine qp_aload_n dL_law_288 rfl ?_
  refine qp_aload_n dL_law_289 rfl ?_
  refine qp_iload dL_law_290 rfl ?_
  refine qp_iconst (v := 1) dL_law_292 (by decide) ?_
  refine qp_iadd dL_law_293 ?_
  refine qp_sldN (b := b) (i + 1) (fun _ _ q => q.2) dL_law_294 (nI1 i) (by omega) hL ?_
  refine qv_I (As := [.int (xs (i + 1))]) dL_law_295 mL_59 hm gm rfl rfl rfl rfl rfl (Nat.ble_eq.mpr (show cn + 0 + 0 ≤ 601024 by omega)) (Nat.ble_eq.mpr (show sn + 0 + 0 ≤ 7293000 by omega)) (fun u h2 q2 => ?_)
  obtain ⟨e, hI2⟩ := k2 u h2 q2
  refine qp_icmp_eq 416 dL_law_298 (by decide) (fun _ => ?_) (fun ne => absurd e ne)
  exact k h2 _ _ hI2 (show cn + 0 + 0 ≤ cn + 2 by omega) (show sn + 0 + 0 ≤ sn + 19 by omega)
set_option maxHeartbeats 4000000 in
set_option maxRecDepth 100000 in
theorem law_compare (hI : LawI G h o0 m0 ou) (hL : Ln ≤ 1537) (hi : i + 2 < Ln) (hcn : cn + 100 ≤ 601024) (hsn : sn + 1000 ≤ 7293000) (k : KT G (lE G b Ln xs) Z b o0 m0 ou i cn sn) : QP G M_law (lE G b Ln xs) Z 303 (L8 b o0 m0 ou i) [] h cn sn := by
  obtain ⟨⟨fs, go⟩, Qc, hc, k1⟩ := pair_compare hI (xs (i + 1)) (xs (i + 2))
  refine qp_aload_n dL_law_303 rfl ?_
  refine qp_aload_n dL_law_304 rfl ?_
  refine qp_iload dL_law_305 rfl ?_
  refine qp_iconst (v := 1) dL_law_307 (by decide) ?_
  refine qp_iadd dL_law_308 ?_
  refine qp_sldN (b := b) (i + 1) (fun _ _ q => q.2) dL_law_309 (nI1 i) (by omega) hL ?_
  refine qp_aload_n dL_law_310 rfl ?_
  refine qp_iload dL_law_311 rfl ?_
  refine qp_iconst (v := 2) dL_law_313 (by decide) ?_
  refine qp_iadd dL_law_314 ?_
  refine qp_sldN (b := b) (i + 2) (fun _ _ q => q.2) dL_law_315 (nI2 i) (by omega) hL ?_
  refine qv_I (As := [.int (xs (i + 1)), .int (xs (i + 2))]) dL_law_316 mL_60 hc go rfl rfl rfl rfl rfl (Nat.ble_eq.mpr (show cn + 0 ≤ 601024 by omega)) (Nat.ble_eq.mpr (show sn + 0 ≤ 7293000 by omega)) (fun v h1 q1 => ?_)
  obtain ⟨⟨fs1, gm⟩, Qm, hm, k2⟩ := k1 v h1 q1
  refine qp_aload_n dL_law_319 rfl ?_
  refine qp_aload_n dL_law_320 rfl ?_
  refine qp_iload dL_law_321 rfl ?_
  refine qp_iconst (v := 1) dL_law_323 (by decide) ?_
  refine qp_iadd dL_law_324 ?_
  refine qp_sldN (b := b) (i + 1) (fun _ _ q => q.2) dL_law_325 (nI1 i) (by omega) hL ?_
  refine qp_aload_n dL_law_326 rfl ?_
  refine qp_iload dL_law_327 rfl ?_
  refine qp_iconst (v := 2) dL_law_329 (by decide) ?_
  refine qp_iadd dL_law_330 ?_
  refine qp_sldN (b := b) (i + 2) (fun _ _ q => q.2) dL_law_331 (nI2 i) (by omega) hL ?_
  refine qv_I (As := [.int (xs (i + 1)), .int (xs (i + 2))]) dL_law_332 mL_64 hm gm rfl rfl rfl rfl rfl (Nat.ble_eq.mpr (show cn + 0 + 0 ≤ 601024 by omega)) (Nat.ble_eq.mpr (show sn + 0 + 0 ≤ 7293000 by omega)) (fun u h2 q2 => ?_)
  obtain ⟨e, hI2⟩ := k2 u h2 q2
  refine qp_icmp_eq 416 dL_law_335 (by decide) (fun _ => ?_) (fun ne => absurd e ne)
  exact k h2 _ _ hI2 (show cn + 0 + 0 ≤ cn + 2 by omega) (show sn + 0 + 0 ≤ sn + 19 by omega)
set_option maxHeartbeats 4000000 in
set_option maxRecDepth 100000 in
theorem law_before (hI : LawI G h o0 m0 ou) (hL : Ln ≤ 1537) (hi : i + 2 < Ln) (hcn : cn + 100 ≤ 601024) (hsn : sn + 1000 ≤ 7293000) (k : KT G (lE G b Ln xs) Z b o0 m0 ou i cn sn) : QP G M_law (lE G b Ln xs) Z 340 (L8 b o0 m0 ou i) [] h cn sn := by
  obtain ⟨⟨fs, go⟩, Qc, hc, k1⟩ := pair_before hI
  refine qp_aload_n dL_law_340 rfl ?_
  refine qv_I (As := []) dL_law_341 mL_65 hc go rfl rfl rfl rfl rfl (Nat.ble_eq.mpr (show cn + 0 ≤ 601024 by omega)) (Nat.ble_eq.mpr (show sn + 0 ≤ 7293000 by omega)) (fun v h1 q1 => ?_)
  obtain ⟨⟨fs1, gm⟩, Qm, hm, k2⟩ := k1 v h1 q1
  refine qp_aload_n dL_law_344 rfl ?_
  refine qv_I (As := []) dL_law_345 mL_68 hm gm rfl rfl rfl rfl rfl (Nat.ble_eq.mpr (show cn + 0 + 0 ≤ 601024 by omega)) (Nat.ble_eq.mpr (show sn + 0 + 0 ≤ 7293000 by omega)) (fun u h2 q2 => ?_)
  obtain ⟨e, hI2⟩ := k2 u h2 q2
  refine qp_icmp_eq 416 dL_law_348 (by decide) (fun _ => ?_) (fun ne => absurd e ne)
  exact k h2 _ _ hI2 (show cn + 0 + 0 ≤ cn + 2 by omega) (show sn + 0 + 0 ≤ sn + 19 by omega)
set_option maxHeartbeats 4000000 in
set_option maxRecDepth 100000 in
theorem law_free (hI : LawI G h o0 m0 ou) (hL : Ln ≤ 1537) (hi : i + 2 < Ln) (hcn : cn + 100 ≤ 601024) (hsn : sn + 1000 ≤ 7293000) (k : KT G (lE G b Ln xs) Z b o0 m0 ou i cn sn) : QP G M_law (lE G b Ln xs) Z 353 (L8 b o0 m0 ou i) [] h cn sn := by
  obtain ⟨⟨fs, go⟩, Qc, hc, k1⟩ := pair_free hI
  refine qp_aload_n dL_law_353 rfl ?_
  refine qv_I (As := []) dL_law_354 mL_69 hc go rfl rfl rfl rfl rfl (Nat.ble_eq.mpr (show cn + 0 ≤ 601024 by omega)) (Nat.ble_eq.mpr (show sn + 0 ≤ 7293000 by omega)) (fun v h1 q1 => ?_)
  obtain ⟨⟨fs1, gm⟩, Qm, hm, k2⟩ := k1 v h1 q1
  refine qp_aload_n dL_law_357 rfl ?_
  refine qv_I (As := []) dL_law_358 mL_72 hm gm rfl rfl rfl rfl rfl (Nat.ble_eq.mpr (show cn + 0 + 0 ≤ 601024 by omega)) (Nat.ble_eq.mpr (show sn + 0 + 0 ≤ 7293000 by omega)) (fun u h2 q2 => ?_)
  obtain ⟨e, hI2⟩ := k2 u h2 q2
  refine qp_icmp_eq 416 dL_law_361 (by decide) (fun _ => ?_) (fun ne => absurd e ne)
  exact k h2 _ _ hI2 (show cn + 0 + 0 ≤ cn + 2 by omega) (show sn + 0 + 0 ≤ sn + 19 by omega)
set_option maxHeartbeats 4000000 in
set_option maxRecDepth 100000 in
theorem law_spine (hI : LawI G h o0 m0 ou) (hL : Ln ≤ 1537) (hi : i + 2 < Ln) (hcn : cn + 100 ≤ 601024) (hsn : sn + 1000 ≤ 7293000) (k : KT G (lE G b Ln xs) Z b o0 m0 ou i cn sn) : QP G M_law (lE G b Ln xs) Z 366 (L8 b o0 m0 ou i) [] h cn sn := by
  obtain ⟨⟨fs, go⟩, Qc, hc, k1⟩ := pair_spine hI (xs (i + 1))
  refine qp_aload_n dL_law_366 rfl ?_
  refine qp_aload_n dL_law_367 rfl ?_
  refine qp_iload dL_law_368 rfl ?_
  refine qp_iconst (v := 1) dL_law_370 (by decide) ?_
  refine qp_iadd dL_law_371 ?_
  refine qp_sldN (b := b) (i + 1) (fun _ _ q => q.2) dL_law_372 (nI1 i) (by omega) hL ?_
  refine qv_I (As := [.int (xs (i + 1))]) dL_law_373 mL_73 hc go rfl rfl rfl rfl rfl (Nat.ble_eq.mpr (show cn + 0 ≤ 601024 by omega)) (Nat.ble_eq.mpr (show sn + 0 ≤ 7293000 by omega)) (fun v h1 q1 => ?_)
  obtain ⟨⟨fs1, gm⟩, Qm, hm, k2⟩ := k1 v h1 q1
  refine qp_aload_n dL_law_376 rfl ?_
  refine qp_aload_n dL_law_377 rfl ?_
  refine qp_iload dL_law_378 rfl ?_
  refine qp_iconst (v := 1) dL_law_380 (by decide) ?_
  refine qp_iadd dL_law_381 ?_
  refine qp_sldN (b := b) (i + 1) (fun _ _ q => q.2) dL_law_382 (nI1 i) (by omega) hL ?_
  refine qv_I (As := [.int (xs (i + 1))]) dL_law_383 mL_76 hm gm rfl rfl rfl rfl rfl (Nat.ble_eq.mpr (show cn + 0 + 0 ≤ 601024 by omega)) (Nat.ble_eq.mpr (show sn + 0 + 0 ≤ 7293000 by omega)) (fun u h2 q2 => ?_)
  obtain ⟨e, hI2⟩ := k2 u h2 q2
  refine qp_icmp_eq 416 dL_law_386 (by decide) (fun _ => ?_) (fun ne => absurd e ne)
  exact k h2 _ _ hI2 (show cn + 0 + 0 ≤ cn + 2 by omega) (show sn + 0 + 0 ≤ sn + 19 by omega)
set_option maxHeartbeats 4000000 in
set_option maxRecDepth 100000 in
theorem law_pass (hI : LawI G h o0 m0 ou) (hL : Ln ≤ 1537) (hi : i + 2 < Ln) (hcn : cn + 100 ≤ 601024) (hsn : sn + 1000 ≤ 7293000) (k : KT G (lE G b Ln xs) Z b o0 m0 ou i cn sn) : QP G M_law (lE G b Ln xs) Z 391 (L8 b o0 m0 ou i) [] h cn sn := by
  obtain ⟨⟨fs, go⟩, Qc, hc, k1⟩ := pair_pass hI (xs (i + 1))
  refine qp_aload_n dL_law_391 rfl ?_
  refine qp_aload_n dL_law_392 rfl ?_
  refine qp_iload dL_law_393 rfl ?_
  refine qp_iconst (v := 1) dL_law_395 (by decide) ?_
  refine qp_iadd dL_law_396 ?_
  refine qp_sldN (b := b) (i + 1) (fun _ _ q => q.2) dL_law_397 (nI1 i) (by omega) hL ?_
  refine qv_I (As := [.int (xs (i + 1))]) dL_law_398 mL_77 hc go rfl rfl rfl rfl rfl (Nat.ble_eq.mpr (show cn + 0 ≤ 601024 by omega)) (Nat.ble_eq.mpr (show sn + 0 ≤ 7293000 by omega)) (fun v h1 q1 => ?_)
  obtain ⟨⟨fs1, gm⟩, Qm, hm, k2⟩ := k1 v h1 q1
  refine qp_aload_n dL_law_401 rfl ?_
  refine qp_aload_n dL_law_402 rfl ?_
  refine qp_iload dL_law_403 rfl ?_
  refine qp_iconst (v := 1) dL_law_405 (by decide) ?_
  refine qp_iadd dL_law_406 ?_
  refine qp_sldN (b := b) (i + 1) (fun _ _ q => q.2) dL_law_407 (nI1 i) (by omega) hL ?_
  refine qv_I (As := [.int (xs (i + 1))]) dL_law_408 mL_80 hm gm rfl rfl rfl rfl rfl (Nat.ble_eq.mpr (show cn + 0 + 0 ≤ 601024 by omega)) (Nat.ble_eq.mpr (show sn + 0 + 0 ≤ 7293000 by omega)) (fun u h2 q2 => ?_)
  obtain ⟨e, hI2⟩ := k2 u h2 q2
  refine qp_icmp_eq 416 dL_law_411 (by decide) (fun _ => ?_) (fun ne => absurd e ne)
  exact k h2 _ _ hI2 (show cn + 0 + 0 ≤ cn + 2 by omega) (show sn + 0 + 0 ≤ sn + 19 by omega)
set_option maxHeartbeats 4000000 in
set_option maxRecDepth 100000 in
theorem law_part (ht : G.1.stackTraces = false) (hI : LawI G h o0 m0 ou) (hL : Ln ≤ 1537) (hi : i + 2 < Ln) (hcn : cn + 100 ≤ 601024) (hsn : sn + 1000 ≤ 7293000) (k : KT G (lE G b Ln xs) Z b o0 m0 ou i cn sn) : QP G M_law (lE G b Ln xs) Z 148 (L8 b o0 m0 ou i) [] h cn sn := by
  obtain ⟨Qc, hc, k1⟩ := pair_part ht hI (xs (i + 1))
  refine qp_aload_n dL_law_148 rfl ?_
  refine qp_aload_n dL_law_149 rfl ?_
  refine qp_iload dL_law_150 rfl ?_
  refine qp_iconst (v := 1) dL_law_152 (by decide) ?_
  refine qp_iadd dL_law_153 ?_
  refine qp_sldN (b := b) (i + 1) (fun _ _ q => q.2) dL_law_154 (nI1 i) (by omega) hL ?_
  refine qp_aload_n dL_law_155 rfl ?_
  refine qp_callSX (n := 3) (As := [.ref o0, .int (xs (i + 1)), .ref ou]) (M' := M_L_part) dL_law_156 cdL_part iniL (by decide) (by decide +kernel) kdL_part lkmL_36 ⟨by decide, by decide⟩ hc (fun _ _ q => q.1.1) rfl rfl (by decide) (show cn + 1 ≤ 601024 by omega) (show sn + 6 ≤ 7293000 by omega) (fun r h1 q => ?_)
  obtain ⟨kk, rfl, q1⟩ := q
  obtain ⟨⟨fs1, gm⟩, Qm, hm, k2⟩ := k1 kk h1 q1
  refine qp_istore dL_law_159 (by decide) ?_
  refine QP.locsE (L1 := [some (.ref b), some (.ref o0), some (.ref m0), some (.ref ou), some (.int (nI i)), some (.int kk), none, none]) rfl ?_
  refine qp_aload_n dL_law_161 rfl ?_
  refine qp_aload_n dL_law_162 rfl ?_
  refine qp_iload dL_law_163 rfl ?_
  refine qp_iconst (v := 1) dL_law_165 (by decide) ?_
  refine qp_iadd dL_law_166 ?_
  refine qp_sldN (b := b) (i + 1) (fun _ _ q => q.2) dL_law_167 (nI1 i) (by omega) hL ?_
  refine qv_J (As := [.int (xs (i + 1))]) dL_law_168 mL_39 hm gm rfl rfl rfl rfl rfl (Nat.ble_eq.mpr (show cn + 1 + 0 ≤ 601024 by omega)) (Nat.ble_eq.mpr (show sn + 6 + 0 ≤ 7293000 by omega)) (fun bv h2 q2 => ?_)
  obtain ⟨⟨fs2, gm2⟩, htn, k0, hI2⟩ := k2 bv h2 q2
  refine qp_lstore dL_law_171 (by decide) ?_
  refine QP.locsE (L1 := [some (.ref b), some (.ref o0), some (.ref m0), some (.ref ou), some (.int (nI i)), some (.int kk), some (.long bv), none]) rfl ?_
  refine qp_aload_n dL_law_173 rfl ?_
  refine qv_Ip (As := []) dL_law_174 mL_40 htn gm2 rfl rfl rfl rfl rfl (Nat.ble_eq.mpr (show cn + 1 + 0 + 0 ≤ 601024 by omega)) (Nat.ble_eq.mpr (show sn + 6 + 0 + 0 ≤ 7293000 by omega)) ?_
  refine qp_iload dL_law_177 rfl ?_
  refine qp_icmp_eq 184 dL_law_179 (by decide) (fun _ => ?_) (fun ne => absurd rfl ne)
  refine qp_iload dL_law_184 rfl ?_
  have fin : QP G M_law (lE G b Ln xs) Z 200 [some (.ref b), some (.ref o0), some (.ref m0), some (.ref ou), some (.int (nI i)), some (.int kk), some (.long bv), none] [] h2 (cn + 1 + 0 + 0) (sn + 6 + 0 + 0) := by
    refine qp_goto 416 dL_law_200 (by decide) ?_
    refine QP.locs (L' := L8 b o0 m0 ou i) (fun j v hj => ?_) (k h2 _ _ hI2 (by omega) (by omega))
    rcases j with _ | _ | _ | _ | _ | _ | _ | _ | j <;> simp_all
  refine qp_if_ne 200 dL_law_186 (by decide) (fun _ => fin) (fun e0 => ?_)
  obtain ⟨gO, gu, e1⟩ := k0 e0
  refine qp_aload_n dL_law_189 rfl ?_
  refine qp_iconst (v := 0) dL_law_190 (by decide) ?_
  refine qp_laldN 0 dL_law_191 gu rfl (by decide) (by decide) ?_
  refine qp_lload dL_law_192 rfl ?_
  refine qp_lcmp dL_law_194 ?_
  refine qp_if_eq 200 dL_law_195 (by decide) (fun _ => fin) (fun ne => absurd ?_ ne)
  rw [e1]
  simp [lg_cmp]
end LWK
