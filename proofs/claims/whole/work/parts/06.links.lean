abbrev M_X0_init : qM := (yX0_init, cX0_init, 1, none, { frames := 1, cells := 1, slots := 6, locals := 20 })
abbrev M_X0_addLine : qM := (yX0_addLine, cX0_addLine, 2, none, { frames := 0, cells := 0, slots := 0, locals := 0 })
abbrev M_X0_lineAt : qM := (yX0_lineAt, cX0_lineAt, 2, (some .int), { frames := 0, cells := 0, slots := 0, locals := 0 })
abbrev M_X0_partCount : qM := (yX0_partCount, cX0_partCount, 1, (some .int), { frames := 0, cells := 0, slots := 0, locals := 0 })
abbrev M_X0_capitalAt : qM := (yX0_capitalAt, cX0_capitalAt, 2, (some .int), { frames := 0, cells := 0, slots := 0, locals := 0 })
abbrev M_X0_cutterAsWritten : qM := (yX0_cutterAsWritten, cX0_cutterAsWritten, 3, (some .int), { frames := 0, cells := 0, slots := 0, locals := 0 })
abbrev M_X0_hasClassOf : qM := (yX0_hasClassOf, cX0_hasClassOf, 2, (some .boolean), { frames := 0, cells := 0, slots := 0, locals := 0 })
abbrev M_X1_init : qM := (yX1_init, cX1_init, 2, none, { frames := 1, cells := 1, slots := 60, locals := 20 })
abbrev M_X1_collect : qM := (yX1_collect, cX1_collect, 2, none, { frames := 0, cells := 0, slots := 0, locals := 0 })
abbrev M_X1_forget : qM := (yX1_forget, cX1_forget, 1, none, { frames := 0, cells := 0, slots := 0, locals := 0 })
abbrev M_X1_place : qM := (yX1_place, cX1_place, 1, (some .int), { frames := 0, cells := 0, slots := 0, locals := 0 })
abbrev M_X1_readCollected : qM := (yX1_readCollected, cX1_readCollected, 3, (some (.object "CallNumbers$CallNumber")), { frames := 5, cells := 2, slots := 19, locals := 115 })
abbrev M_X1_readClass : qM := (yX1_readClass, cX1_readClass, 8, (some .boolean), { frames := 4, cells := 0, slots := 0, locals := 87 })
abbrev M_X1_readClassLetters : qM := (yX1_readClassLetters, cX1_readClassLetters, 5, (some .boolean), { frames := 1, cells := 0, slots := 0, locals := 21 })
abbrev M_X1_readCutter : qM := (yX1_readCutter, cX1_readCutter, 3, (some .boolean), { frames := 3, cells := 0, slots := 0, locals := 66 })
abbrev M_X1_readRest : qM := (yX1_readRest, cX1_readRest, 6, (some .boolean), { frames := 4, cells := 0, slots := 0, locals := 90 })
abbrev M_X1_partThatBegins : qM := (yX1_partThatBegins, cX1_partThatBegins, 2, (some .int), { frames := 1, cells := 0, slots := 0, locals := 21 })
abbrev M_X1_readYear : qM := (yX1_readYear, cX1_readYear, 3, (some .boolean), { frames := 3, cells := 0, slots := 0, locals := 67 })
abbrev M_X1_readVolume : qM := (yX1_readVolume, cX1_readVolume, 4, (some .boolean), { frames := 3, cells := 0, slots := 0, locals := 67 })
abbrev M_X1_readMark : qM := (yX1_readMark, cX1_readMark, 6, (some .boolean), { frames := 1, cells := 0, slots := 0, locals := 21 })
abbrev M_X1_readSpace : qM := (yX1_readSpace, cX1_readSpace, 1, (some .boolean), { frames := 1, cells := 0, slots := 0, locals := 21 })
abbrev M_X1_readFraction : qM := (yX1_readFraction, cX1_readFraction, 2, (some .boolean), { frames := 3, cells := 0, slots := 0, locals := 66 })
abbrev M_X1_readDecimals : qM := (yX1_readDecimals, cX1_readDecimals, 2, (some .boolean), { frames := 2, cells := 0, slots := 0, locals := 45 })
abbrev M_X1_readNumber : qM := (yX1_readNumber, cX1_readNumber, 3, (some .boolean), { frames := 2, cells := 0, slots := 0, locals := 45 })
abbrev M_X1_readDigits : qM := (yX1_readDigits, cX1_readDigits, 5, (some .boolean), { frames := 1, cells := 0, slots := 0, locals := 21 })
abbrev M_X1_filledUp : qM := (yX1_filledUp, cX1_filledUp, 8, (some .long), { frames := 1, cells := 0, slots := 0, locals := 21 })
abbrev M_X1_signAt : qM := (yX1_signAt, cX1_signAt, 2, (some .int), { frames := 0, cells := 0, slots := 0, locals := 0 })
abbrev M_X1_isDigit : qM := (yX1_isDigit, cX1_isDigit, 1, (some .boolean), { frames := 0, cells := 0, slots := 0, locals := 0 })
abbrev M_X1_isCapital : qM := (yX1_isCapital, cX1_isCapital, 1, (some .boolean), { frames := 0, cells := 0, slots := 0, locals := 0 })
abbrev M_X1_isSmall : qM := (yX1_isSmall, cX1_isSmall, 1, (some .boolean), { frames := 0, cells := 0, slots := 0, locals := 0 })
abbrev M_X2_init : qM := (yX2_init, cX2_init, 1, none, { frames := 1, cells := 2, slots := 120, locals := 20 })
abbrev M_X2_has : qM := (yX2_has, cX2_has, 2, (some .boolean), { frames := 0, cells := 0, slots := 0, locals := 0 })
abbrev M_X2_numberAt : qM := (yX2_numberAt, cX2_numberAt, 2, (some (.object "CallNumbers$CallNumber")), { frames := 1, cells := 0, slots := 0, locals := 21 })
abbrev M_X2_recordAt : qM := (yX2_recordAt, cX2_recordAt, 2, (some .int), { frames := 1, cells := 0, slots := 0, locals := 21 })
abbrev M_X2_countBefore : qM := (yX2_countBefore, cX2_countBefore, 5, (some .int), { frames := 2, cells := 0, slots := 0, locals := 45 })
abbrev M_X2_isSameAt : qM := (yX2_isSameAt, cX2_isSameAt, 4, (some .boolean), { frames := 2, cells := 0, slots := 0, locals := 45 })
abbrev M_X2_insert : qM := (yX2_insert, cX2_insert, 5, (some .boolean), { frames := 0, cells := 0, slots := 0, locals := 0 })
abbrev M_X2_remove : qM := (yX2_remove, cX2_remove, 3, none, { frames := 1, cells := 0, slots := 0, locals := 21 })
abbrev M_X2_firstWith : qM := (yX2_firstWith, cX2_firstWith, 3, (some .int), { frames := 0, cells := 0, slots := 0, locals := 0 })
abbrev M_X2_hasCutter : qM := (yX2_hasCutter, cX2_hasCutter, 5, (some .boolean), { frames := 2, cells := 0, slots := 0, locals := 42 })
abbrev M_X3_init : qM := (yX3_init, cX3_init, 2, none, { frames := 2, cells := 5, slots := 187, locals := 41 })
abbrev M_X3_sign : qM := (yX3_sign, cX3_sign, 2, none, { frames := 1, cells := 0, slots := 0, locals := 21 })
abbrev M_X3_read : qM := (yX3_read, cX3_read, 2, (some .int), { frames := 6, cells := 2, slots := 19, locals := 137 })
abbrev M_X3_letter : qM := (yX3_letter, cX3_letter, 2, (some .int), { frames := 1, cells := 0, slots := 0, locals := 21 })
abbrev M_X3_put : qM := (yX3_put, cX3_put, 3, (some .int), { frames := 3, cells := 0, slots := 0, locals := 69 })
abbrev M_X3_shelf : qM := (yX3_shelf, cX3_shelf, 2, (some .int), { frames := 2, cells := 0, slots := 0, locals := 42 })
abbrev M_X3_take : qM := (yX3_take, cX3_take, 3, (some .int), { frames := 2, cells := 0, slots := 0, locals := 43 })
abbrev M_X3_compare : qM := (yX3_compare, cX3_compare, 5, (some .int), { frames := 2, cells := 0, slots := 0, locals := 45 })
abbrev M_X3_before : qM := (yX3_before, cX3_before, 1, (some .int), { frames := 3, cells := 0, slots := 0, locals := 69 })
abbrev M_X3_free : qM := (yX3_free, cX3_free, 3, (some .int), { frames := 4, cells := 0, slots := 0, locals := 93 })
abbrev M_X3_spine : qM := (yX3_spine, cX3_spine, 2, (some .int), { frames := 1, cells := 0, slots := 0, locals := 21 })
abbrev M_X3_pass : qM := (yX3_pass, cX3_pass, 4, (some .int), { frames := 2, cells := 0, slots := 0, locals := 45 })
abbrev M_X3_freeWithMore : qM := (yX3_freeWithMore, cX3_freeWithMore, 8, (some .int), { frames := 3, cells := 0, slots := 0, locals := 66 })
abbrev M_X3_hasNoZero : qM := (yX3_hasNoZero, cX3_hasNoZero, 3, (some .boolean), { frames := 0, cells := 0, slots := 0, locals := 0 })
abbrev M_X3_powerOfTen : qM := (yX3_powerOfTen, cX3_powerOfTen, 4, (some .long), { frames := 0, cells := 0, slots := 0, locals := 0 })
abbrev M_X3_order : qM := (yX3_order, cX3_order, 3, (some .int), { frames := 1, cells := 0, slots := 0, locals := 23 })
abbrev M_X3_side : qM := (yX3_side, cX3_side, 4, (some .int), { frames := 0, cells := 0, slots := 0, locals := 0 })
abbrev M_X4_init : qM := (yX4_init, cX4_init, 2, none, { frames := 1, cells := 7, slots := 2640, locals := 20 })
abbrev M_X4_thrown : qM := (yX4_thrown, cX4_thrown, 1, (some .int), { frames := 0, cells := 0, slots := 0, locals := 0 })
abbrev M_X4_sign : qM := (yX4_sign, cX4_sign, 2, none, { frames := 0, cells := 0, slots := 0, locals := 0 })
abbrev M_X4_look : qM := (yX4_look, cX4_look, 1, (some .int), { frames := 0, cells := 0, slots := 0, locals := 0 })
abbrev M_X4_bad : qM := (yX4_bad, cX4_bad, 2, (some .boolean), { frames := 0, cells := 0, slots := 0, locals := 0 })
abbrev M_X4_isDigit : qM := (yX4_isDigit, cX4_isDigit, 1, (some .boolean), { frames := 0, cells := 0, slots := 0, locals := 0 })
abbrev M_X4_isCapital : qM := (yX4_isCapital, cX4_isCapital, 1, (some .boolean), { frames := 0, cells := 0, slots := 0, locals := 0 })
abbrev M_X4_isSmall : qM := (yX4_isSmall, cX4_isSmall, 1, (some .boolean), { frames := 0, cells := 0, slots := 0, locals := 0 })
abbrev M_X4_digits : qM := (yX4_digits, cX4_digits, 4, (some .boolean), { frames := 1, cells := 0, slots := 0, locals := 21 })
abbrev M_X4_number : qM := (yX4_number, cX4_number, 5, (some .boolean), { frames := 1, cells := 0, slots := 0, locals := 21 })
abbrev M_X4_readClass : qM := (yX4_readClass, cX4_readClass, 3, (some .boolean), { frames := 2, cells := 0, slots := 0, locals := 45 })
abbrev M_X4_readCutter : qM := (yX4_readCutter, cX4_readCutter, 1, (some .boolean), { frames := 2, cells := 0, slots := 0, locals := 44 })
abbrev M_X4_readYear : qM := (yX4_readYear, cX4_readYear, 3, (some .boolean), { frames := 1, cells := 0, slots := 0, locals := 21 })
abbrev M_X4_readVolume : qM := (yX4_readVolume, cX4_readVolume, 1, (some .boolean), { frames := 2, cells := 0, slots := 0, locals := 45 })
abbrev M_X4_readMark : qM := (yX4_readMark, cX4_readMark, 2, (some .boolean), { frames := 1, cells := 0, slots := 0, locals := 21 })
abbrev M_X4_space : qM := (yX4_space, cX4_space, 1, (some .boolean), { frames := 1, cells := 0, slots := 0, locals := 21 })
abbrev M_X4_reads : qM := (yX4_reads, cX4_reads, 5, (some .boolean), { frames := 3, cells := 0, slots := 0, locals := 67 })
abbrev M_X4_read : qM := (yX4_read, cX4_read, 3, (some .int), { frames := 4, cells := 0, slots := 0, locals := 91 })
abbrev M_X4_value : qM := (yX4_value, cX4_value, 6, (some .long), { frames := 0, cells := 0, slots := 0, locals := 0 })
abbrev M_X4_marks : qM := (yX4_marks, cX4_marks, 2, (some .int), { frames := 0, cells := 0, slots := 0, locals := 0 })
abbrev M_X4_part : qM := (yX4_part, cX4_part, 2, (some .long), { frames := 1, cells := 0, slots := 0, locals := 25 })
abbrev M_X4_letters : qM := (yX4_letters, cX4_letters, 2, (some .int), { frames := 0, cells := 0, slots := 0, locals := 0 })
abbrev M_X4_letter : qM := (yX4_letter, cX4_letter, 3, (some .int), { frames := 1, cells := 0, slots := 0, locals := 21 })
abbrev M_X4_decimals : qM := (yX4_decimals, cX4_decimals, 1, (some .int), { frames := 0, cells := 0, slots := 0, locals := 0 })
abbrev M_X4_cutterSize : qM := (yX4_cutterSize, cX4_cutterSize, 2, (some .int), { frames := 0, cells := 0, slots := 0, locals := 0 })
abbrev M_X4_spine : qM := (yX4_spine, cX4_spine, 3, (some .int), { frames := 1, cells := 0, slots := 0, locals := 21 })
abbrev M_X4_order : qM := (yX4_order, cX4_order, 6, (some .int), { frames := 0, cells := 0, slots := 0, locals := 0 })
abbrev M_X4_placeOf : qM := (yX4_placeOf, cX4_placeOf, 2, (some .int), { frames := 1, cells := 0, slots := 0, locals := 25 })
abbrev M_X4_put : qM := (yX4_put, cX4_put, 5, (some .int), { frames := 2, cells := 0, slots := 0, locals := 46 })
abbrev M_X4_shelf : qM := (yX4_shelf, cX4_shelf, 2, (some .int), { frames := 0, cells := 0, slots := 0, locals := 0 })
abbrev M_X4_take : qM := (yX4_take, cX4_take, 5, (some .int), { frames := 0, cells := 0, slots := 0, locals := 0 })
abbrev M_X4_compare : qM := (yX4_compare, cX4_compare, 3, (some .int), { frames := 0, cells := 0, slots := 0, locals := 0 })
abbrev M_X4_before : qM := (yX4_before, cX4_before, 1, (some .int), { frames := 2, cells := 0, slots := 0, locals := 46 })
abbrev M_X4_isTaken : qM := (yX4_isTaken, cX4_isTaken, 5, (some .boolean), { frames := 0, cells := 0, slots := 0, locals := 0 })
abbrev M_X4_free : qM := (yX4_free, cX4_free, 8, (some .int), { frames := 1, cells := 0, slots := 0, locals := 24 })
abbrev M_X4_pass : qM := (yX4_pass, cX4_pass, 5, (some .int), { frames := 0, cells := 0, slots := 0, locals := 0 })
abbrev M_L_cell : qM := (yL_cell, cL_cell, 2, (some .int), { frames := 0, cells := 0, slots := 0, locals := 0 })
theorem inlX0 : ∀ w ∈ u_ws RX0 TX0 13, w ∈ lw_tbl := by decide +kernel
theorem ingX0 : ∀ w ∈ u_ws RX0 TX0 13, goodWord w = true := by decide +kernel
theorem clsX0 : qCls 1 (RX0, TX0, 13) := ⟨rfl, fun w h => qT_in (inlX0 w h) (ingX0 w h), tyX0_ok, nmX0⟩
theorem inlX1 : ∀ w ∈ u_ws RX1 TX1 4, w ∈ lw_tbl := by decide +kernel
theorem ingX1 : ∀ w ∈ u_ws RX1 TX1 4, goodWord w = true := by decide +kernel
theorem clsX1 : qCls 2 (RX1, TX1, 4) := ⟨rfl, fun w h => qT_in (inlX1 w h) (ingX1 w h), tyX1_ok, nmX1⟩
theorem inlX2 : ∀ w ∈ u_ws RX2 TX2 3, w ∈ lw_tbl := by decide +kernel
theorem ingX2 : ∀ w ∈ u_ws RX2 TX2 3, goodWord w = true := by decide +kernel
theorem clsX2 : qCls 3 (RX2, TX2, 3) := ⟨rfl, fun w h => qT_in (inlX2 w h) (ingX2 w h), tyX2_ok, nmX2⟩
theorem inlX3 : ∀ w ∈ u_ws RX3 TX3 4, w ∈ lw_tbl := by decide +kernel
theorem ingX3 : ∀ w ∈ u_ws RX3 TX3 4, goodWord w = true := by decide +kernel
theorem clsX3 : qCls 4 (RX3, TX3, 4) := ⟨rfl, fun w h => qT_in (inlX3 w h) (ingX3 w h), tyX3_ok, nmX3⟩
theorem inlX4 : ∀ w ∈ u_ws RX4 TX4 14, w ∈ lw_tbl := by decide +kernel
theorem ingX4 : ∀ w ∈ u_ws RX4 TX4 14, goodWord w = true := by decide +kernel
theorem clsX4 : qCls 5 (RX4, TX4, 14) := ⟨rfl, fun w h => qT_in (inlX4 w h) (ingX4 w h), tyX4_ok, nmX4⟩
theorem iniX0 : Cond.initialized RX0 ∈ qT := qT_in (by decide +kernel) (by decide +kernel)
theorem iniX1 : Cond.initialized RX1 ∈ qT := qT_in (by decide +kernel) (by decide +kernel)
theorem iniX2 : Cond.initialized RX2 ∈ qT := qT_in (by decide +kernel) (by decide +kernel)
theorem iniX3 : Cond.initialized RX3 ∈ qT := qT_in (by decide +kernel) (by decide +kernel)
theorem iniX4 : Cond.initialized RX4 ∈ qT := qT_in (by decide +kernel) (by decide +kernel)
theorem iniL : Cond.initialized RL ∈ qT := qT_in (by decide +kernel) (by decide +kernel)
theorem lkfX0_9 : Cond.fieldLink RX0 9 "CallNumbers$CallNumber" "lines" "[I" ∈ qT := qT_in (by decide +kernel) (by decide +kernel)
theorem fX0_9 : qFld RX0 9 1 11 := ⟨_, clsX0, by decide, Or.inl lkfX0_9⟩
theorem ffX0_9 : ∃ r, qCls 1 r ∧ 11 < r.2.2 ∧ Cond.fieldLink RX0 9 (r.2.1 11).1 (r.2.1 11).2.1 (r.2.1 11).2.2.1 ∈ qT := ⟨_, clsX0, by decide, lkfX0_9⟩
theorem lkfX0_15 : Cond.fieldLink RX0 15 "CallNumbers$CallNumber" "lineCount" "I" ∈ qT := qT_in (by decide +kernel) (by decide +kernel)
theorem fX0_15 : qFld RX0 15 1 12 := ⟨_, clsX0, by decide, Or.inl lkfX0_15⟩
theorem lkfX0_19 : Cond.fieldLink RX0 19 "CallNumbers$CallNumber" "classLetterCount" "I" ∈ qT := qT_in (by decide +kernel) (by decide +kernel)
theorem fX0_19 : qFld RX0 19 1 1 := ⟨_, clsX0, by decide, Or.inl lkfX0_19⟩
theorem lkfX0_22 : Cond.fieldLink RX0 22 "CallNumbers$CallNumber" "capital" "I" ∈ qT := qT_in (by decide +kernel) (by decide +kernel)
theorem fX0_22 : qFld RX0 22 1 3 := ⟨_, clsX0, by decide, Or.inl lkfX0_22⟩
theorem lkfX0_25 : Cond.fieldLink RX0 25 "CallNumbers$CallNumber" "classLetters" "I" ∈ qT := qT_in (by decide +kernel) (by decide +kernel)
theorem fX0_25 : qFld RX0 25 1 0 := ⟨_, clsX0, by decide, Or.inl lkfX0_25⟩
theorem lkfX0_28 : Cond.fieldLink RX0 28 "CallNumbers$CallNumber" "cutter" "I" ∈ qT := qT_in (by decide +kernel) (by decide +kernel)
theorem fX0_28 : qFld RX0 28 1 4 := ⟨_, clsX0, by decide, Or.inl lkfX0_28⟩
theorem lkfX0_31 : Cond.fieldLink RX0 31 "CallNumbers$CallNumber" "cutterDigits" "I" ∈ qT := qT_in (by decide +kernel) (by decide +kernel)
theorem fX0_31 : qFld RX0 31 1 5 := ⟨_, clsX0, by decide, Or.inl lkfX0_31⟩
theorem lkfX0_34 : Cond.fieldLink RX0 34 "CallNumbers$CallNumber" "classDigits" "J" ∈ qT := qT_in (by decide +kernel) (by decide +kernel)
theorem fX0_34 : qFld RX0 34 1 2 := ⟨_, clsX0, by decide, Or.inl lkfX0_34⟩
theorem lkfX1_9 : Cond.fieldLink RX1 9 "CallNumbers$Reader" "signs" "[I" ∈ qT := qT_in (by decide +kernel) (by decide +kernel)
theorem fX1_9 : qFld RX1 9 2 1 := ⟨_, clsX1, by decide, Or.inl lkfX1_9⟩
theorem ffX1_9 : ∃ r, qCls 2 r ∧ 1 < r.2.2 ∧ Cond.fieldLink RX1 9 (r.2.1 1).1 (r.2.1 1).2.1 (r.2.1 1).2.2.1 ∈ qT := ⟨_, clsX1, by decide, lkfX1_9⟩
theorem lkfX1_15 : Cond.fieldLink RX1 15 "CallNumbers$Reader" "lettered" "Z" ∈ qT := qT_in (by decide +kernel) (by decide +kernel)
theorem fX1_15 : qFld RX1 15 2 0 := ⟨_, clsX1, by decide, Or.inl lkfX1_15⟩
theorem ffX1_15 : ∃ r, qCls 2 r ∧ 0 < r.2.2 ∧ Cond.fieldLink RX1 15 (r.2.1 0).1 (r.2.1 0).2.1 (r.2.1 0).2.2.1 ∈ qT := ⟨_, clsX1, by decide, lkfX1_15⟩
theorem lkfX1_19 : Cond.fieldLink RX1 19 "CallNumbers$Reader" "count" "I" ∈ qT := qT_in (by decide +kernel) (by decide +kernel)
theorem fX1_19 : qFld RX1 19 2 2 := ⟨_, clsX1, by decide, Or.inl lkfX1_19⟩
theorem lkfX1_23 : Cond.fieldLink RX1 23 "CallNumbers$Reader" "at" "I" ∈ qT := qT_in (by decide +kernel) (by decide +kernel)
theorem fX1_23 : qFld RX1 23 2 3 := ⟨_, clsX1, by decide, Or.inl lkfX1_23⟩
theorem lkfX1_65 : Cond.fieldLinkNest RX1 65 "CallNumbers$CallNumber" "classDigits" "J" "CallNumbers" ∈ qN := qN_in (by decide +kernel) rfl
theorem fX1_65 : qFld RX1 65 1 2 := ⟨_, clsX0, by decide, Or.inr ⟨_, lkfX1_65⟩⟩
theorem lkfX1_80 : Cond.fieldLinkNest RX1 80 "CallNumbers$CallNumber" "classLetters" "I" "CallNumbers" ∈ qN := qN_in (by decide +kernel) rfl
theorem fX1_80 : qFld RX1 80 1 0 := ⟨_, clsX0, by decide, Or.inr ⟨_, lkfX1_80⟩⟩
theorem lkfX1_83 : Cond.fieldLinkNest RX1 83 "CallNumbers$CallNumber" "classLetterCount" "I" "CallNumbers" ∈ qN := qN_in (by decide +kernel) rfl
theorem fX1_83 : qFld RX1 83 1 1 := ⟨_, clsX0, by decide, Or.inr ⟨_, lkfX1_83⟩⟩
theorem lkfX1_89 : Cond.fieldLinkNest RX1 89 "CallNumbers$CallNumber" "capital" "I" "CallNumbers" ∈ qN := qN_in (by decide +kernel) rfl
theorem fX1_89 : qFld RX1 89 1 3 := ⟨_, clsX0, by decide, Or.inr ⟨_, lkfX1_89⟩⟩
theorem lkfX1_92 : Cond.fieldLinkNest RX1 92 "CallNumbers$CallNumber" "cutter" "I" "CallNumbers" ∈ qN := qN_in (by decide +kernel) rfl
theorem fX1_92 : qFld RX1 92 1 4 := ⟨_, clsX0, by decide, Or.inr ⟨_, lkfX1_92⟩⟩
theorem lkfX1_95 : Cond.fieldLinkNest RX1 95 "CallNumbers$CallNumber" "cutterDigits" "I" "CallNumbers" ∈ qN := qN_in (by decide +kernel) rfl
theorem fX1_95 : qFld RX1 95 1 5 := ⟨_, clsX0, by decide, Or.inr ⟨_, lkfX1_95⟩⟩
theorem lkfX1_117 : Cond.fieldLinkNest RX1 117 "CallNumbers$CallNumber" "year" "I" "CallNumbers" ∈ qN := qN_in (by decide +kernel) rfl
theorem fX1_117 : qFld RX1 117 1 6 := ⟨_, clsX0, by decide, Or.inr ⟨_, lkfX1_117⟩⟩
theorem lkfX1_120 : Cond.fieldLinkNest RX1 120 "CallNumbers$CallNumber" "volume" "I" "CallNumbers" ∈ qN := qN_in (by decide +kernel) rfl
theorem fX1_120 : qFld RX1 120 1 7 := ⟨_, clsX0, by decide, Or.inr ⟨_, lkfX1_120⟩⟩
theorem lkfX1_123 : Cond.fieldLinkNest RX1 123 "CallNumbers$CallNumber" "volumeLetter" "I" "CallNumbers" ∈ qN := qN_in (by decide +kernel) rfl
theorem fX1_123 : qFld RX1 123 1 8 := ⟨_, clsX0, by decide, Or.inr ⟨_, lkfX1_123⟩⟩
theorem lkfX1_126 : Cond.fieldLinkNest RX1 126 "CallNumbers$CallNumber" "mark" "J" "CallNumbers" ∈ qN := qN_in (by decide +kernel) rfl
theorem fX1_126 : qFld RX1 126 1 9 := ⟨_, clsX0, by decide, Or.inr ⟨_, lkfX1_126⟩⟩
theorem lkfX1_129 : Cond.fieldLinkNest RX1 129 "CallNumbers$CallNumber" "markLetters" "I" "CallNumbers" ∈ qN := qN_in (by decide +kernel) rfl
theorem fX1_129 : qFld RX1 129 1 10 := ⟨_, clsX0, by decide, Or.inr ⟨_, lkfX1_129⟩⟩
theorem lkfX2_11 : Cond.fieldLink RX2 11 "CallNumbers$Shelf" "numbers" "[LCallNumbers$CallNumber;" ∈ qT := qT_in (by decide +kernel) (by decide +kernel)
theorem fX2_11 : qFld RX2 11 3 0 := ⟨_, clsX2, by decide, Or.inl lkfX2_11⟩
theorem ffX2_11 : ∃ r, qCls 3 r ∧ 0 < r.2.2 ∧ Cond.fieldLink RX2 11 (r.2.1 0).1 (r.2.1 0).2.1 (r.2.1 0).2.2.1 ∈ qT := ⟨_, clsX2, by decide, lkfX2_11⟩
theorem lkfX2_17 : Cond.fieldLink RX2 17 "CallNumbers$Shelf" "records" "[I" ∈ qT := qT_in (by decide +kernel) (by decide +kernel)
theorem fX2_17 : qFld RX2 17 3 1 := ⟨_, clsX2, by decide, Or.inl lkfX2_17⟩
theorem ffX2_17 : ∃ r, qCls 3 r ∧ 1 < r.2.2 ∧ Cond.fieldLink RX2 17 (r.2.1 1).1 (r.2.1 1).2.1 (r.2.1 1).2.2.1 ∈ qT := ⟨_, clsX2, by decide, lkfX2_17⟩
theorem lkfX2_21 : Cond.fieldLink RX2 21 "CallNumbers$Shelf" "count" "I" ∈ qT := qT_in (by decide +kernel) (by decide +kernel)
theorem fX2_21 : qFld RX2 21 3 2 := ⟨_, clsX2, by decide, Or.inl lkfX2_21⟩
theorem lkfX2_41 : Cond.fieldLinkNest RX2 41 "CallNumbers$CallNumber" "capital" "I" "CallNumbers" ∈ qN := qN_in (by decide +kernel) rfl
theorem fX2_41 : qFld RX2 41 1 3 := ⟨_, clsX0, by decide, Or.inr ⟨_, lkfX2_41⟩⟩
theorem lkfX2_44 : Cond.fieldLinkNest RX2 44 "CallNumbers$CallNumber" "cutter" "I" "CallNumbers" ∈ qN := qN_in (by decide +kernel) rfl
theorem fX2_44 : qFld RX2 44 1 4 := ⟨_, clsX0, by decide, Or.inr ⟨_, lkfX2_44⟩⟩
theorem lkfX3_12 : Cond.fieldLink RX3 12 "CallNumbers" "reader" "LCallNumbers$Reader;" ∈ qT := qT_in (by decide +kernel) (by decide +kernel)
theorem fX3_12 : qFld RX3 12 4 0 := ⟨_, clsX3, by decide, Or.inl lkfX3_12⟩
theorem ffX3_12 : ∃ r, qCls 4 r ∧ 0 < r.2.2 ∧ Cond.fieldLink RX3 12 (r.2.1 0).1 (r.2.1 0).2.1 (r.2.1 0).2.2.1 ∈ qT := ⟨_, clsX3, by decide, lkfX3_12⟩
theorem lkfX3_21 : Cond.fieldLink RX3 21 "CallNumbers" "kept" "LCallNumbers$Shelf;" ∈ qT := qT_in (by decide +kernel) (by decide +kernel)
theorem fX3_21 : qFld RX3 21 4 1 := ⟨_, clsX3, by decide, Or.inl lkfX3_21⟩
theorem ffX3_21 : ∃ r, qCls 4 r ∧ 1 < r.2.2 ∧ Cond.fieldLink RX3 21 (r.2.1 1).1 (r.2.1 1).2.1 (r.2.1 1).2.2.1 ∈ qT := ⟨_, clsX3, by decide, lkfX3_21⟩
theorem lkfX3_25 : Cond.fieldLink RX3 25 "CallNumbers" "latest" "LCallNumbers$CallNumber;" ∈ qT := qT_in (by decide +kernel) (by decide +kernel)
theorem fX3_25 : qFld RX3 25 4 2 := ⟨_, clsX3, by decide, Or.inl lkfX3_25⟩
theorem lkfX3_29 : Cond.fieldLink RX3 29 "CallNumbers" "told" "LCallNumbers$CallNumber;" ∈ qT := qT_in (by decide +kernel) (by decide +kernel)
theorem fX3_29 : qFld RX3 29 4 3 := ⟨_, clsX3, by decide, Or.inl lkfX3_29⟩
theorem lkfX3_59 : Cond.fieldLinkNest RX3 59 "CallNumbers$CallNumber" "classDigits" "J" "CallNumbers" ∈ qN := qN_in (by decide +kernel) rfl
theorem fX3_59 : qFld RX3 59 1 2 := ⟨_, clsX0, by decide, Or.inr ⟨_, lkfX3_59⟩⟩
theorem lkfX3_63 : Cond.fieldLinkNest RX3 63 "CallNumbers$CallNumber" "cutter" "I" "CallNumbers" ∈ qN := qN_in (by decide +kernel) rfl
theorem fX3_63 : qFld RX3 63 1 4 := ⟨_, clsX0, by decide, Or.inr ⟨_, lkfX3_63⟩⟩
theorem lkfX3_67 : Cond.fieldLinkNest RX3 67 "CallNumbers$CallNumber" "year" "I" "CallNumbers" ∈ qN := qN_in (by decide +kernel) rfl
theorem fX3_67 : qFld RX3 67 1 6 := ⟨_, clsX0, by decide, Or.inr ⟨_, lkfX3_67⟩⟩
theorem lkfX3_70 : Cond.fieldLinkNest RX3 70 "CallNumbers$CallNumber" "volume" "I" "CallNumbers" ∈ qN := qN_in (by decide +kernel) rfl
theorem fX3_70 : qFld RX3 70 1 7 := ⟨_, clsX0, by decide, Or.inr ⟨_, lkfX3_70⟩⟩
theorem lkfX3_73 : Cond.fieldLinkNest RX3 73 "CallNumbers$CallNumber" "markLetters" "I" "CallNumbers" ∈ qN := qN_in (by decide +kernel) rfl
theorem fX3_73 : qFld RX3 73 1 10 := ⟨_, clsX0, by decide, Or.inr ⟨_, lkfX3_73⟩⟩
theorem lkfX3_106 : Cond.fieldLinkNest RX3 106 "CallNumbers$CallNumber" "cutterDigits" "I" "CallNumbers" ∈ qN := qN_in (by decide +kernel) rfl
theorem fX3_106 : qFld RX3 106 1 5 := ⟨_, clsX0, by decide, Or.inr ⟨_, lkfX3_106⟩⟩
theorem lkfX3_136 : Cond.fieldLinkNest RX3 136 "CallNumbers$CallNumber" "classLetters" "I" "CallNumbers" ∈ qN := qN_in (by decide +kernel) rfl
theorem fX3_136 : qFld RX3 136 1 0 := ⟨_, clsX0, by decide, Or.inr ⟨_, lkfX3_136⟩⟩
theorem lkfX3_143 : Cond.fieldLinkNest RX3 143 "CallNumbers$CallNumber" "capital" "I" "CallNumbers" ∈ qN := qN_in (by decide +kernel) rfl
theorem fX3_143 : qFld RX3 143 1 3 := ⟨_, clsX0, by decide, Or.inr ⟨_, lkfX3_143⟩⟩
theorem lkfX3_146 : Cond.fieldLinkNest RX3 146 "CallNumbers$CallNumber" "volumeLetter" "I" "CallNumbers" ∈ qN := qN_in (by decide +kernel) rfl
theorem fX3_146 : qFld RX3 146 1 8 := ⟨_, clsX0, by decide, Or.inr ⟨_, lkfX3_146⟩⟩
theorem lkfX3_149 : Cond.fieldLinkNest RX3 149 "CallNumbers$CallNumber" "mark" "J" "CallNumbers" ∈ qN := qN_in (by decide +kernel) rfl
theorem fX3_149 : qFld RX3 149 1 9 := ⟨_, clsX0, by decide, Or.inr ⟨_, lkfX3_149⟩⟩
theorem lkfX4_7 : Cond.fieldLink RX4 7 "CallNumbersModel" "said" "[B" ∈ qT := qT_in (by decide +kernel) (by decide +kernel)
theorem fX4_7 : qFld RX4 7 5 2 := ⟨_, clsX4, by decide, Or.inl lkfX4_7⟩
theorem ffX4_7 : ∃ r, qCls 5 r ∧ 2 < r.2.2 ∧ Cond.fieldLink RX4 7 (r.2.1 2).1 (r.2.1 2).2.1 (r.2.1 2).2.2.1 ∈ qT := ⟨_, clsX4, by decide, lkfX4_7⟩
theorem lkfX4_13 : Cond.fieldLink RX4 13 "CallNumbersModel" "now" "[I" ∈ qT := qT_in (by decide +kernel) (by decide +kernel)
theorem fX4_13 : qFld RX4 13 5 4 := ⟨_, clsX4, by decide, Or.inl lkfX4_13⟩
theorem ffX4_13 : ∃ r, qCls 5 r ∧ 4 < r.2.2 ∧ Cond.fieldLink RX4 13 (r.2.1 4).1 (r.2.1 4).2.1 (r.2.1 4).2.2.1 ∈ qT := ⟨_, clsX4, by decide, lkfX4_13⟩
theorem lkfX4_17 : Cond.fieldLink RX4 17 "CallNumbersModel" "latest" "[I" ∈ qT := qT_in (by decide +kernel) (by decide +kernel)
theorem fX4_17 : qFld RX4 17 5 5 := ⟨_, clsX4, by decide, Or.inl lkfX4_17⟩
theorem ffX4_17 : ∃ r, qCls 5 r ∧ 5 < r.2.2 ∧ Cond.fieldLink RX4 17 (r.2.1 5).1 (r.2.1 5).2.1 (r.2.1 5).2.2.1 ∈ qT := ⟨_, clsX4, by decide, lkfX4_17⟩
theorem lkfX4_20 : Cond.fieldLink RX4 20 "CallNumbersModel" "shelf" "[I" ∈ qT := qT_in (by decide +kernel) (by decide +kernel)
theorem fX4_20 : qFld RX4 20 5 7 := ⟨_, clsX4, by decide, Or.inl lkfX4_20⟩
theorem ffX4_20 : ∃ r, qCls 5 r ∧ 7 < r.2.2 ∧ Cond.fieldLink RX4 20 (r.2.1 7).1 (r.2.1 7).2.1 (r.2.1 7).2.2.1 ∈ qT := ⟨_, clsX4, by decide, lkfX4_20⟩
theorem lkfX4_23 : Cond.fieldLink RX4 23 "CallNumbersModel" "records" "[I" ∈ qT := qT_in (by decide +kernel) (by decide +kernel)
theorem fX4_23 : qFld RX4 23 5 8 := ⟨_, clsX4, by decide, Or.inl lkfX4_23⟩
theorem ffX4_23 : ∃ r, qCls 5 r ∧ 8 < r.2.2 ∧ Cond.fieldLink RX4 23 (r.2.1 8).1 (r.2.1 8).2.1 (r.2.1 8).2.2.1 ∈ qT := ⟨_, clsX4, by decide, lkfX4_23⟩
theorem lkfX4_26 : Cond.fieldLink RX4 26 "CallNumbersModel" "before" "[I" ∈ qT := qT_in (by decide +kernel) (by decide +kernel)
theorem fX4_26 : qFld RX4 26 5 10 := ⟨_, clsX4, by decide, Or.inl lkfX4_26⟩
theorem ffX4_26 : ∃ r, qCls 5 r ∧ 10 < r.2.2 ∧ Cond.fieldLink RX4 26 (r.2.1 10).1 (r.2.1 10).2.1 (r.2.1 10).2.2.1 ∈ qT := ⟨_, clsX4, by decide, lkfX4_26⟩
theorem lkfX4_29 : Cond.fieldLink RX4 29 "CallNumbersModel" "scheme" "I" ∈ qT := qT_in (by decide +kernel) (by decide +kernel)
theorem fX4_29 : qFld RX4 29 5 1 := ⟨_, clsX4, by decide, Or.inl lkfX4_29⟩
theorem ffX4_29 : ∃ r, qCls 5 r ∧ 1 < r.2.2 ∧ Cond.fieldLink RX4 29 (r.2.1 1).1 (r.2.1 1).2.1 (r.2.1 1).2.2.1 ∈ qT := ⟨_, clsX4, by decide, lkfX4_29⟩
theorem lkfX4_33 : Cond.fieldLink RX4 33 "CallNumbersModel" "thrown" "I" ∈ qT := qT_in (by decide +kernel) (by decide +kernel)
theorem fX4_33 : qFld RX4 33 5 0 := ⟨_, clsX4, by decide, Or.inl lkfX4_33⟩
theorem lkfX4_36 : Cond.fieldLink RX4 36 "CallNumbersModel" "size" "I" ∈ qT := qT_in (by decide +kernel) (by decide +kernel)
theorem fX4_36 : qFld RX4 36 5 3 := ⟨_, clsX4, by decide, Or.inl lkfX4_36⟩
theorem lkfX4_39 : Cond.fieldLink RX4 39 "CallNumbersModel" "at" "I" ∈ qT := qT_in (by decide +kernel) (by decide +kernel)
theorem fX4_39 : qFld RX4 39 5 12 := ⟨_, clsX4, by decide, Or.inl lkfX4_39⟩
theorem lkfX4_42 : Cond.fieldLink RX4 42 "CallNumbersModel" "wrong" "I" ∈ qT := qT_in (by decide +kernel) (by decide +kernel)
theorem fX4_42 : qFld RX4 42 5 13 := ⟨_, clsX4, by decide, Or.inl lkfX4_42⟩
theorem lkfX4_91 : Cond.fieldLink RX4 91 "CallNumbersModel" "there" "Z" ∈ qT := qT_in (by decide +kernel) (by decide +kernel)
theorem fX4_91 : qFld RX4 91 5 6 := ⟨_, clsX4, by decide, Or.inl lkfX4_91⟩
theorem lkfX4_118 : Cond.fieldLink RX4 118 "CallNumbersModel" "count" "I" ∈ qT := qT_in (by decide +kernel) (by decide +kernel)
theorem fX4_118 : qFld RX4 118 5 9 := ⟨_, clsX4, by decide, Or.inl lkfX4_118⟩
theorem lkfX4_131 : Cond.fieldLink RX4 131 "CallNumbersModel" "passed" "Z" ∈ qT := qT_in (by decide +kernel) (by decide +kernel)
theorem fX4_131 : qFld RX4 131 5 11 := ⟨_, clsX4, by decide, Or.inl lkfX4_131⟩
theorem cdX0_init : Cond.code yX0_init cX0_init 1 none ∈ qT := qT_in (by decide +kernel) (by decide +kernel)
theorem lkX0_init : qLk M_X0_init 0 := ⟨cdX0_init, iniX0, by decide +kernel, by decide +kernel⟩
theorem lkmX1_28 : Cond.methodLinkNest RX1 28 yX0_init "CallNumbers" ∈ qN := qN_in (by decide +kernel) rfl
theorem kdX0_init : Cond.instanceMethod yX0_init ∈ qT := qT_in (by decide +kernel) (by decide +kernel)
theorem mX1_28 : qLkI RX1 28 M_X0_init 0 := ⟨lkX0_init, rfl, rfl, kdX0_init, Or.inr ⟨_, lkmX1_28⟩⟩
theorem cdX1_readClass : Cond.code yX1_readClass cX1_readClass 8 (some .boolean) ∈ qT := qT_in (by decide +kernel) (by decide +kernel)
theorem lkX1_readClass : qLk M_X1_readClass 1 := ⟨cdX1_readClass, iniX1, by decide +kernel, by decide +kernel⟩
theorem lkmX1_29 : Cond.methodLink RX1 29 yX1_readClass ∈ qT := qT_in (by decide +kernel) (by decide +kernel)
theorem kdX1_readClass : Cond.instanceMethod yX1_readClass ∈ qT := qT_in (by decide +kernel) (by decide +kernel)
theorem slX1_readClass : Cond.selects RX1 yX1_readClass yX1_readClass ∈ qT := qT_in (by decide +kernel) (by decide +kernel)
theorem mX1_29 : qLkV RX1 29 M_X1_readClass 1 := ⟨lkX1_readClass, kdX1_readClass, slX1_readClass, Or.inl lkmX1_29⟩
theorem cdX1_readSpace : Cond.code yX1_readSpace cX1_readSpace 1 (some .boolean) ∈ qT := qT_in (by decide +kernel) (by decide +kernel)
theorem lkX1_readSpace : qLk M_X1_readSpace 0 := ⟨cdX1_readSpace, iniX1, by decide +kernel, by decide +kernel⟩
theorem lkmX1_33 : Cond.methodLink RX1 33 yX1_readSpace ∈ qT := qT_in (by decide +kernel) (by decide +kernel)
theorem kdX1_readSpace : Cond.instanceMethod yX1_readSpace ∈ qT := qT_in (by decide +kernel) (by decide +kernel)
theorem slX1_readSpace : Cond.selects RX1 yX1_readSpace yX1_readSpace ∈ qT := qT_in (by decide +kernel) (by decide +kernel)
theorem mX1_33 : qLkV RX1 33 M_X1_readSpace 0 := ⟨lkX1_readSpace, kdX1_readSpace, slX1_readSpace, Or.inl lkmX1_33⟩
theorem cdX1_readCutter : Cond.code yX1_readCutter cX1_readCutter 3 (some .boolean) ∈ qT := qT_in (by decide +kernel) (by decide +kernel)
theorem lkX1_readCutter : qLk M_X1_readCutter 1 := ⟨cdX1_readCutter, iniX1, by decide +kernel, by decide +kernel⟩
theorem lkmX1_37 : Cond.methodLink RX1 37 yX1_readCutter ∈ qT := qT_in (by decide +kernel) (by decide +kernel)
theorem kdX1_readCutter : Cond.instanceMethod yX1_readCutter ∈ qT := qT_in (by decide +kernel) (by decide +kernel)
theorem slX1_readCutter : Cond.selects RX1 yX1_readCutter yX1_readCutter ∈ qT := qT_in (by decide +kernel) (by decide +kernel)
theorem mX1_37 : qLkV RX1 37 M_X1_readCutter 1 := ⟨lkX1_readCutter, kdX1_readCutter, slX1_readCutter, Or.inl lkmX1_37⟩
theorem cdX1_readRest : Cond.code yX1_readRest cX1_readRest 6 (some .boolean) ∈ qT := qT_in (by decide +kernel) (by decide +kernel)
theorem lkX1_readRest : qLk M_X1_readRest 1 := ⟨cdX1_readRest, iniX1, by decide +kernel, by decide +kernel⟩
theorem lkmX1_40 : Cond.methodLink RX1 40 yX1_readRest ∈ qT := qT_in (by decide +kernel) (by decide +kernel)
theorem kdX1_readRest : Cond.instanceMethod yX1_readRest ∈ qT := qT_in (by decide +kernel) (by decide +kernel)
theorem slX1_readRest : Cond.selects RX1 yX1_readRest yX1_readRest ∈ qT := qT_in (by decide +kernel) (by decide +kernel)
theorem mX1_40 : qLkV RX1 40 M_X1_readRest 1 := ⟨lkX1_readRest, kdX1_readRest, slX1_readRest, Or.inl lkmX1_40⟩
theorem cdX1_readClassLetters : Cond.code yX1_readClassLetters cX1_readClassLetters 5 (some .boolean) ∈ qT := qT_in (by decide +kernel) (by decide +kernel)
theorem lkX1_readClassLetters : qLk M_X1_readClassLetters 1 := ⟨cdX1_readClassLetters, iniX1, by decide +kernel, by decide +kernel⟩
theorem lkmX1_43 : Cond.methodLink RX1 43 yX1_readClassLetters ∈ qT := qT_in (by decide +kernel) (by decide +kernel)
theorem kdX1_readClassLetters : Cond.instanceMethod yX1_readClassLetters ∈ qT := qT_in (by decide +kernel) (by decide +kernel)
theorem slX1_readClassLetters : Cond.selects RX1 yX1_readClassLetters yX1_readClassLetters ∈ qT := qT_in (by decide +kernel) (by decide +kernel)
theorem mX1_43 : qLkV RX1 43 M_X1_readClassLetters 1 := ⟨lkX1_readClassLetters, kdX1_readClassLetters, slX1_readClassLetters, Or.inl lkmX1_43⟩
theorem cdX1_readNumber : Cond.code yX1_readNumber cX1_readNumber 3 (some .boolean) ∈ qT := qT_in (by decide +kernel) (by decide +kernel)
theorem lkX1_readNumber : qLk M_X1_readNumber 2 := ⟨cdX1_readNumber, iniX1, by decide +kernel, by decide +kernel⟩
theorem lkmX1_46 : Cond.methodLink RX1 46 yX1_readNumber ∈ qT := qT_in (by decide +kernel) (by decide +kernel)
theorem kdX1_readNumber : Cond.instanceMethod yX1_readNumber ∈ qT := qT_in (by decide +kernel) (by decide +kernel)
theorem slX1_readNumber : Cond.selects RX1 yX1_readNumber yX1_readNumber ∈ qT := qT_in (by decide +kernel) (by decide +kernel)
theorem mX1_46 : qLkV RX1 46 M_X1_readNumber 2 := ⟨lkX1_readNumber, kdX1_readNumber, slX1_readNumber, Or.inl lkmX1_46⟩
theorem cdX1_readDigits : Cond.code yX1_readDigits cX1_readDigits 5 (some .boolean) ∈ qT := qT_in (by decide +kernel) (by decide +kernel)
theorem lkX1_readDigits : qLk M_X1_readDigits 2 := ⟨cdX1_readDigits, iniX1, by decide +kernel, by decide +kernel⟩
theorem lkmX1_50 : Cond.methodLink RX1 50 yX1_readDigits ∈ qT := qT_in (by decide +kernel) (by decide +kernel)
theorem kdX1_readDigits : Cond.instanceMethod yX1_readDigits ∈ qT := qT_in (by decide +kernel) (by decide +kernel)
theorem slX1_readDigits : Cond.selects RX1 yX1_readDigits yX1_readDigits ∈ qT := qT_in (by decide +kernel) (by decide +kernel)
theorem mX1_50 : qLkV RX1 50 M_X1_readDigits 2 := ⟨lkX1_readDigits, kdX1_readDigits, slX1_readDigits, Or.inl lkmX1_50⟩
theorem cdX1_readFraction : Cond.code yX1_readFraction cX1_readFraction 2 (some .boolean) ∈ qT := qT_in (by decide +kernel) (by decide +kernel)
theorem lkX1_readFraction : qLk M_X1_readFraction 1 := ⟨cdX1_readFraction, iniX1, by decide +kernel, by decide +kernel⟩
theorem lkmX1_53 : Cond.methodLink RX1 53 yX1_readFraction ∈ qT := qT_in (by decide +kernel) (by decide +kernel)
theorem kdX1_readFraction : Cond.instanceMethod yX1_readFraction ∈ qT := qT_in (by decide +kernel) (by decide +kernel)
theorem slX1_readFraction : Cond.selects RX1 yX1_readFraction yX1_readFraction ∈ qT := qT_in (by decide +kernel) (by decide +kernel)
theorem mX1_53 : qLkV RX1 53 M_X1_readFraction 1 := ⟨lkX1_readFraction, kdX1_readFraction, slX1_readFraction, Or.inl lkmX1_53⟩
theorem cdX1_filledUp : Cond.code yX1_filledUp cX1_filledUp 8 (some .long) ∈ qT := qT_in (by decide +kernel) (by decide +kernel)
theorem lkX1_filledUp : qLk M_X1_filledUp 3 := ⟨cdX1_filledUp, iniX1, by decide +kernel, by decide +kernel⟩
theorem lkmX1_57 : Cond.methodLink RX1 57 yX1_filledUp ∈ qT := qT_in (by decide +kernel) (by decide +kernel)
theorem kdX1_filledUp : Cond.instanceMethod yX1_filledUp ∈ qT := qT_in (by decide +kernel) (by decide +kernel)
theorem slX1_filledUp : Cond.selects RX1 yX1_filledUp yX1_filledUp ∈ qT := qT_in (by decide +kernel) (by decide +kernel)
theorem mX1_57 : qLkV RX1 57 M_X1_filledUp 3 := ⟨lkX1_filledUp, kdX1_filledUp, slX1_filledUp, Or.inl lkmX1_57⟩
theorem cdX3_powerOfTen : Cond.code yX3_powerOfTen cX3_powerOfTen 4 (some .long) ∈ qT := qT_in (by decide +kernel) (by decide +kernel)
theorem lkX3_powerOfTen : qLk M_X3_powerOfTen 1 := ⟨cdX3_powerOfTen, iniX3, by decide +kernel, by decide +kernel⟩
theorem lkmX1_61 : Cond.methodLinkNest RX1 61 yX3_powerOfTen "CallNumbers" ∈ qN := qN_in (by decide +kernel) rfl
theorem kdX3_powerOfTen : Cond.static yX3_powerOfTen ∈ qT := qT_in (by decide +kernel) (by decide +kernel)
theorem mX1_61 : qLkS RX1 61 M_X3_powerOfTen 1 := ⟨lkX3_powerOfTen, kdX3_powerOfTen, Or.inr ⟨_, lkmX1_61⟩⟩
theorem cdX0_addLine : Cond.code yX0_addLine cX0_addLine 2 none ∈ qT := qT_in (by decide +kernel) (by decide +kernel)
theorem lkX0_addLine : qLk M_X0_addLine 1 := ⟨cdX0_addLine, iniX0, by decide +kernel, by decide +kernel⟩
theorem lkmX1_69 : Cond.methodLink RX1 69 yX0_addLine ∈ qT := qT_in (by decide +kernel) (by decide +kernel)
theorem kdX0_addLine : Cond.instanceMethod yX0_addLine ∈ qT := qT_in (by decide +kernel) (by decide +kernel)
theorem slX0_addLine : Cond.selects RX0 yX0_addLine yX0_addLine ∈ qT := qT_in (by decide +kernel) (by decide +kernel)
theorem mX1_69 : qLkV RX1 69 M_X0_addLine 1 := ⟨lkX0_addLine, kdX0_addLine, slX0_addLine, Or.inl lkmX1_69⟩
theorem cdX1_signAt : Cond.code yX1_signAt cX1_signAt 2 (some .int) ∈ qT := qT_in (by decide +kernel) (by decide +kernel)
theorem lkX1_signAt : qLk M_X1_signAt 1 := ⟨cdX1_signAt, iniX1, by decide +kernel, by decide +kernel⟩
theorem lkmX1_73 : Cond.methodLink RX1 73 yX1_signAt ∈ qT := qT_in (by decide +kernel) (by decide +kernel)
theorem kdX1_signAt : Cond.instanceMethod yX1_signAt ∈ qT := qT_in (by decide +kernel) (by decide +kernel)
theorem slX1_signAt : Cond.selects RX1 yX1_signAt yX1_signAt ∈ qT := qT_in (by decide +kernel) (by decide +kernel)
theorem mX1_73 : qLkV RX1 73 M_X1_signAt 1 := ⟨lkX1_signAt, kdX1_signAt, slX1_signAt, Or.inl lkmX1_73⟩
theorem cdX1_isCapital : Cond.code yX1_isCapital cX1_isCapital 1 (some .boolean) ∈ qT := qT_in (by decide +kernel) (by decide +kernel)
theorem lkX1_isCapital : qLk M_X1_isCapital 1 := ⟨cdX1_isCapital, iniX1, by decide +kernel, by decide +kernel⟩
theorem lkmX1_77 : Cond.methodLink RX1 77 yX1_isCapital ∈ qT := qT_in (by decide +kernel) (by decide +kernel)
theorem kdX1_isCapital : Cond.static yX1_isCapital ∈ qT := qT_in (by decide +kernel) (by decide +kernel)
theorem mX1_77 : qLkS RX1 77 M_X1_isCapital 1 := ⟨lkX1_isCapital, kdX1_isCapital, Or.inl lkmX1_77⟩
theorem cdX1_readDecimals : Cond.code yX1_readDecimals cX1_readDecimals 2 (some .boolean) ∈ qT := qT_in (by decide +kernel) (by decide +kernel)
theorem lkX1_readDecimals : qLk M_X1_readDecimals 1 := ⟨cdX1_readDecimals, iniX1, by decide +kernel, by decide +kernel⟩
theorem lkmX1_86 : Cond.methodLink RX1 86 yX1_readDecimals ∈ qT := qT_in (by decide +kernel) (by decide +kernel)
theorem kdX1_readDecimals : Cond.instanceMethod yX1_readDecimals ∈ qT := qT_in (by decide +kernel) (by decide +kernel)
theorem slX1_readDecimals : Cond.selects RX1 yX1_readDecimals yX1_readDecimals ∈ qT := qT_in (by decide +kernel) (by decide +kernel)
theorem mX1_86 : qLkV RX1 86 M_X1_readDecimals 1 := ⟨lkX1_readDecimals, kdX1_readDecimals, slX1_readDecimals, Or.inl lkmX1_86⟩
theorem cdX1_partThatBegins : Cond.code yX1_partThatBegins cX1_partThatBegins 2 (some .int) ∈ qT := qT_in (by decide +kernel) (by decide +kernel)
theorem lkX1_partThatBegins : qLk M_X1_partThatBegins 0 := ⟨cdX1_partThatBegins, iniX1, by decide +kernel, by decide +kernel⟩
theorem lkmX1_98 : Cond.methodLink RX1 98 yX1_partThatBegins ∈ qT := qT_in (by decide +kernel) (by decide +kernel)
theorem kdX1_partThatBegins : Cond.instanceMethod yX1_partThatBegins ∈ qT := qT_in (by decide +kernel) (by decide +kernel)
theorem slX1_partThatBegins : Cond.selects RX1 yX1_partThatBegins yX1_partThatBegins ∈ qT := qT_in (by decide +kernel) (by decide +kernel)
theorem mX1_98 : qLkV RX1 98 M_X1_partThatBegins 0 := ⟨lkX1_partThatBegins, kdX1_partThatBegins, slX1_partThatBegins, Or.inl lkmX1_98⟩
theorem cdX1_readYear : Cond.code yX1_readYear cX1_readYear 3 (some .boolean) ∈ qT := qT_in (by decide +kernel) (by decide +kernel)
theorem lkX1_readYear : qLk M_X1_readYear 1 := ⟨cdX1_readYear, iniX1, by decide +kernel, by decide +kernel⟩
theorem lkmX1_102 : Cond.methodLink RX1 102 yX1_readYear ∈ qT := qT_in (by decide +kernel) (by decide +kernel)
theorem kdX1_readYear : Cond.instanceMethod yX1_readYear ∈ qT := qT_in (by decide +kernel) (by decide +kernel)
theorem slX1_readYear : Cond.selects RX1 yX1_readYear yX1_readYear ∈ qT := qT_in (by decide +kernel) (by decide +kernel)
theorem mX1_102 : qLkV RX1 102 M_X1_readYear 1 := ⟨lkX1_readYear, kdX1_readYear, slX1_readYear, Or.inl lkmX1_102⟩
theorem cdX1_readVolume : Cond.code yX1_readVolume cX1_readVolume 4 (some .boolean) ∈ qT := qT_in (by decide +kernel) (by decide +kernel)
theorem lkX1_readVolume : qLk M_X1_readVolume 1 := ⟨cdX1_readVolume, iniX1, by decide +kernel, by decide +kernel⟩
theorem lkmX1_105 : Cond.methodLink RX1 105 yX1_readVolume ∈ qT := qT_in (by decide +kernel) (by decide +kernel)
theorem kdX1_readVolume : Cond.instanceMethod yX1_readVolume ∈ qT := qT_in (by decide +kernel) (by decide +kernel)
theorem slX1_readVolume : Cond.selects RX1 yX1_readVolume yX1_readVolume ∈ qT := qT_in (by decide +kernel) (by decide +kernel)
theorem mX1_105 : qLkV RX1 105 M_X1_readVolume 1 := ⟨lkX1_readVolume, kdX1_readVolume, slX1_readVolume, Or.inl lkmX1_105⟩
theorem cdX1_readMark : Cond.code yX1_readMark cX1_readMark 6 (some .boolean) ∈ qT := qT_in (by decide +kernel) (by decide +kernel)
theorem lkX1_readMark : qLk M_X1_readMark 1 := ⟨cdX1_readMark, iniX1, by decide +kernel, by decide +kernel⟩
theorem lkmX1_108 : Cond.methodLink RX1 108 yX1_readMark ∈ qT := qT_in (by decide +kernel) (by decide +kernel)
theorem kdX1_readMark : Cond.instanceMethod yX1_readMark ∈ qT := qT_in (by decide +kernel) (by decide +kernel)
theorem slX1_readMark : Cond.selects RX1 yX1_readMark yX1_readMark ∈ qT := qT_in (by decide +kernel) (by decide +kernel)
theorem mX1_108 : qLkV RX1 108 M_X1_readMark 1 := ⟨lkX1_readMark, kdX1_readMark, slX1_readMark, Or.inl lkmX1_108⟩
theorem cdX1_isDigit : Cond.code yX1_isDigit cX1_isDigit 1 (some .boolean) ∈ qT := qT_in (by decide +kernel) (by decide +kernel)
theorem lkX1_isDigit : qLk M_X1_isDigit 1 := ⟨cdX1_isDigit, iniX1, by decide +kernel, by decide +kernel⟩
theorem lkmX1_111 : Cond.methodLink RX1 111 yX1_isDigit ∈ qT := qT_in (by decide +kernel) (by decide +kernel)
theorem kdX1_isDigit : Cond.static yX1_isDigit ∈ qT := qT_in (by decide +kernel) (by decide +kernel)
theorem mX1_111 : qLkS RX1 111 M_X1_isDigit 1 := ⟨lkX1_isDigit, kdX1_isDigit, Or.inl lkmX1_111⟩
theorem cdX1_isSmall : Cond.code yX1_isSmall cX1_isSmall 1 (some .boolean) ∈ qT := qT_in (by decide +kernel) (by decide +kernel)
theorem lkX1_isSmall : qLk M_X1_isSmall 1 := ⟨cdX1_isSmall, iniX1, by decide +kernel, by decide +kernel⟩
theorem lkmX1_114 : Cond.methodLink RX1 114 yX1_isSmall ∈ qT := qT_in (by decide +kernel) (by decide +kernel)
theorem kdX1_isSmall : Cond.static yX1_isSmall ∈ qT := qT_in (by decide +kernel) (by decide +kernel)
theorem mX1_114 : qLkS RX1 114 M_X1_isSmall 1 := ⟨lkX1_isSmall, kdX1_isSmall, Or.inl lkmX1_114⟩
theorem cdX2_has : Cond.code yX2_has cX2_has 2 (some .boolean) ∈ qT := qT_in (by decide +kernel) (by decide +kernel)
theorem lkX2_has : qLk M_X2_has 1 := ⟨cdX2_has, iniX2, by decide +kernel, by decide +kernel⟩
theorem lkmX2_25 : Cond.methodLink RX2 25 yX2_has ∈ qT := qT_in (by decide +kernel) (by decide +kernel)
theorem kdX2_has : Cond.instanceMethod yX2_has ∈ qT := qT_in (by decide +kernel) (by decide +kernel)
theorem slX2_has : Cond.selects RX2 yX2_has yX2_has ∈ qT := qT_in (by decide +kernel) (by decide +kernel)
theorem mX2_25 : qLkV RX2 25 M_X2_has 1 := ⟨lkX2_has, kdX2_has, slX2_has, Or.inl lkmX2_25⟩
theorem cdX2_numberAt : Cond.code yX2_numberAt cX2_numberAt 2 (some (.object "CallNumbers$CallNumber")) ∈ qT := qT_in (by decide +kernel) (by decide +kernel)
theorem lkX2_numberAt : qLk M_X2_numberAt 1 := ⟨cdX2_numberAt, iniX2, by decide +kernel, by decide +kernel⟩
theorem lkmX2_29 : Cond.methodLink RX2 29 yX2_numberAt ∈ qT := qT_in (by decide +kernel) (by decide +kernel)
theorem kdX2_numberAt : Cond.instanceMethod yX2_numberAt ∈ qT := qT_in (by decide +kernel) (by decide +kernel)
theorem slX2_numberAt : Cond.selects RX2 yX2_numberAt yX2_numberAt ∈ qT := qT_in (by decide +kernel) (by decide +kernel)
theorem mX2_29 : qLkV RX2 29 M_X2_numberAt 1 := ⟨lkX2_numberAt, kdX2_numberAt, slX2_numberAt, Or.inl lkmX2_29⟩
theorem cdX3_order : Cond.code yX3_order cX3_order 3 (some .int) ∈ qT := qT_in (by decide +kernel) (by decide +kernel)
theorem lkX3_order : qLk M_X3_order 2 := ⟨cdX3_order, iniX3, by decide +kernel, by decide +kernel⟩
theorem lkmX2_33 : Cond.methodLinkNest RX2 33 yX3_order "CallNumbers" ∈ qN := qN_in (by decide +kernel) rfl
theorem kdX3_order : Cond.static yX3_order ∈ qT := qT_in (by decide +kernel) (by decide +kernel)
theorem mX2_33 : qLkS RX2 33 M_X3_order 2 := ⟨lkX3_order, kdX3_order, Or.inr ⟨_, lkmX2_33⟩⟩
theorem cdX0_hasClassOf : Cond.code yX0_hasClassOf cX0_hasClassOf 2 (some .boolean) ∈ qT := qT_in (by decide +kernel) (by decide +kernel)
theorem lkX0_hasClassOf : qLk M_X0_hasClassOf 1 := ⟨cdX0_hasClassOf, iniX0, by decide +kernel, by decide +kernel⟩
theorem lkmX2_37 : Cond.methodLink RX2 37 yX0_hasClassOf ∈ qT := qT_in (by decide +kernel) (by decide +kernel)
theorem kdX0_hasClassOf : Cond.instanceMethod yX0_hasClassOf ∈ qT := qT_in (by decide +kernel) (by decide +kernel)
theorem slX0_hasClassOf : Cond.selects RX0 yX0_hasClassOf yX0_hasClassOf ∈ qT := qT_in (by decide +kernel) (by decide +kernel)
theorem mX2_37 : qLkV RX2 37 M_X0_hasClassOf 1 := ⟨lkX0_hasClassOf, kdX0_hasClassOf, slX0_hasClassOf, Or.inl lkmX2_37⟩
theorem cdX1_init : Cond.code yX1_init cX1_init 2 none ∈ qT := qT_in (by decide +kernel) (by decide +kernel)
theorem lkX1_init : qLk M_X1_init 1 := ⟨cdX1_init, iniX1, by decide +kernel, by decide +kernel⟩
theorem lkmX3_9 : Cond.methodLink RX3 9 yX1_init ∈ qT := qT_in (by decide +kernel) (by decide +kernel)
theorem kdX1_init : Cond.instanceMethod yX1_init ∈ qT := qT_in (by decide +kernel) (by decide +kernel)
theorem mX3_9 : qLkI RX3 9 M_X1_init 1 := ⟨lkX1_init, rfl, rfl, kdX1_init, Or.inl lkmX3_9⟩
theorem cdX2_init : Cond.code yX2_init cX2_init 1 none ∈ qT := qT_in (by decide +kernel) (by decide +kernel)
theorem lkX2_init : qLk M_X2_init 0 := ⟨cdX2_init, iniX2, by decide +kernel, by decide +kernel⟩
theorem lkmX3_20 : Cond.methodLinkNest RX3 20 yX2_init "CallNumbers" ∈ qN := qN_in (by decide +kernel) rfl
theorem kdX2_init : Cond.instanceMethod yX2_init ∈ qT := qT_in (by decide +kernel) (by decide +kernel)
theorem mX3_20 : qLkI RX3 20 M_X2_init 0 := ⟨lkX2_init, rfl, rfl, kdX2_init, Or.inr ⟨_, lkmX3_20⟩⟩
theorem cdX1_collect : Cond.code yX1_collect cX1_collect 2 none ∈ qT := qT_in (by decide +kernel) (by decide +kernel)
theorem lkX1_collect : qLk M_X1_collect 1 := ⟨cdX1_collect, iniX1, by decide +kernel, by decide +kernel⟩
theorem lkmX3_32 : Cond.methodLink RX3 32 yX1_collect ∈ qT := qT_in (by decide +kernel) (by decide +kernel)
theorem kdX1_collect : Cond.instanceMethod yX1_collect ∈ qT := qT_in (by decide +kernel) (by decide +kernel)
theorem slX1_collect : Cond.selects RX1 yX1_collect yX1_collect ∈ qT := qT_in (by decide +kernel) (by decide +kernel)
theorem mX3_32 : qLkV RX3 32 M_X1_collect 1 := ⟨lkX1_collect, kdX1_collect, slX1_collect, Or.inl lkmX3_32⟩
theorem cdX1_readCollected : Cond.code yX1_readCollected cX1_readCollected 3 (some (.object "CallNumbers$CallNumber")) ∈ qT := qT_in (by decide +kernel) (by decide +kernel)
theorem lkX1_readCollected : qLk M_X1_readCollected 0 := ⟨cdX1_readCollected, iniX1, by decide +kernel, by decide +kernel⟩
theorem lkmX3_36 : Cond.methodLink RX3 36 yX1_readCollected ∈ qT := qT_in (by decide +kernel) (by decide +kernel)
theorem kdX1_readCollected : Cond.instanceMethod yX1_readCollected ∈ qT := qT_in (by decide +kernel) (by decide +kernel)
theorem slX1_readCollected : Cond.selects RX1 yX1_readCollected yX1_readCollected ∈ qT := qT_in (by decide +kernel) (by decide +kernel)
theorem mX3_36 : qLkV RX3 36 M_X1_readCollected 0 := ⟨lkX1_readCollected, kdX1_readCollected, slX1_readCollected, Or.inl lkmX3_36⟩
theorem cdX1_forget : Cond.code yX1_forget cX1_forget 1 none ∈ qT := qT_in (by decide +kernel) (by decide +kernel)
theorem lkX1_forget : qLk M_X1_forget 0 := ⟨cdX1_forget, iniX1, by decide +kernel, by decide +kernel⟩
theorem lkmX3_40 : Cond.methodLink RX3 40 yX1_forget ∈ qT := qT_in (by decide +kernel) (by decide +kernel)
theorem kdX1_forget : Cond.instanceMethod yX1_forget ∈ qT := qT_in (by decide +kernel) (by decide +kernel)
theorem slX1_forget : Cond.selects RX1 yX1_forget yX1_forget ∈ qT := qT_in (by decide +kernel) (by decide +kernel)
theorem mX3_40 : qLkV RX3 40 M_X1_forget 0 := ⟨lkX1_forget, kdX1_forget, slX1_forget, Or.inl lkmX3_40⟩
theorem cdX1_place : Cond.code yX1_place cX1_place 1 (some .int) ∈ qT := qT_in (by decide +kernel) (by decide +kernel)
theorem lkX1_place : qLk M_X1_place 0 := ⟨cdX1_place, iniX1, by decide +kernel, by decide +kernel⟩
theorem lkmX3_43 : Cond.methodLink RX3 43 yX1_place ∈ qT := qT_in (by decide +kernel) (by decide +kernel)
theorem kdX1_place : Cond.instanceMethod yX1_place ∈ qT := qT_in (by decide +kernel) (by decide +kernel)
theorem slX1_place : Cond.selects RX1 yX1_place yX1_place ∈ qT := qT_in (by decide +kernel) (by decide +kernel)
theorem mX3_43 : qLkV RX3 43 M_X1_place 0 := ⟨lkX1_place, kdX1_place, slX1_place, Or.inl lkmX3_43⟩
theorem cdX0_partCount : Cond.code yX0_partCount cX0_partCount 1 (some .int) ∈ qT := qT_in (by decide +kernel) (by decide +kernel)
theorem lkX0_partCount : qLk M_X0_partCount 0 := ⟨cdX0_partCount, iniX0, by decide +kernel, by decide +kernel⟩
theorem lkmX3_47 : Cond.methodLink RX3 47 yX0_partCount ∈ qT := qT_in (by decide +kernel) (by decide +kernel)
theorem kdX0_partCount : Cond.instanceMethod yX0_partCount ∈ qT := qT_in (by decide +kernel) (by decide +kernel)
theorem slX0_partCount : Cond.selects RX0 yX0_partCount yX0_partCount ∈ qT := qT_in (by decide +kernel) (by decide +kernel)
theorem mX3_47 : qLkV RX3 47 M_X0_partCount 0 := ⟨lkX0_partCount, kdX0_partCount, slX0_partCount, Or.inl lkmX3_47⟩
theorem cdX0_capitalAt : Cond.code yX0_capitalAt cX0_capitalAt 2 (some .int) ∈ qT := qT_in (by decide +kernel) (by decide +kernel)
theorem lkX0_capitalAt : qLk M_X0_capitalAt 1 := ⟨cdX0_capitalAt, iniX0, by decide +kernel, by decide +kernel⟩
theorem lkmX3_76 : Cond.methodLink RX3 76 yX0_capitalAt ∈ qT := qT_in (by decide +kernel) (by decide +kernel)
theorem kdX0_capitalAt : Cond.instanceMethod yX0_capitalAt ∈ qT := qT_in (by decide +kernel) (by decide +kernel)
theorem slX0_capitalAt : Cond.selects RX0 yX0_capitalAt yX0_capitalAt ∈ qT := qT_in (by decide +kernel) (by decide +kernel)
theorem mX3_76 : qLkV RX3 76 M_X0_capitalAt 1 := ⟨lkX0_capitalAt, kdX0_capitalAt, slX0_capitalAt, Or.inl lkmX3_76⟩
theorem cdX2_countBefore : Cond.code yX2_countBefore cX2_countBefore 5 (some .int) ∈ qT := qT_in (by decide +kernel) (by decide +kernel)
theorem lkX2_countBefore : qLk M_X2_countBefore 1 := ⟨cdX2_countBefore, iniX2, by decide +kernel, by decide +kernel⟩
theorem lkmX3_80 : Cond.methodLink RX3 80 yX2_countBefore ∈ qT := qT_in (by decide +kernel) (by decide +kernel)
theorem kdX2_countBefore : Cond.instanceMethod yX2_countBefore ∈ qT := qT_in (by decide +kernel) (by decide +kernel)
theorem slX2_countBefore : Cond.selects RX2 yX2_countBefore yX2_countBefore ∈ qT := qT_in (by decide +kernel) (by decide +kernel)
theorem mX3_80 : qLkV RX3 80 M_X2_countBefore 1 := ⟨lkX2_countBefore, kdX2_countBefore, slX2_countBefore, Or.inl lkmX3_80⟩
theorem cdX2_isSameAt : Cond.code yX2_isSameAt cX2_isSameAt 4 (some .boolean) ∈ qT := qT_in (by decide +kernel) (by decide +kernel)
theorem lkX2_isSameAt : qLk M_X2_isSameAt 2 := ⟨cdX2_isSameAt, iniX2, by decide +kernel, by decide +kernel⟩
theorem lkmX3_84 : Cond.methodLink RX3 84 yX2_isSameAt ∈ qT := qT_in (by decide +kernel) (by decide +kernel)
theorem kdX2_isSameAt : Cond.instanceMethod yX2_isSameAt ∈ qT := qT_in (by decide +kernel) (by decide +kernel)
theorem slX2_isSameAt : Cond.selects RX2 yX2_isSameAt yX2_isSameAt ∈ qT := qT_in (by decide +kernel) (by decide +kernel)
theorem mX3_84 : qLkV RX3 84 M_X2_isSameAt 2 := ⟨lkX2_isSameAt, kdX2_isSameAt, slX2_isSameAt, Or.inl lkmX3_84⟩
theorem cdX2_insert : Cond.code yX2_insert cX2_insert 5 (some .boolean) ∈ qT := qT_in (by decide +kernel) (by decide +kernel)
theorem lkX2_insert : qLk M_X2_insert 3 := ⟨cdX2_insert, iniX2, by decide +kernel, by decide +kernel⟩
theorem lkmX3_88 : Cond.methodLink RX3 88 yX2_insert ∈ qT := qT_in (by decide +kernel) (by decide +kernel)
theorem kdX2_insert : Cond.instanceMethod yX2_insert ∈ qT := qT_in (by decide +kernel) (by decide +kernel)
theorem slX2_insert : Cond.selects RX2 yX2_insert yX2_insert ∈ qT := qT_in (by decide +kernel) (by decide +kernel)
theorem mX3_88 : qLkV RX3 88 M_X2_insert 3 := ⟨lkX2_insert, kdX2_insert, slX2_insert, Or.inl lkmX3_88⟩
theorem cdX2_recordAt : Cond.code yX2_recordAt cX2_recordAt 2 (some .int) ∈ qT := qT_in (by decide +kernel) (by decide +kernel)
theorem lkX2_recordAt : qLk M_X2_recordAt 1 := ⟨cdX2_recordAt, iniX2, by decide +kernel, by decide +kernel⟩
theorem lkmX3_92 : Cond.methodLink RX3 92 yX2_recordAt ∈ qT := qT_in (by decide +kernel) (by decide +kernel)
theorem kdX2_recordAt : Cond.instanceMethod yX2_recordAt ∈ qT := qT_in (by decide +kernel) (by decide +kernel)
theorem slX2_recordAt : Cond.selects RX2 yX2_recordAt yX2_recordAt ∈ qT := qT_in (by decide +kernel) (by decide +kernel)
theorem mX3_92 : qLkV RX3 92 M_X2_recordAt 1 := ⟨lkX2_recordAt, kdX2_recordAt, slX2_recordAt, Or.inl lkmX3_92⟩
theorem cdX2_remove : Cond.code yX2_remove cX2_remove 3 none ∈ qT := qT_in (by decide +kernel) (by decide +kernel)
theorem lkX2_remove : qLk M_X2_remove 1 := ⟨cdX2_remove, iniX2, by decide +kernel, by decide +kernel⟩
theorem lkmX3_95 : Cond.methodLink RX3 95 yX2_remove ∈ qT := qT_in (by decide +kernel) (by decide +kernel)
theorem kdX2_remove : Cond.instanceMethod yX2_remove ∈ qT := qT_in (by decide +kernel) (by decide +kernel)
theorem slX2_remove : Cond.selects RX2 yX2_remove yX2_remove ∈ qT := qT_in (by decide +kernel) (by decide +kernel)
theorem mX3_95 : qLkV RX3 95 M_X2_remove 1 := ⟨lkX2_remove, kdX2_remove, slX2_remove, Or.inl lkmX3_95⟩
theorem lkmX3_98 : Cond.methodLink RX3 98 yX2_numberAt ∈ qT := qT_in (by decide +kernel) (by decide +kernel)
theorem mX3_98 : qLkV RX3 98 M_X2_numberAt 1 := ⟨lkX2_numberAt, kdX2_numberAt, slX2_numberAt, Or.inl lkmX3_98⟩
theorem lkmX3_102 : Cond.methodLink RX3 102 yX3_order ∈ qT := qT_in (by decide +kernel) (by decide +kernel)
theorem mX3_102 : qLkS RX3 102 M_X3_order 2 := ⟨lkX3_order, kdX3_order, Or.inl lkmX3_102⟩
theorem cdX3_freeWithMore : Cond.code yX3_freeWithMore cX3_freeWithMore 8 (some .int) ∈ qT := qT_in (by decide +kernel) (by decide +kernel)
theorem lkX3_freeWithMore : qLk M_X3_freeWithMore 2 := ⟨cdX3_freeWithMore, iniX3, by decide +kernel, by decide +kernel⟩
theorem lkmX3_109 : Cond.methodLink RX3 109 yX3_freeWithMore ∈ qT := qT_in (by decide +kernel) (by decide +kernel)
theorem kdX3_freeWithMore : Cond.instanceMethod yX3_freeWithMore ∈ qT := qT_in (by decide +kernel) (by decide +kernel)
theorem slX3_freeWithMore : Cond.selects RX3 yX3_freeWithMore yX3_freeWithMore ∈ qT := qT_in (by decide +kernel) (by decide +kernel)
theorem mX3_109 : qLkV RX3 109 M_X3_freeWithMore 2 := ⟨lkX3_freeWithMore, kdX3_freeWithMore, slX3_freeWithMore, Or.inl lkmX3_109⟩
theorem cdX0_lineAt : Cond.code yX0_lineAt cX0_lineAt 2 (some .int) ∈ qT := qT_in (by decide +kernel) (by decide +kernel)
theorem lkX0_lineAt : qLk M_X0_lineAt 1 := ⟨cdX0_lineAt, iniX0, by decide +kernel, by decide +kernel⟩
theorem lkmX3_113 : Cond.methodLink RX3 113 yX0_lineAt ∈ qT := qT_in (by decide +kernel) (by decide +kernel)
theorem kdX0_lineAt : Cond.instanceMethod yX0_lineAt ∈ qT := qT_in (by decide +kernel) (by decide +kernel)
theorem slX0_lineAt : Cond.selects RX0 yX0_lineAt yX0_lineAt ∈ qT := qT_in (by decide +kernel) (by decide +kernel)
theorem mX3_113 : qLkV RX3 113 M_X0_lineAt 1 := ⟨lkX0_lineAt, kdX0_lineAt, slX0_lineAt, Or.inl lkmX3_113⟩
theorem cdX2_firstWith : Cond.code yX2_firstWith cX2_firstWith 3 (some .int) ∈ qT := qT_in (by decide +kernel) (by decide +kernel)
theorem lkX2_firstWith : qLk M_X2_firstWith 1 := ⟨cdX2_firstWith, iniX2, by decide +kernel, by decide +kernel⟩
theorem lkmX3_116 : Cond.methodLink RX3 116 yX2_firstWith ∈ qT := qT_in (by decide +kernel) (by decide +kernel)
theorem kdX2_firstWith : Cond.instanceMethod yX2_firstWith ∈ qT := qT_in (by decide +kernel) (by decide +kernel)
theorem slX2_firstWith : Cond.selects RX2 yX2_firstWith yX2_firstWith ∈ qT := qT_in (by decide +kernel) (by decide +kernel)
theorem mX3_116 : qLkV RX3 116 M_X2_firstWith 1 := ⟨lkX2_firstWith, kdX2_firstWith, slX2_firstWith, Or.inl lkmX3_116⟩
theorem lkmX3_119 : Cond.methodLink RX3 119 yX3_powerOfTen ∈ qT := qT_in (by decide +kernel) (by decide +kernel)
theorem mX3_119 : qLkS RX3 119 M_X3_powerOfTen 1 := ⟨lkX3_powerOfTen, kdX3_powerOfTen, Or.inl lkmX3_119⟩
theorem cdX0_cutterAsWritten : Cond.code yX0_cutterAsWritten cX0_cutterAsWritten 3 (some .int) ∈ qT := qT_in (by decide +kernel) (by decide +kernel)
theorem lkX0_cutterAsWritten : qLk M_X0_cutterAsWritten 0 := ⟨cdX0_cutterAsWritten, iniX0, by decide +kernel, by decide +kernel⟩
theorem lkmX3_123 : Cond.methodLink RX3 123 yX0_cutterAsWritten ∈ qT := qT_in (by decide +kernel) (by decide +kernel)
theorem kdX0_cutterAsWritten : Cond.instanceMethod yX0_cutterAsWritten ∈ qT := qT_in (by decide +kernel) (by decide +kernel)
theorem slX0_cutterAsWritten : Cond.selects RX0 yX0_cutterAsWritten yX0_cutterAsWritten ∈ qT := qT_in (by decide +kernel) (by decide +kernel)
theorem mX3_123 : qLkV RX3 123 M_X0_cutterAsWritten 0 := ⟨lkX0_cutterAsWritten, kdX0_cutterAsWritten, slX0_cutterAsWritten, Or.inl lkmX3_123⟩
theorem cdX3_hasNoZero : Cond.code yX3_hasNoZero cX3_hasNoZero 3 (some .boolean) ∈ qT := qT_in (by decide +kernel) (by decide +kernel)
theorem lkX3_hasNoZero : qLk M_X3_hasNoZero 1 := ⟨cdX3_hasNoZero, iniX3, by decide +kernel, by decide +kernel⟩
theorem lkmX3_126 : Cond.methodLink RX3 126 yX3_hasNoZero ∈ qT := qT_in (by decide +kernel) (by decide +kernel)
theorem kdX3_hasNoZero : Cond.static yX3_hasNoZero ∈ qT := qT_in (by decide +kernel) (by decide +kernel)
theorem mX3_126 : qLkS RX3 126 M_X3_hasNoZero 1 := ⟨lkX3_hasNoZero, kdX3_hasNoZero, Or.inl lkmX3_126⟩
theorem cdX2_hasCutter : Cond.code yX2_hasCutter cX2_hasCutter 5 (some .boolean) ∈ qT := qT_in (by decide +kernel) (by decide +kernel)
theorem lkX2_hasCutter : qLk M_X2_hasCutter 2 := ⟨cdX2_hasCutter, iniX2, by decide +kernel, by decide +kernel⟩
theorem lkmX3_130 : Cond.methodLink RX3 130 yX2_hasCutter ∈ qT := qT_in (by decide +kernel) (by decide +kernel)
theorem kdX2_hasCutter : Cond.instanceMethod yX2_hasCutter ∈ qT := qT_in (by decide +kernel) (by decide +kernel)
theorem slX2_hasCutter : Cond.selects RX2 yX2_hasCutter yX2_hasCutter ∈ qT := qT_in (by decide +kernel) (by decide +kernel)
theorem mX3_130 : qLkV RX3 130 M_X2_hasCutter 2 := ⟨lkX2_hasCutter, kdX2_hasCutter, slX2_hasCutter, Or.inl lkmX3_130⟩
theorem cdX3_side : Cond.code yX3_side cX3_side 4 (some .int) ∈ qT := qT_in (by decide +kernel) (by decide +kernel)
theorem lkX3_side : qLk M_X3_side 2 := ⟨cdX3_side, iniX3, by decide +kernel, by decide +kernel⟩
theorem lkmX3_139 : Cond.methodLink RX3 139 yX3_side ∈ qT := qT_in (by decide +kernel) (by decide +kernel)
theorem kdX3_side : Cond.static yX3_side ∈ qT := qT_in (by decide +kernel) (by decide +kernel)
theorem mX3_139 : qLkS RX3 139 M_X3_side 2 := ⟨lkX3_side, kdX3_side, Or.inl lkmX3_139⟩
theorem cdX4_look : Cond.code yX4_look cX4_look 1 (some .int) ∈ qT := qT_in (by decide +kernel) (by decide +kernel)
theorem lkX4_look : qLk M_X4_look 0 := ⟨cdX4_look, iniX4, by decide +kernel, by decide +kernel⟩
theorem lkmX4_45 : Cond.methodLink RX4 45 yX4_look ∈ qT := qT_in (by decide +kernel) (by decide +kernel)
theorem kdX4_look : Cond.instanceMethod yX4_look ∈ qT := qT_in (by decide +kernel) (by decide +kernel)
theorem slX4_look : Cond.selects RX4 yX4_look yX4_look ∈ qT := qT_in (by decide +kernel) (by decide +kernel)
theorem mX4_45 : qLkV RX4 45 M_X4_look 0 := ⟨lkX4_look, kdX4_look, slX4_look, Or.inl lkmX4_45⟩
theorem cdX4_isDigit : Cond.code yX4_isDigit cX4_isDigit 1 (some .boolean) ∈ qT := qT_in (by decide +kernel) (by decide +kernel)
theorem lkX4_isDigit : qLk M_X4_isDigit 1 := ⟨cdX4_isDigit, iniX4, by decide +kernel, by decide +kernel⟩
theorem lkmX4_49 : Cond.methodLink RX4 49 yX4_isDigit ∈ qT := qT_in (by decide +kernel) (by decide +kernel)
theorem kdX4_isDigit : Cond.static yX4_isDigit ∈ qT := qT_in (by decide +kernel) (by decide +kernel)
theorem mX4_49 : qLkS RX4 49 M_X4_isDigit 1 := ⟨lkX4_isDigit, kdX4_isDigit, Or.inl lkmX4_49⟩
theorem cdX4_bad : Cond.code yX4_bad cX4_bad 2 (some .boolean) ∈ qT := qT_in (by decide +kernel) (by decide +kernel)
theorem lkX4_bad : qLk M_X4_bad 1 := ⟨cdX4_bad, iniX4, by decide +kernel, by decide +kernel⟩
theorem lkmX4_53 : Cond.methodLink RX4 53 yX4_bad ∈ qT := qT_in (by decide +kernel) (by decide +kernel)
theorem kdX4_bad : Cond.instanceMethod yX4_bad ∈ qT := qT_in (by decide +kernel) (by decide +kernel)
theorem slX4_bad : Cond.selects RX4 yX4_bad yX4_bad ∈ qT := qT_in (by decide +kernel) (by decide +kernel)
theorem mX4_53 : qLkV RX4 53 M_X4_bad 1 := ⟨lkX4_bad, kdX4_bad, slX4_bad, Or.inl lkmX4_53⟩
theorem cdX4_isCapital : Cond.code yX4_isCapital cX4_isCapital 1 (some .boolean) ∈ qT := qT_in (by decide +kernel) (by decide +kernel)
theorem lkX4_isCapital : qLk M_X4_isCapital 1 := ⟨cdX4_isCapital, iniX4, by decide +kernel, by decide +kernel⟩
theorem lkmX4_56 : Cond.methodLink RX4 56 yX4_isCapital ∈ qT := qT_in (by decide +kernel) (by decide +kernel)
theorem kdX4_isCapital : Cond.static yX4_isCapital ∈ qT := qT_in (by decide +kernel) (by decide +kernel)
theorem mX4_56 : qLkS RX4 56 M_X4_isCapital 1 := ⟨lkX4_isCapital, kdX4_isCapital, Or.inl lkmX4_56⟩
theorem cdX4_number : Cond.code yX4_number cX4_number 5 (some .boolean) ∈ qT := qT_in (by decide +kernel) (by decide +kernel)
theorem lkX4_number : qLk M_X4_number 2 := ⟨cdX4_number, iniX4, by decide +kernel, by decide +kernel⟩
theorem lkmX4_59 : Cond.methodLink RX4 59 yX4_number ∈ qT := qT_in (by decide +kernel) (by decide +kernel)
theorem kdX4_number : Cond.instanceMethod yX4_number ∈ qT := qT_in (by decide +kernel) (by decide +kernel)
theorem slX4_number : Cond.selects RX4 yX4_number yX4_number ∈ qT := qT_in (by decide +kernel) (by decide +kernel)
theorem mX4_59 : qLkV RX4 59 M_X4_number 2 := ⟨lkX4_number, kdX4_number, slX4_number, Or.inl lkmX4_59⟩
theorem cdX4_digits : Cond.code yX4_digits cX4_digits 4 (some .boolean) ∈ qT := qT_in (by decide +kernel) (by decide +kernel)
theorem lkX4_digits : qLk M_X4_digits 2 := ⟨cdX4_digits, iniX4, by decide +kernel, by decide +kernel⟩
theorem lkmX4_63 : Cond.methodLink RX4 63 yX4_digits ∈ qT := qT_in (by decide +kernel) (by decide +kernel)
theorem kdX4_digits : Cond.instanceMethod yX4_digits ∈ qT := qT_in (by decide +kernel) (by decide +kernel)
theorem slX4_digits : Cond.selects RX4 yX4_digits yX4_digits ∈ qT := qT_in (by decide +kernel) (by decide +kernel)
theorem mX4_63 : qLkV RX4 63 M_X4_digits 2 := ⟨lkX4_digits, kdX4_digits, slX4_digits, Or.inl lkmX4_63⟩
theorem cdX4_isSmall : Cond.code yX4_isSmall cX4_isSmall 1 (some .boolean) ∈ qT := qT_in (by decide +kernel) (by decide +kernel)
theorem lkX4_isSmall : qLk M_X4_isSmall 1 := ⟨cdX4_isSmall, iniX4, by decide +kernel, by decide +kernel⟩
theorem lkmX4_66 : Cond.methodLink RX4 66 yX4_isSmall ∈ qT := qT_in (by decide +kernel) (by decide +kernel)
theorem kdX4_isSmall : Cond.static yX4_isSmall ∈ qT := qT_in (by decide +kernel) (by decide +kernel)
theorem mX4_66 : qLkS RX4 66 M_X4_isSmall 1 := ⟨lkX4_isSmall, kdX4_isSmall, Or.inl lkmX4_66⟩
theorem cdX4_readClass : Cond.code yX4_readClass cX4_readClass 3 (some .boolean) ∈ qT := qT_in (by decide +kernel) (by decide +kernel)
theorem lkX4_readClass : qLk M_X4_readClass 0 := ⟨cdX4_readClass, iniX4, by decide +kernel, by decide +kernel⟩
theorem lkmX4_69 : Cond.methodLink RX4 69 yX4_readClass ∈ qT := qT_in (by decide +kernel) (by decide +kernel)
theorem kdX4_readClass : Cond.instanceMethod yX4_readClass ∈ qT := qT_in (by decide +kernel) (by decide +kernel)
theorem slX4_readClass : Cond.selects RX4 yX4_readClass yX4_readClass ∈ qT := qT_in (by decide +kernel) (by decide +kernel)
theorem mX4_69 : qLkV RX4 69 M_X4_readClass 0 := ⟨lkX4_readClass, kdX4_readClass, slX4_readClass, Or.inl lkmX4_69⟩
theorem cdX4_space : Cond.code yX4_space cX4_space 1 (some .boolean) ∈ qT := qT_in (by decide +kernel) (by decide +kernel)
theorem lkX4_space : qLk M_X4_space 0 := ⟨cdX4_space, iniX4, by decide +kernel, by decide +kernel⟩
theorem lkmX4_73 : Cond.methodLink RX4 73 yX4_space ∈ qT := qT_in (by decide +kernel) (by decide +kernel)
theorem kdX4_space : Cond.instanceMethod yX4_space ∈ qT := qT_in (by decide +kernel) (by decide +kernel)
theorem slX4_space : Cond.selects RX4 yX4_space yX4_space ∈ qT := qT_in (by decide +kernel) (by decide +kernel)
theorem mX4_73 : qLkV RX4 73 M_X4_space 0 := ⟨lkX4_space, kdX4_space, slX4_space, Or.inl lkmX4_73⟩
theorem cdX4_readCutter : Cond.code yX4_readCutter cX4_readCutter 1 (some .boolean) ∈ qT := qT_in (by decide +kernel) (by decide +kernel)
theorem lkX4_readCutter : qLk M_X4_readCutter 0 := ⟨cdX4_readCutter, iniX4, by decide +kernel, by decide +kernel⟩
theorem lkmX4_76 : Cond.methodLink RX4 76 yX4_readCutter ∈ qT := qT_in (by decide +kernel) (by decide +kernel)
theorem kdX4_readCutter : Cond.instanceMethod yX4_readCutter ∈ qT := qT_in (by decide +kernel) (by decide +kernel)
theorem slX4_readCutter : Cond.selects RX4 yX4_readCutter yX4_readCutter ∈ qT := qT_in (by decide +kernel) (by decide +kernel)
theorem mX4_76 : qLkV RX4 76 M_X4_readCutter 0 := ⟨lkX4_readCutter, kdX4_readCutter, slX4_readCutter, Or.inl lkmX4_76⟩
theorem cdX4_readYear : Cond.code yX4_readYear cX4_readYear 3 (some .boolean) ∈ qT := qT_in (by decide +kernel) (by decide +kernel)
theorem lkX4_readYear : qLk M_X4_readYear 0 := ⟨cdX4_readYear, iniX4, by decide +kernel, by decide +kernel⟩
theorem lkmX4_79 : Cond.methodLink RX4 79 yX4_readYear ∈ qT := qT_in (by decide +kernel) (by decide +kernel)
theorem kdX4_readYear : Cond.instanceMethod yX4_readYear ∈ qT := qT_in (by decide +kernel) (by decide +kernel)
theorem slX4_readYear : Cond.selects RX4 yX4_readYear yX4_readYear ∈ qT := qT_in (by decide +kernel) (by decide +kernel)
theorem mX4_79 : qLkV RX4 79 M_X4_readYear 0 := ⟨lkX4_readYear, kdX4_readYear, slX4_readYear, Or.inl lkmX4_79⟩
theorem cdX4_readVolume : Cond.code yX4_readVolume cX4_readVolume 1 (some .boolean) ∈ qT := qT_in (by decide +kernel) (by decide +kernel)
theorem lkX4_readVolume : qLk M_X4_readVolume 0 := ⟨cdX4_readVolume, iniX4, by decide +kernel, by decide +kernel⟩
theorem lkmX4_82 : Cond.methodLink RX4 82 yX4_readVolume ∈ qT := qT_in (by decide +kernel) (by decide +kernel)
theorem kdX4_readVolume : Cond.instanceMethod yX4_readVolume ∈ qT := qT_in (by decide +kernel) (by decide +kernel)
theorem slX4_readVolume : Cond.selects RX4 yX4_readVolume yX4_readVolume ∈ qT := qT_in (by decide +kernel) (by decide +kernel)
theorem mX4_82 : qLkV RX4 82 M_X4_readVolume 0 := ⟨lkX4_readVolume, kdX4_readVolume, slX4_readVolume, Or.inl lkmX4_82⟩
theorem cdX4_readMark : Cond.code yX4_readMark cX4_readMark 2 (some .boolean) ∈ qT := qT_in (by decide +kernel) (by decide +kernel)
theorem lkX4_readMark : qLk M_X4_readMark 0 := ⟨cdX4_readMark, iniX4, by decide +kernel, by decide +kernel⟩
theorem lkmX4_85 : Cond.methodLink RX4 85 yX4_readMark ∈ qT := qT_in (by decide +kernel) (by decide +kernel)
theorem kdX4_readMark : Cond.instanceMethod yX4_readMark ∈ qT := qT_in (by decide +kernel) (by decide +kernel)
theorem slX4_readMark : Cond.selects RX4 yX4_readMark yX4_readMark ∈ qT := qT_in (by decide +kernel) (by decide +kernel)
theorem mX4_85 : qLkV RX4 85 M_X4_readMark 0 := ⟨lkX4_readMark, kdX4_readMark, slX4_readMark, Or.inl lkmX4_85⟩
theorem cdX4_reads : Cond.code yX4_reads cX4_reads 5 (some .boolean) ∈ qT := qT_in (by decide +kernel) (by decide +kernel)
theorem lkX4_reads : qLk M_X4_reads 0 := ⟨cdX4_reads, iniX4, by decide +kernel, by decide +kernel⟩
theorem lkmX4_88 : Cond.methodLink RX4 88 yX4_reads ∈ qT := qT_in (by decide +kernel) (by decide +kernel)
theorem kdX4_reads : Cond.instanceMethod yX4_reads ∈ qT := qT_in (by decide +kernel) (by decide +kernel)
theorem slX4_reads : Cond.selects RX4 yX4_reads yX4_reads ∈ qT := qT_in (by decide +kernel) (by decide +kernel)
theorem mX4_88 : qLkV RX4 88 M_X4_reads 0 := ⟨lkX4_reads, kdX4_reads, slX4_reads, Or.inl lkmX4_88⟩
theorem cdX4_value : Cond.code yX4_value cX4_value 6 (some .long) ∈ qT := qT_in (by decide +kernel) (by decide +kernel)
theorem lkX4_value : qLk M_X4_value 3 := ⟨cdX4_value, iniX4, by decide +kernel, by decide +kernel⟩
theorem lkmX4_99 : Cond.methodLink RX4 99 yX4_value ∈ qT := qT_in (by decide +kernel) (by decide +kernel)
theorem kdX4_value : Cond.static yX4_value ∈ qT := qT_in (by decide +kernel) (by decide +kernel)
theorem mX4_99 : qLkS RX4 99 M_X4_value 3 := ⟨lkX4_value, kdX4_value, Or.inl lkmX4_99⟩
theorem cdX4_marks : Cond.code yX4_marks cX4_marks 2 (some .int) ∈ qT := qT_in (by decide +kernel) (by decide +kernel)
theorem lkX4_marks : qLk M_X4_marks 0 := ⟨cdX4_marks, iniX4, by decide +kernel, by decide +kernel⟩
theorem lkmX4_105 : Cond.methodLink RX4 105 yX4_marks ∈ qT := qT_in (by decide +kernel) (by decide +kernel)
theorem kdX4_marks : Cond.instanceMethod yX4_marks ∈ qT := qT_in (by decide +kernel) (by decide +kernel)
theorem slX4_marks : Cond.selects RX4 yX4_marks yX4_marks ∈ qT := qT_in (by decide +kernel) (by decide +kernel)
theorem mX4_105 : qLkV RX4 105 M_X4_marks 0 := ⟨lkX4_marks, kdX4_marks, slX4_marks, Or.inl lkmX4_105⟩
theorem cdX4_letters : Cond.code yX4_letters cX4_letters 2 (some .int) ∈ qT := qT_in (by decide +kernel) (by decide +kernel)
theorem lkX4_letters : qLk M_X4_letters 0 := ⟨cdX4_letters, iniX4, by decide +kernel, by decide +kernel⟩
theorem lkmX4_108 : Cond.methodLink RX4 108 yX4_letters ∈ qT := qT_in (by decide +kernel) (by decide +kernel)
theorem kdX4_letters : Cond.instanceMethod yX4_letters ∈ qT := qT_in (by decide +kernel) (by decide +kernel)
theorem slX4_letters : Cond.selects RX4 yX4_letters yX4_letters ∈ qT := qT_in (by decide +kernel) (by decide +kernel)
theorem mX4_108 : qLkV RX4 108 M_X4_letters 0 := ⟨lkX4_letters, kdX4_letters, slX4_letters, Or.inl lkmX4_108⟩
theorem cdX4_cutterSize : Cond.code yX4_cutterSize cX4_cutterSize 2 (some .int) ∈ qT := qT_in (by decide +kernel) (by decide +kernel)
theorem lkX4_cutterSize : qLk M_X4_cutterSize 0 := ⟨cdX4_cutterSize, iniX4, by decide +kernel, by decide +kernel⟩
theorem lkmX4_111 : Cond.methodLink RX4 111 yX4_cutterSize ∈ qT := qT_in (by decide +kernel) (by decide +kernel)
theorem kdX4_cutterSize : Cond.instanceMethod yX4_cutterSize ∈ qT := qT_in (by decide +kernel) (by decide +kernel)
theorem slX4_cutterSize : Cond.selects RX4 yX4_cutterSize yX4_cutterSize ∈ qT := qT_in (by decide +kernel) (by decide +kernel)
theorem mX4_111 : qLkV RX4 111 M_X4_cutterSize 0 := ⟨lkX4_cutterSize, kdX4_cutterSize, slX4_cutterSize, Or.inl lkmX4_111⟩
theorem cdX4_decimals : Cond.code yX4_decimals cX4_decimals 1 (some .int) ∈ qT := qT_in (by decide +kernel) (by decide +kernel)
theorem lkX4_decimals : qLk M_X4_decimals 1 := ⟨cdX4_decimals, iniX4, by decide +kernel, by decide +kernel⟩
theorem lkmX4_114 : Cond.methodLink RX4 114 yX4_decimals ∈ qT := qT_in (by decide +kernel) (by decide +kernel)
theorem kdX4_decimals : Cond.static yX4_decimals ∈ qT := qT_in (by decide +kernel) (by decide +kernel)
theorem mX4_114 : qLkS RX4 114 M_X4_decimals 1 := ⟨lkX4_decimals, kdX4_decimals, Or.inl lkmX4_114⟩
theorem cdX4_order : Cond.code yX4_order cX4_order 6 (some .int) ∈ qT := qT_in (by decide +kernel) (by decide +kernel)
theorem lkX4_order : qLk M_X4_order 3 := ⟨cdX4_order, iniX4, by decide +kernel, by decide +kernel⟩
theorem lkmX4_121 : Cond.methodLink RX4 121 yX4_order ∈ qT := qT_in (by decide +kernel) (by decide +kernel)
theorem kdX4_order : Cond.instanceMethod yX4_order ∈ qT := qT_in (by decide +kernel) (by decide +kernel)
theorem slX4_order : Cond.selects RX4 yX4_order yX4_order ∈ qT := qT_in (by decide +kernel) (by decide +kernel)
theorem mX4_121 : qLkV RX4 121 M_X4_order 3 := ⟨lkX4_order, kdX4_order, slX4_order, Or.inl lkmX4_121⟩
theorem cdX4_placeOf : Cond.code yX4_placeOf cX4_placeOf 2 (some .int) ∈ qT := qT_in (by decide +kernel) (by decide +kernel)
theorem lkX4_placeOf : qLk M_X4_placeOf 0 := ⟨cdX4_placeOf, iniX4, by decide +kernel, by decide +kernel⟩
theorem lkmX4_125 : Cond.methodLink RX4 125 yX4_placeOf ∈ qT := qT_in (by decide +kernel) (by decide +kernel)
theorem kdX4_placeOf : Cond.instanceMethod yX4_placeOf ∈ qT := qT_in (by decide +kernel) (by decide +kernel)
theorem slX4_placeOf : Cond.selects RX4 yX4_placeOf yX4_placeOf ∈ qT := qT_in (by decide +kernel) (by decide +kernel)
theorem mX4_125 : qLkV RX4 125 M_X4_placeOf 0 := ⟨lkX4_placeOf, kdX4_placeOf, slX4_placeOf, Or.inl lkmX4_125⟩
theorem cdX4_isTaken : Cond.code yX4_isTaken cX4_isTaken 5 (some .boolean) ∈ qT := qT_in (by decide +kernel) (by decide +kernel)
theorem lkX4_isTaken : qLk M_X4_isTaken 0 := ⟨cdX4_isTaken, iniX4, by decide +kernel, by decide +kernel⟩
theorem lkmX4_128 : Cond.methodLink RX4 128 yX4_isTaken ∈ qT := qT_in (by decide +kernel) (by decide +kernel)
theorem kdX4_isTaken : Cond.instanceMethod yX4_isTaken ∈ qT := qT_in (by decide +kernel) (by decide +kernel)
theorem slX4_isTaken : Cond.selects RX4 yX4_isTaken yX4_isTaken ∈ qT := qT_in (by decide +kernel) (by decide +kernel)
theorem mX4_128 : qLkV RX4 128 M_X4_isTaken 0 := ⟨lkX4_isTaken, kdX4_isTaken, slX4_isTaken, Or.inl lkmX4_128⟩
theorem cdL_cell : Cond.code yL_cell cL_cell 2 (some .int) ∈ qT := qT_in (by decide +kernel) (by decide +kernel)
theorem lkL_cell : qLk M_L_cell 2 := ⟨cdL_cell, iniL, by decide +kernel, by decide +kernel⟩
theorem lkmL_15 : Cond.methodLink RL 15 yL_cell ∈ qT := qT_in (by decide +kernel) (by decide +kernel)
theorem kdL_cell : Cond.static yL_cell ∈ qT := qT_in (by decide +kernel) (by decide +kernel)
theorem mL_15 : qLkS RL 15 M_L_cell 2 := ⟨lkL_cell, kdL_cell, Or.inl lkmL_15⟩
theorem cdX3_init : Cond.code yX3_init cX3_init 2 none ∈ qT := qT_in (by decide +kernel) (by decide +kernel)
theorem lkX3_init : qLk M_X3_init 1 := ⟨cdX3_init, iniX3, by decide +kernel, by decide +kernel⟩
theorem lkmL_21 : Cond.methodLink RL 21 yX3_init ∈ qT := qT_in (by decide +kernel) (by decide +kernel)
theorem kdX3_init : Cond.instanceMethod yX3_init ∈ qT := qT_in (by decide +kernel) (by decide +kernel)
theorem mL_21 : qLkI RL 21 M_X3_init 1 := ⟨lkX3_init, rfl, rfl, kdX3_init, Or.inl lkmL_21⟩
theorem cdX4_init : Cond.code yX4_init cX4_init 2 none ∈ qT := qT_in (by decide +kernel) (by decide +kernel)
theorem lkX4_init : qLk M_X4_init 1 := ⟨cdX4_init, iniX4, by decide +kernel, by decide +kernel⟩
theorem lkmL_26 : Cond.methodLink RL 26 yX4_init ∈ qT := qT_in (by decide +kernel) (by decide +kernel)
theorem kdX4_init : Cond.instanceMethod yX4_init ∈ qT := qT_in (by decide +kernel) (by decide +kernel)
theorem mL_26 : qLkI RL 26 M_X4_init 1 := ⟨lkX4_init, rfl, rfl, kdX4_init, Or.inl lkmL_26⟩
theorem cdX3_sign : Cond.code yX3_sign cX3_sign 2 none ∈ qT := qT_in (by decide +kernel) (by decide +kernel)
theorem lkX3_sign : qLk M_X3_sign 1 := ⟨cdX3_sign, iniX3, by decide +kernel, by decide +kernel⟩
theorem lkmL_27 : Cond.methodLink RL 27 yX3_sign ∈ qT := qT_in (by decide +kernel) (by decide +kernel)
theorem kdX3_sign : Cond.instanceMethod yX3_sign ∈ qT := qT_in (by decide +kernel) (by decide +kernel)
theorem slX3_sign : Cond.selects RX3 yX3_sign yX3_sign ∈ qT := qT_in (by decide +kernel) (by decide +kernel)
theorem mL_27 : qLkV RL 27 M_X3_sign 1 := ⟨lkX3_sign, kdX3_sign, slX3_sign, Or.inl lkmL_27⟩
theorem cdX4_sign : Cond.code yX4_sign cX4_sign 2 none ∈ qT := qT_in (by decide +kernel) (by decide +kernel)
theorem lkX4_sign : qLk M_X4_sign 1 := ⟨cdX4_sign, iniX4, by decide +kernel, by decide +kernel⟩
theorem lkmL_30 : Cond.methodLink RL 30 yX4_sign ∈ qT := qT_in (by decide +kernel) (by decide +kernel)
theorem kdX4_sign : Cond.instanceMethod yX4_sign ∈ qT := qT_in (by decide +kernel) (by decide +kernel)
theorem slX4_sign : Cond.selects RX4 yX4_sign yX4_sign ∈ qT := qT_in (by decide +kernel) (by decide +kernel)
theorem mL_30 : qLkV RL 30 M_X4_sign 1 := ⟨lkX4_sign, kdX4_sign, slX4_sign, Or.inl lkmL_30⟩
theorem cdX3_read : Cond.code yX3_read cX3_read 2 (some .int) ∈ qT := qT_in (by decide +kernel) (by decide +kernel)
theorem lkX3_read : qLk M_X3_read 0 := ⟨cdX3_read, iniX3, by decide +kernel, by decide +kernel⟩
theorem lkmL_31 : Cond.methodLink RL 31 yX3_read ∈ qT := qT_in (by decide +kernel) (by decide +kernel)
theorem kdX3_read : Cond.instanceMethod yX3_read ∈ qT := qT_in (by decide +kernel) (by decide +kernel)
theorem slX3_read : Cond.selects RX3 yX3_read yX3_read ∈ qT := qT_in (by decide +kernel) (by decide +kernel)
theorem mL_31 : qLkV RL 31 M_X3_read 0 := ⟨lkX3_read, kdX3_read, slX3_read, Or.inl lkmL_31⟩
theorem cdX4_read : Cond.code yX4_read cX4_read 3 (some .int) ∈ qT := qT_in (by decide +kernel) (by decide +kernel)
theorem lkX4_read : qLk M_X4_read 0 := ⟨cdX4_read, iniX4, by decide +kernel, by decide +kernel⟩
theorem lkmL_35 : Cond.methodLink RL 35 yX4_read ∈ qT := qT_in (by decide +kernel) (by decide +kernel)
theorem kdX4_read : Cond.instanceMethod yX4_read ∈ qT := qT_in (by decide +kernel) (by decide +kernel)
theorem slX4_read : Cond.selects RX4 yX4_read yX4_read ∈ qT := qT_in (by decide +kernel) (by decide +kernel)
theorem mL_35 : qLkV RL 35 M_X4_read 0 := ⟨lkX4_read, kdX4_read, slX4_read, Or.inl lkmL_35⟩
theorem cdX4_part : Cond.code yX4_part cX4_part 2 (some .long) ∈ qT := qT_in (by decide +kernel) (by decide +kernel)
theorem lkX4_part : qLk M_X4_part 1 := ⟨cdX4_part, iniX4, by decide +kernel, by decide +kernel⟩
theorem lkmL_39 : Cond.methodLink RL 39 yX4_part ∈ qT := qT_in (by decide +kernel) (by decide +kernel)
theorem kdX4_part : Cond.instanceMethod yX4_part ∈ qT := qT_in (by decide +kernel) (by decide +kernel)
theorem slX4_part : Cond.selects RX4 yX4_part yX4_part ∈ qT := qT_in (by decide +kernel) (by decide +kernel)
theorem mL_39 : qLkV RL 39 M_X4_part 1 := ⟨lkX4_part, kdX4_part, slX4_part, Or.inl lkmL_39⟩
theorem cdX4_thrown : Cond.code yX4_thrown cX4_thrown 1 (some .int) ∈ qT := qT_in (by decide +kernel) (by decide +kernel)
theorem lkX4_thrown : qLk M_X4_thrown 0 := ⟨cdX4_thrown, iniX4, by decide +kernel, by decide +kernel⟩
theorem lkmL_40 : Cond.methodLink RL 40 yX4_thrown ∈ qT := qT_in (by decide +kernel) (by decide +kernel)
theorem kdX4_thrown : Cond.instanceMethod yX4_thrown ∈ qT := qT_in (by decide +kernel) (by decide +kernel)
theorem slX4_thrown : Cond.selects RX4 yX4_thrown yX4_thrown ∈ qT := qT_in (by decide +kernel) (by decide +kernel)
theorem mL_40 : qLkV RL 40 M_X4_thrown 0 := ⟨lkX4_thrown, kdX4_thrown, slX4_thrown, Or.inl lkmL_40⟩
theorem cdX3_letter : Cond.code yX3_letter cX3_letter 2 (some .int) ∈ qT := qT_in (by decide +kernel) (by decide +kernel)
theorem lkX3_letter : qLk M_X3_letter 1 := ⟨cdX3_letter, iniX3, by decide +kernel, by decide +kernel⟩
theorem lkmL_43 : Cond.methodLink RL 43 yX3_letter ∈ qT := qT_in (by decide +kernel) (by decide +kernel)
theorem kdX3_letter : Cond.instanceMethod yX3_letter ∈ qT := qT_in (by decide +kernel) (by decide +kernel)
theorem slX3_letter : Cond.selects RX3 yX3_letter yX3_letter ∈ qT := qT_in (by decide +kernel) (by decide +kernel)
theorem mL_43 : qLkV RL 43 M_X3_letter 1 := ⟨lkX3_letter, kdX3_letter, slX3_letter, Or.inl lkmL_43⟩
theorem cdX4_letter : Cond.code yX4_letter cX4_letter 3 (some .int) ∈ qT := qT_in (by decide +kernel) (by decide +kernel)
theorem lkX4_letter : qLk M_X4_letter 1 := ⟨cdX4_letter, iniX4, by decide +kernel, by decide +kernel⟩
theorem lkmL_47 : Cond.methodLink RL 47 yX4_letter ∈ qT := qT_in (by decide +kernel) (by decide +kernel)
theorem kdX4_letter : Cond.instanceMethod yX4_letter ∈ qT := qT_in (by decide +kernel) (by decide +kernel)
theorem slX4_letter : Cond.selects RX4 yX4_letter yX4_letter ∈ qT := qT_in (by decide +kernel) (by decide +kernel)
theorem mL_47 : qLkV RL 47 M_X4_letter 1 := ⟨lkX4_letter, kdX4_letter, slX4_letter, Or.inl lkmL_47⟩
theorem cdX3_put : Cond.code yX3_put cX3_put 3 (some .int) ∈ qT := qT_in (by decide +kernel) (by decide +kernel)
theorem lkX3_put : qLk M_X3_put 1 := ⟨cdX3_put, iniX3, by decide +kernel, by decide +kernel⟩
theorem lkmL_48 : Cond.methodLink RL 48 yX3_put ∈ qT := qT_in (by decide +kernel) (by decide +kernel)
theorem kdX3_put : Cond.instanceMethod yX3_put ∈ qT := qT_in (by decide +kernel) (by decide +kernel)
theorem slX3_put : Cond.selects RX3 yX3_put yX3_put ∈ qT := qT_in (by decide +kernel) (by decide +kernel)
theorem mL_48 : qLkV RL 48 M_X3_put 1 := ⟨lkX3_put, kdX3_put, slX3_put, Or.inl lkmL_48⟩
theorem cdX4_put : Cond.code yX4_put cX4_put 5 (some .int) ∈ qT := qT_in (by decide +kernel) (by decide +kernel)
theorem lkX4_put : qLk M_X4_put 1 := ⟨cdX4_put, iniX4, by decide +kernel, by decide +kernel⟩
theorem lkmL_51 : Cond.methodLink RL 51 yX4_put ∈ qT := qT_in (by decide +kernel) (by decide +kernel)
theorem kdX4_put : Cond.instanceMethod yX4_put ∈ qT := qT_in (by decide +kernel) (by decide +kernel)
theorem slX4_put : Cond.selects RX4 yX4_put yX4_put ∈ qT := qT_in (by decide +kernel) (by decide +kernel)
theorem mL_51 : qLkV RL 51 M_X4_put 1 := ⟨lkX4_put, kdX4_put, slX4_put, Or.inl lkmL_51⟩
theorem cdX3_shelf : Cond.code yX3_shelf cX3_shelf 2 (some .int) ∈ qT := qT_in (by decide +kernel) (by decide +kernel)
theorem lkX3_shelf : qLk M_X3_shelf 1 := ⟨cdX3_shelf, iniX3, by decide +kernel, by decide +kernel⟩
theorem lkmL_52 : Cond.methodLink RL 52 yX3_shelf ∈ qT := qT_in (by decide +kernel) (by decide +kernel)
theorem kdX3_shelf : Cond.instanceMethod yX3_shelf ∈ qT := qT_in (by decide +kernel) (by decide +kernel)
theorem slX3_shelf : Cond.selects RX3 yX3_shelf yX3_shelf ∈ qT := qT_in (by decide +kernel) (by decide +kernel)
theorem mL_52 : qLkV RL 52 M_X3_shelf 1 := ⟨lkX3_shelf, kdX3_shelf, slX3_shelf, Or.inl lkmL_52⟩
theorem cdX4_shelf : Cond.code yX4_shelf cX4_shelf 2 (some .int) ∈ qT := qT_in (by decide +kernel) (by decide +kernel)
theorem lkX4_shelf : qLk M_X4_shelf 1 := ⟨cdX4_shelf, iniX4, by decide +kernel, by decide +kernel⟩
theorem lkmL_55 : Cond.methodLink RL 55 yX4_shelf ∈ qT := qT_in (by decide +kernel) (by decide +kernel)
theorem kdX4_shelf : Cond.instanceMethod yX4_shelf ∈ qT := qT_in (by decide +kernel) (by decide +kernel)
theorem slX4_shelf : Cond.selects RX4 yX4_shelf yX4_shelf ∈ qT := qT_in (by decide +kernel) (by decide +kernel)
theorem mL_55 : qLkV RL 55 M_X4_shelf 1 := ⟨lkX4_shelf, kdX4_shelf, slX4_shelf, Or.inl lkmL_55⟩
theorem cdX3_take : Cond.code yX3_take cX3_take 3 (some .int) ∈ qT := qT_in (by decide +kernel) (by decide +kernel)
theorem lkX3_take : qLk M_X3_take 1 := ⟨cdX3_take, iniX3, by decide +kernel, by decide +kernel⟩
theorem lkmL_56 : Cond.methodLink RL 56 yX3_take ∈ qT := qT_in (by decide +kernel) (by decide +kernel)
theorem kdX3_take : Cond.instanceMethod yX3_take ∈ qT := qT_in (by decide +kernel) (by decide +kernel)
theorem slX3_take : Cond.selects RX3 yX3_take yX3_take ∈ qT := qT_in (by decide +kernel) (by decide +kernel)
theorem mL_56 : qLkV RL 56 M_X3_take 1 := ⟨lkX3_take, kdX3_take, slX3_take, Or.inl lkmL_56⟩
theorem cdX4_take : Cond.code yX4_take cX4_take 5 (some .int) ∈ qT := qT_in (by decide +kernel) (by decide +kernel)
theorem lkX4_take : qLk M_X4_take 1 := ⟨cdX4_take, iniX4, by decide +kernel, by decide +kernel⟩
theorem lkmL_59 : Cond.methodLink RL 59 yX4_take ∈ qT := qT_in (by decide +kernel) (by decide +kernel)
theorem kdX4_take : Cond.instanceMethod yX4_take ∈ qT := qT_in (by decide +kernel) (by decide +kernel)
theorem slX4_take : Cond.selects RX4 yX4_take yX4_take ∈ qT := qT_in (by decide +kernel) (by decide +kernel)
theorem mL_59 : qLkV RL 59 M_X4_take 1 := ⟨lkX4_take, kdX4_take, slX4_take, Or.inl lkmL_59⟩
theorem cdX3_compare : Cond.code yX3_compare cX3_compare 5 (some .int) ∈ qT := qT_in (by decide +kernel) (by decide +kernel)
theorem lkX3_compare : qLk M_X3_compare 2 := ⟨cdX3_compare, iniX3, by decide +kernel, by decide +kernel⟩
theorem lkmL_60 : Cond.methodLink RL 60 yX3_compare ∈ qT := qT_in (by decide +kernel) (by decide +kernel)
theorem kdX3_compare : Cond.instanceMethod yX3_compare ∈ qT := qT_in (by decide +kernel) (by decide +kernel)
theorem slX3_compare : Cond.selects RX3 yX3_compare yX3_compare ∈ qT := qT_in (by decide +kernel) (by decide +kernel)
theorem mL_60 : qLkV RL 60 M_X3_compare 2 := ⟨lkX3_compare, kdX3_compare, slX3_compare, Or.inl lkmL_60⟩
theorem cdX4_compare : Cond.code yX4_compare cX4_compare 3 (some .int) ∈ qT := qT_in (by decide +kernel) (by decide +kernel)
theorem lkX4_compare : qLk M_X4_compare 2 := ⟨cdX4_compare, iniX4, by decide +kernel, by decide +kernel⟩
theorem lkmL_64 : Cond.methodLink RL 64 yX4_compare ∈ qT := qT_in (by decide +kernel) (by decide +kernel)
theorem kdX4_compare : Cond.instanceMethod yX4_compare ∈ qT := qT_in (by decide +kernel) (by decide +kernel)
theorem slX4_compare : Cond.selects RX4 yX4_compare yX4_compare ∈ qT := qT_in (by decide +kernel) (by decide +kernel)
theorem mL_64 : qLkV RL 64 M_X4_compare 2 := ⟨lkX4_compare, kdX4_compare, slX4_compare, Or.inl lkmL_64⟩
theorem cdX3_before : Cond.code yX3_before cX3_before 1 (some .int) ∈ qT := qT_in (by decide +kernel) (by decide +kernel)
theorem lkX3_before : qLk M_X3_before 0 := ⟨cdX3_before, iniX3, by decide +kernel, by decide +kernel⟩
theorem lkmL_65 : Cond.methodLink RL 65 yX3_before ∈ qT := qT_in (by decide +kernel) (by decide +kernel)
theorem kdX3_before : Cond.instanceMethod yX3_before ∈ qT := qT_in (by decide +kernel) (by decide +kernel)
theorem slX3_before : Cond.selects RX3 yX3_before yX3_before ∈ qT := qT_in (by decide +kernel) (by decide +kernel)
theorem mL_65 : qLkV RL 65 M_X3_before 0 := ⟨lkX3_before, kdX3_before, slX3_before, Or.inl lkmL_65⟩
theorem cdX4_before : Cond.code yX4_before cX4_before 1 (some .int) ∈ qT := qT_in (by decide +kernel) (by decide +kernel)
theorem lkX4_before : qLk M_X4_before 0 := ⟨cdX4_before, iniX4, by decide +kernel, by decide +kernel⟩
theorem lkmL_68 : Cond.methodLink RL 68 yX4_before ∈ qT := qT_in (by decide +kernel) (by decide +kernel)
theorem kdX4_before : Cond.instanceMethod yX4_before ∈ qT := qT_in (by decide +kernel) (by decide +kernel)
theorem slX4_before : Cond.selects RX4 yX4_before yX4_before ∈ qT := qT_in (by decide +kernel) (by decide +kernel)
theorem mL_68 : qLkV RL 68 M_X4_before 0 := ⟨lkX4_before, kdX4_before, slX4_before, Or.inl lkmL_68⟩
theorem cdX3_free : Cond.code yX3_free cX3_free 3 (some .int) ∈ qT := qT_in (by decide +kernel) (by decide +kernel)
theorem lkX3_free : qLk M_X3_free 0 := ⟨cdX3_free, iniX3, by decide +kernel, by decide +kernel⟩
theorem lkmL_69 : Cond.methodLink RL 69 yX3_free ∈ qT := qT_in (by decide +kernel) (by decide +kernel)
theorem kdX3_free : Cond.instanceMethod yX3_free ∈ qT := qT_in (by decide +kernel) (by decide +kernel)
theorem slX3_free : Cond.selects RX3 yX3_free yX3_free ∈ qT := qT_in (by decide +kernel) (by decide +kernel)
theorem mL_69 : qLkV RL 69 M_X3_free 0 := ⟨lkX3_free, kdX3_free, slX3_free, Or.inl lkmL_69⟩
theorem cdX4_free : Cond.code yX4_free cX4_free 8 (some .int) ∈ qT := qT_in (by decide +kernel) (by decide +kernel)
theorem lkX4_free : qLk M_X4_free 0 := ⟨cdX4_free, iniX4, by decide +kernel, by decide +kernel⟩
theorem lkmL_72 : Cond.methodLink RL 72 yX4_free ∈ qT := qT_in (by decide +kernel) (by decide +kernel)
theorem kdX4_free : Cond.instanceMethod yX4_free ∈ qT := qT_in (by decide +kernel) (by decide +kernel)
theorem slX4_free : Cond.selects RX4 yX4_free yX4_free ∈ qT := qT_in (by decide +kernel) (by decide +kernel)
theorem mL_72 : qLkV RL 72 M_X4_free 0 := ⟨lkX4_free, kdX4_free, slX4_free, Or.inl lkmL_72⟩
theorem cdX3_spine : Cond.code yX3_spine cX3_spine 2 (some .int) ∈ qT := qT_in (by decide +kernel) (by decide +kernel)
theorem lkX3_spine : qLk M_X3_spine 1 := ⟨cdX3_spine, iniX3, by decide +kernel, by decide +kernel⟩
theorem lkmL_73 : Cond.methodLink RL 73 yX3_spine ∈ qT := qT_in (by decide +kernel) (by decide +kernel)
theorem kdX3_spine : Cond.instanceMethod yX3_spine ∈ qT := qT_in (by decide +kernel) (by decide +kernel)
theorem slX3_spine : Cond.selects RX3 yX3_spine yX3_spine ∈ qT := qT_in (by decide +kernel) (by decide +kernel)
theorem mL_73 : qLkV RL 73 M_X3_spine 1 := ⟨lkX3_spine, kdX3_spine, slX3_spine, Or.inl lkmL_73⟩
theorem cdX4_spine : Cond.code yX4_spine cX4_spine 3 (some .int) ∈ qT := qT_in (by decide +kernel) (by decide +kernel)
theorem lkX4_spine : qLk M_X4_spine 1 := ⟨cdX4_spine, iniX4, by decide +kernel, by decide +kernel⟩
theorem lkmL_76 : Cond.methodLink RL 76 yX4_spine ∈ qT := qT_in (by decide +kernel) (by decide +kernel)
theorem kdX4_spine : Cond.instanceMethod yX4_spine ∈ qT := qT_in (by decide +kernel) (by decide +kernel)
theorem slX4_spine : Cond.selects RX4 yX4_spine yX4_spine ∈ qT := qT_in (by decide +kernel) (by decide +kernel)
theorem mL_76 : qLkV RL 76 M_X4_spine 1 := ⟨lkX4_spine, kdX4_spine, slX4_spine, Or.inl lkmL_76⟩
theorem cdX3_pass : Cond.code yX3_pass cX3_pass 4 (some .int) ∈ qT := qT_in (by decide +kernel) (by decide +kernel)
theorem lkX3_pass : qLk M_X3_pass 1 := ⟨cdX3_pass, iniX3, by decide +kernel, by decide +kernel⟩
theorem lkmL_77 : Cond.methodLink RL 77 yX3_pass ∈ qT := qT_in (by decide +kernel) (by decide +kernel)
theorem kdX3_pass : Cond.instanceMethod yX3_pass ∈ qT := qT_in (by decide +kernel) (by decide +kernel)
theorem slX3_pass : Cond.selects RX3 yX3_pass yX3_pass ∈ qT := qT_in (by decide +kernel) (by decide +kernel)
theorem mL_77 : qLkV RL 77 M_X3_pass 1 := ⟨lkX3_pass, kdX3_pass, slX3_pass, Or.inl lkmL_77⟩
theorem cdX4_pass : Cond.code yX4_pass cX4_pass 5 (some .int) ∈ qT := qT_in (by decide +kernel) (by decide +kernel)
theorem lkX4_pass : qLk M_X4_pass 1 := ⟨cdX4_pass, iniX4, by decide +kernel, by decide +kernel⟩
theorem lkmL_80 : Cond.methodLink RL 80 yX4_pass ∈ qT := qT_in (by decide +kernel) (by decide +kernel)
theorem kdX4_pass : Cond.instanceMethod yX4_pass ∈ qT := qT_in (by decide +kernel) (by decide +kernel)
theorem slX4_pass : Cond.selects RX4 yX4_pass yX4_pass ∈ qT := qT_in (by decide +kernel) (by decide +kernel)
theorem mL_80 : qLkV RL 80 M_X4_pass 1 := ⟨lkX4_pass, kdX4_pass, slX4_pass, Or.inl lkmL_80⟩
theorem oiX0_3 : Cond.methodLink RX0 3 objectInit ∈ qT := qT_in (by decide +kernel) (by decide +kernel)
theorem oiX1_3 : Cond.methodLink RX1 3 objectInit ∈ qT := qT_in (by decide +kernel) (by decide +kernel)
theorem oiX2_3 : Cond.methodLink RX2 3 objectInit ∈ qT := qT_in (by decide +kernel) (by decide +kernel)
theorem oiX3_1 : Cond.methodLink RX3 1 objectInit ∈ qT := qT_in (by decide +kernel) (by decide +kernel)
theorem oiX4_1 : Cond.methodLink RX4 1 objectInit ∈ qT := qT_in (by decide +kernel) (by decide +kernel)
theorem oi_in : Cond.instanceMethod objectInit ∈ qT := qT_in (by decide +kernel) (by decide +kernel)
theorem oi_cd : Cond.code objectInit ⟨#[0xb1]⟩ 1 none ∈ qT := qT_in (by decide +kernel) (by decide +kernel)
theorem clX1_26 : Cond.classLink RX1 26 RX0 ∈ qT := qT_in (by decide +kernel) (by decide +kernel)
theorem isX0 : Cond.instantiable RX0 13 ∈ qT := qT_in (by decide +kernel) (by decide +kernel)
theorem nX1_26 : qNw RX1 26 1 13 := ⟨_, clsX0, rfl, clX1_26, isX0, iniX0⟩
theorem klX1_132 : Cond.constantLong RX1 132 (10) ∈ qT := qT_in (by decide +kernel) (by decide +kernel)
theorem clX2_9 : Cond.classLink RX2 9 RX0 ∈ qT := qT_in (by decide +kernel) (by decide +kernel)
theorem clX3_7 : Cond.classLink RX3 7 RX1 ∈ qT := qT_in (by decide +kernel) (by decide +kernel)
theorem isX1 : Cond.instantiable RX1 4 ∈ qT := qT_in (by decide +kernel) (by decide +kernel)
theorem nX3_7 : qNw RX3 7 2 4 := ⟨_, clsX1, rfl, clX3_7, isX1, iniX1⟩
theorem clX3_18 : Cond.classLink RX3 18 RX2 ∈ qT := qT_in (by decide +kernel) (by decide +kernel)
theorem isX2 : Cond.instantiable RX2 3 ∈ qT := qT_in (by decide +kernel) (by decide +kernel)
theorem nX3_18 : qNw RX3 18 3 3 := ⟨_, clsX2, rfl, clX3_18, isX2, iniX2⟩
theorem klX3_134 : Cond.constantLong RX3 134 (10) ∈ qT := qT_in (by decide +kernel) (by decide +kernel)
theorem klX4_95 : Cond.constantLong RX4 95 (10) ∈ qT := qT_in (by decide +kernel) (by decide +kernel)
theorem klX4_97 : Cond.constantLong RX4 97 (1000000000) ∈ qT := qT_in (by decide +kernel) (by decide +kernel)
theorem klX4_103 : Cond.constantLong RX4 103 (10000) ∈ qT := qT_in (by decide +kernel) (by decide +kernel)
theorem clL_8 : Cond.classLink RL 8 RX3 ∈ qT := qT_in (by decide +kernel) (by decide +kernel)
theorem isX3 : Cond.instantiable RX3 4 ∈ qT := qT_in (by decide +kernel) (by decide +kernel)
theorem nL_8 : qNw RL 8 4 4 := ⟨_, clsX3, rfl, clL_8, isX3, iniX3⟩
theorem clL_24 : Cond.classLink RL 24 RX4 ∈ qT := qT_in (by decide +kernel) (by decide +kernel)
theorem isX4 : Cond.instantiable RX4 14 ∈ qT := qT_in (by decide +kernel) (by decide +kernel)
theorem nL_24 : qNw RL 24 5 14 := ⟨_, clsX4, rfl, clL_24, isX4, iniX4⟩
theorem acI : Cond.arrayClass .int ∈ qT := qT_in (by decide +kernel) (by decide +kernel)
theorem acB : Cond.arrayClass .byte ∈ qT := qT_in (by decide +kernel) (by decide +kernel)
theorem acL : Cond.arrayClass .long ∈ qT := qT_in (by decide +kernel) (by decide +kernel)
theorem aoC : Cond.arrayOver (.object RX0) ∈ qN := qN_in (by decide +kernel) rfl
