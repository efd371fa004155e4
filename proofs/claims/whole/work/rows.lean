section
/-- a private method of a class that the tables say can be made, by its rows of tables_1 -/
def lw_okq (q : MethodName × Nat) : Prop := (q.1.cls ≠ "java/lang/invoke/MethodHandle" ∧ q.1.cls ≠ "java/lang/invoke/VarHandle") ∧ Cond.instantiable q.1.cls q.2 ∈ tables_1 ∧ Cond.privateMethod q.1 ∈ tables_1 ∧ Cond.instanceMethod q.1 ∈ tables_1
theorem lw_p0 : lw_okq (⟨"CallNumbers$Reader", "readClass", "(LCallNumbers$CallNumber;)Z"⟩, 4) := ⟨⟨by decide +kernel, by decide +kernel⟩, List.mem_of_getElem? (i := 20) (by decide +kernel), List.mem_of_getElem? (i := 151) (by decide +kernel), List.mem_of_getElem? (i := 152) (by decide +kernel)⟩
theorem lw_p1 : lw_okq (⟨"CallNumbers$Reader", "readClassLetters", "(LCallNumbers$CallNumber;)Z"⟩, 4) := ⟨⟨by decide +kernel, by decide +kernel⟩, List.mem_of_getElem? (i := 20) (by decide +kernel), List.mem_of_getElem? (i := 155) (by decide +kernel), List.mem_of_getElem? (i := 156) (by decide +kernel)⟩
theorem lw_p2 : lw_okq (⟨"CallNumbers$Reader", "signAt", "(I)I"⟩, 4) := ⟨⟨by decide +kernel, by decide +kernel⟩, List.mem_of_getElem? (i := 20) (by decide +kernel), List.mem_of_getElem? (i := 159) (by decide +kernel), List.mem_of_getElem? (i := 160) (by decide +kernel)⟩
theorem lw_p3 : lw_okq (⟨"CallNumbers$Reader", "readNumber", "(II)Z"⟩, 4) := ⟨⟨by decide +kernel, by decide +kernel⟩, List.mem_of_getElem? (i := 20) (by decide +kernel), List.mem_of_getElem? (i := 170) (by decide +kernel), List.mem_of_getElem? (i := 171) (by decide +kernel)⟩
theorem lw_p4 : lw_okq (⟨"CallNumbers$Reader", "readDigits", "(II)Z"⟩, 4) := ⟨⟨by decide +kernel, by decide +kernel⟩, List.mem_of_getElem? (i := 20) (by decide +kernel), List.mem_of_getElem? (i := 174) (by decide +kernel), List.mem_of_getElem? (i := 175) (by decide +kernel)⟩
theorem lw_p5 : lw_okq (⟨"CallNumbers$Reader", "readFraction", "(I)Z"⟩, 4) := ⟨⟨by decide +kernel, by decide +kernel⟩, List.mem_of_getElem? (i := 20) (by decide +kernel), List.mem_of_getElem? (i := 181) (by decide +kernel), List.mem_of_getElem? (i := 182) (by decide +kernel)⟩
theorem lw_p6 : lw_okq (⟨"CallNumbers$Reader", "readDecimals", "(I)Z"⟩, 4) := ⟨⟨by decide +kernel, by decide +kernel⟩, List.mem_of_getElem? (i := 20) (by decide +kernel), List.mem_of_getElem? (i := 185) (by decide +kernel), List.mem_of_getElem? (i := 186) (by decide +kernel)⟩
theorem lw_p7 : lw_okq (⟨"CallNumbers$Reader", "filledUp", "(III)J"⟩, 4) := ⟨⟨by decide +kernel, by decide +kernel⟩, List.mem_of_getElem? (i := 20) (by decide +kernel), List.mem_of_getElem? (i := 189) (by decide +kernel), List.mem_of_getElem? (i := 190) (by decide +kernel)⟩
theorem lw_p8 : lw_okq (⟨"CallNumbers$Reader", "readSpace", "()Z"⟩, 4) := ⟨⟨by decide +kernel, by decide +kernel⟩, List.mem_of_getElem? (i := 20) (by decide +kernel), List.mem_of_getElem? (i := 198) (by decide +kernel), List.mem_of_getElem? (i := 199) (by decide +kernel)⟩
theorem lw_p9 : lw_okq (⟨"CallNumbers$Reader", "readCutter", "(LCallNumbers$CallNumber;)Z"⟩, 4) := ⟨⟨by decide +kernel, by decide +kernel⟩, List.mem_of_getElem? (i := 20) (by decide +kernel), List.mem_of_getElem? (i := 202) (by decide +kernel), List.mem_of_getElem? (i := 203) (by decide +kernel)⟩
theorem lw_p10 : lw_okq (⟨"CallNumbers$Reader", "readRest", "(LCallNumbers$CallNumber;)Z"⟩, 4) := ⟨⟨by decide +kernel, by decide +kernel⟩, List.mem_of_getElem? (i := 20) (by decide +kernel), List.mem_of_getElem? (i := 206) (by decide +kernel), List.mem_of_getElem? (i := 207) (by decide +kernel)⟩
theorem lw_p11 : lw_okq (⟨"CallNumbers$Reader", "partThatBegins", "()I"⟩, 4) := ⟨⟨by decide +kernel, by decide +kernel⟩, List.mem_of_getElem? (i := 20) (by decide +kernel), List.mem_of_getElem? (i := 210) (by decide +kernel), List.mem_of_getElem? (i := 211) (by decide +kernel)⟩
theorem lw_p12 : lw_okq (⟨"CallNumbers$Reader", "readYear", "(LCallNumbers$CallNumber;)Z"⟩, 4) := ⟨⟨by decide +kernel, by decide +kernel⟩, List.mem_of_getElem? (i := 20) (by decide +kernel), List.mem_of_getElem? (i := 217) (by decide +kernel), List.mem_of_getElem? (i := 218) (by decide +kernel)⟩
theorem lw_p13 : lw_okq (⟨"CallNumbers$Reader", "readVolume", "(LCallNumbers$CallNumber;)Z"⟩, 4) := ⟨⟨by decide +kernel, by decide +kernel⟩, List.mem_of_getElem? (i := 20) (by decide +kernel), List.mem_of_getElem? (i := 221) (by decide +kernel), List.mem_of_getElem? (i := 222) (by decide +kernel)⟩
theorem lw_p14 : lw_okq (⟨"CallNumbers$Reader", "readMark", "(LCallNumbers$CallNumber;)Z"⟩, 4) := ⟨⟨by decide +kernel, by decide +kernel⟩, List.mem_of_getElem? (i := 20) (by decide +kernel), List.mem_of_getElem? (i := 225) (by decide +kernel), List.mem_of_getElem? (i := 226) (by decide +kernel)⟩
theorem lw_p15 : lw_okq (⟨"CallNumbers$Shelf", "has", "(I)Z"⟩, 3) := ⟨⟨by decide +kernel, by decide +kernel⟩, List.mem_of_getElem? (i := 40) (by decide +kernel), List.mem_of_getElem? (i := 261) (by decide +kernel), List.mem_of_getElem? (i := 262) (by decide +kernel)⟩
def lw_privs_1 : List (MethodName × Nat) := [(⟨"CallNumbers$Reader", "readClass", "(LCallNumbers$CallNumber;)Z"⟩, 4), (⟨"CallNumbers$Reader", "readClassLetters", "(LCallNumbers$CallNumber;)Z"⟩, 4), (⟨"CallNumbers$Reader", "signAt", "(I)I"⟩, 4), (⟨"CallNumbers$Reader", "readNumber", "(II)Z"⟩, 4), (⟨"CallNumbers$Reader", "readDigits", "(II)Z"⟩, 4), (⟨"CallNumbers$Reader", "readFraction", "(I)Z"⟩, 4), (⟨"CallNumbers$Reader", "readDecimals", "(I)Z"⟩, 4), (⟨"CallNumbers$Reader", "filledUp", "(III)J"⟩, 4), (⟨"CallNumbers$Reader", "readSpace", "()Z"⟩, 4), (⟨"CallNumbers$Reader", "readCutter", "(LCallNumbers$CallNumber;)Z"⟩, 4), (⟨"CallNumbers$Reader", "readRest", "(LCallNumbers$CallNumber;)Z"⟩, 4), (⟨"CallNumbers$Reader", "partThatBegins", "()I"⟩, 4), (⟨"CallNumbers$Reader", "readYear", "(LCallNumbers$CallNumber;)Z"⟩, 4), (⟨"CallNumbers$Reader", "readVolume", "(LCallNumbers$CallNumber;)Z"⟩, 4), (⟨"CallNumbers$Reader", "readMark", "(LCallNumbers$CallNumber;)Z"⟩, 4), (⟨"CallNumbers$Shelf", "has", "(I)Z"⟩, 3)]
theorem lw_r1 : ∀ q ∈ lw_privs_1, lw_okq q := List.forall_mem_cons.mpr ⟨lw_p0, List.forall_mem_cons.mpr ⟨lw_p1, List.forall_mem_cons.mpr ⟨lw_p2, List.forall_mem_cons.mpr ⟨lw_p3, List.forall_mem_cons.mpr ⟨lw_p4, List.forall_mem_cons.mpr ⟨lw_p5, List.forall_mem_cons.mpr ⟨lw_p6, List.forall_mem_cons.mpr ⟨lw_p7, List.forall_mem_cons.mpr ⟨lw_p8, List.forall_mem_cons.mpr ⟨lw_p9, List.forall_mem_cons.mpr ⟨lw_p10, List.forall_mem_cons.mpr ⟨lw_p11, List.forall_mem_cons.mpr ⟨lw_p12, List.forall_mem_cons.mpr ⟨lw_p13, List.forall_mem_cons.mpr ⟨lw_p14, List.forall_mem_cons.mpr ⟨lw_p15, fun _ h => absurd h List.not_mem_nil⟩⟩⟩⟩⟩⟩⟩⟩⟩⟩⟩⟩⟩⟩⟩⟩
theorem lw_p16 : lw_okq (⟨"CallNumbers", "freeWithMore", "(LCallNumbers$CallNumber;I)I"⟩, 4) := ⟨⟨by decide +kernel, by decide +kernel⟩, List.mem_of_getElem? (i := 12) (by decide +kernel), List.mem_of_getElem? (i := 309) (by decide +kernel), List.mem_of_getElem? (i := 310) (by decide +kernel)⟩
theorem lw_p17 : lw_okq (⟨"java/lang/Throwable", "fillInStackTrace", "(I)Ljava/lang/Throwable;"⟩, 6) := ⟨⟨by decide +kernel, by decide +kernel⟩, List.mem_of_getElem? (i := 394) (by decide +kernel), List.mem_of_getElem? (i := 392) (by decide +kernel), List.mem_of_getElem? (i := 393) (by decide +kernel)⟩
theorem lw_p18 : lw_okq (⟨"CallNumbersModel", "reads", "()Z"⟩, 14) := ⟨⟨by decide +kernel, by decide +kernel⟩, List.mem_of_getElem? (i := 427) (by decide +kernel), List.mem_of_getElem? (i := 488) (by decide +kernel), List.mem_of_getElem? (i := 489) (by decide +kernel)⟩
theorem lw_p19 : lw_okq (⟨"CallNumbersModel", "readClass", "()Z"⟩, 14) := ⟨⟨by decide +kernel, by decide +kernel⟩, List.mem_of_getElem? (i := 427) (by decide +kernel), List.mem_of_getElem? (i := 492) (by decide +kernel), List.mem_of_getElem? (i := 493) (by decide +kernel)⟩
theorem lw_p20 : lw_okq (⟨"CallNumbersModel", "look", "()I"⟩, 14) := ⟨⟨by decide +kernel, by decide +kernel⟩, List.mem_of_getElem? (i := 427) (by decide +kernel), List.mem_of_getElem? (i := 496) (by decide +kernel), List.mem_of_getElem? (i := 497) (by decide +kernel)⟩
theorem lw_p21 : lw_okq (⟨"CallNumbersModel", "bad", "(I)Z"⟩, 14) := ⟨⟨by decide +kernel, by decide +kernel⟩, List.mem_of_getElem? (i := 427) (by decide +kernel), List.mem_of_getElem? (i := 503) (by decide +kernel), List.mem_of_getElem? (i := 504) (by decide +kernel)⟩
theorem lw_p22 : lw_okq (⟨"CallNumbersModel", "number", "(II)Z"⟩, 14) := ⟨⟨by decide +kernel, by decide +kernel⟩, List.mem_of_getElem? (i := 427) (by decide +kernel), List.mem_of_getElem? (i := 510) (by decide +kernel), List.mem_of_getElem? (i := 511) (by decide +kernel)⟩
theorem lw_p23 : lw_okq (⟨"CallNumbersModel", "digits", "(II)Z"⟩, 14) := ⟨⟨by decide +kernel, by decide +kernel⟩, List.mem_of_getElem? (i := 427) (by decide +kernel), List.mem_of_getElem? (i := 514) (by decide +kernel), List.mem_of_getElem? (i := 515) (by decide +kernel)⟩
theorem lw_p24 : lw_okq (⟨"CallNumbersModel", "space", "()Z"⟩, 14) := ⟨⟨by decide +kernel, by decide +kernel⟩, List.mem_of_getElem? (i := 427) (by decide +kernel), List.mem_of_getElem? (i := 518) (by decide +kernel), List.mem_of_getElem? (i := 519) (by decide +kernel)⟩
theorem lw_p25 : lw_okq (⟨"CallNumbersModel", "readCutter", "()Z"⟩, 14) := ⟨⟨by decide +kernel, by decide +kernel⟩, List.mem_of_getElem? (i := 427) (by decide +kernel), List.mem_of_getElem? (i := 522) (by decide +kernel), List.mem_of_getElem? (i := 523) (by decide +kernel)⟩
theorem lw_p26 : lw_okq (⟨"CallNumbersModel", "readYear", "()Z"⟩, 14) := ⟨⟨by decide +kernel, by decide +kernel⟩, List.mem_of_getElem? (i := 427) (by decide +kernel), List.mem_of_getElem? (i := 529) (by decide +kernel), List.mem_of_getElem? (i := 530) (by decide +kernel)⟩
theorem lw_p27 : lw_okq (⟨"CallNumbersModel", "readVolume", "()Z"⟩, 14) := ⟨⟨by decide +kernel, by decide +kernel⟩, List.mem_of_getElem? (i := 427) (by decide +kernel), List.mem_of_getElem? (i := 533) (by decide +kernel), List.mem_of_getElem? (i := 534) (by decide +kernel)⟩
theorem lw_p28 : lw_okq (⟨"CallNumbersModel", "readMark", "()Z"⟩, 14) := ⟨⟨by decide +kernel, by decide +kernel⟩, List.mem_of_getElem? (i := 427) (by decide +kernel), List.mem_of_getElem? (i := 537) (by decide +kernel), List.mem_of_getElem? (i := 538) (by decide +kernel)⟩
theorem lw_p29 : lw_okq (⟨"CallNumbersModel", "marks", "()I"⟩, 14) := ⟨⟨by decide +kernel, by decide +kernel⟩, List.mem_of_getElem? (i := 427) (by decide +kernel), List.mem_of_getElem? (i := 551) (by decide +kernel), List.mem_of_getElem? (i := 552) (by decide +kernel)⟩
theorem lw_p30 : lw_okq (⟨"CallNumbersModel", "letters", "()I"⟩, 14) := ⟨⟨by decide +kernel, by decide +kernel⟩, List.mem_of_getElem? (i := 427) (by decide +kernel), List.mem_of_getElem? (i := 559) (by decide +kernel), List.mem_of_getElem? (i := 560) (by decide +kernel)⟩
theorem lw_p31 : lw_okq (⟨"CallNumbersModel", "cutterSize", "()I"⟩, 14) := ⟨⟨by decide +kernel, by decide +kernel⟩, List.mem_of_getElem? (i := 427) (by decide +kernel), List.mem_of_getElem? (i := 567) (by decide +kernel), List.mem_of_getElem? (i := 568) (by decide +kernel)⟩
def lw_privs_2 : List (MethodName × Nat) := [(⟨"CallNumbers", "freeWithMore", "(LCallNumbers$CallNumber;I)I"⟩, 4), (⟨"java/lang/Throwable", "fillInStackTrace", "(I)Ljava/lang/Throwable;"⟩, 6), (⟨"CallNumbersModel", "reads", "()Z"⟩, 14), (⟨"CallNumbersModel", "readClass", "()Z"⟩, 14), (⟨"CallNumbersModel", "look", "()I"⟩, 14), (⟨"CallNumbersModel", "bad", "(I)Z"⟩, 14), (⟨"CallNumbersModel", "number", "(II)Z"⟩, 14), (⟨"CallNumbersModel", "digits", "(II)Z"⟩, 14), (⟨"CallNumbersModel", "space", "()Z"⟩, 14), (⟨"CallNumbersModel", "readCutter", "()Z"⟩, 14), (⟨"CallNumbersModel", "readYear", "()Z"⟩, 14), (⟨"CallNumbersModel", "readVolume", "()Z"⟩, 14), (⟨"CallNumbersModel", "readMark", "()Z"⟩, 14), (⟨"CallNumbersModel", "marks", "()I"⟩, 14), (⟨"CallNumbersModel", "letters", "()I"⟩, 14), (⟨"CallNumbersModel", "cutterSize", "()I"⟩, 14)]
theorem lw_r2 : ∀ q ∈ lw_privs_2, lw_okq q := List.forall_mem_cons.mpr ⟨lw_p16, List.forall_mem_cons.mpr ⟨lw_p17, List.forall_mem_cons.mpr ⟨lw_p18, List.forall_mem_cons.mpr ⟨lw_p19, List.forall_mem_cons.mpr ⟨lw_p20, List.forall_mem_cons.mpr ⟨lw_p21, List.forall_mem_cons.mpr ⟨lw_p22, List.forall_mem_cons.mpr ⟨lw_p23, List.forall_mem_cons.mpr ⟨lw_p24, List.forall_mem_cons.mpr ⟨lw_p25, List.forall_mem_cons.mpr ⟨lw_p26, List.forall_mem_cons.mpr ⟨lw_p27, List.forall_mem_cons.mpr ⟨lw_p28, List.forall_mem_cons.mpr ⟨lw_p29, List.forall_mem_cons.mpr ⟨lw_p30, List.forall_mem_cons.mpr ⟨lw_p31, fun _ h => absurd h List.not_mem_nil⟩⟩⟩⟩⟩⟩⟩⟩⟩⟩⟩⟩⟩⟩⟩⟩
theorem lw_p32 : lw_okq (⟨"CallNumbersModel", "placeOf", "()I"⟩, 14) := ⟨⟨by decide +kernel, by decide +kernel⟩, List.mem_of_getElem? (i := 427) (by decide +kernel), List.mem_of_getElem? (i := 578) (by decide +kernel), List.mem_of_getElem? (i := 579) (by decide +kernel)⟩
theorem lw_p33 : lw_okq (⟨"CallNumbersModel", "order", "([III)I"⟩, 14) := ⟨⟨by decide +kernel, by decide +kernel⟩, List.mem_of_getElem? (i := 427) (by decide +kernel), List.mem_of_getElem? (i := 582) (by decide +kernel), List.mem_of_getElem? (i := 583) (by decide +kernel)⟩
theorem lw_p34 : lw_okq (⟨"CallNumbersModel", "isTaken", "()Z"⟩, 14) := ⟨⟨by decide +kernel, by decide +kernel⟩, List.mem_of_getElem? (i := 427) (by decide +kernel), List.mem_of_getElem? (i := 606) (by decide +kernel), List.mem_of_getElem? (i := 607) (by decide +kernel)⟩
def lw_privs_3 : List (MethodName × Nat) := [(⟨"CallNumbersModel", "placeOf", "()I"⟩, 14), (⟨"CallNumbersModel", "order", "([III)I"⟩, 14), (⟨"CallNumbersModel", "isTaken", "()Z"⟩, 14)]
theorem lw_r3 : ∀ q ∈ lw_privs_3, lw_okq q := List.forall_mem_cons.mpr ⟨lw_p32, List.forall_mem_cons.mpr ⟨lw_p33, List.forall_mem_cons.mpr ⟨lw_p34, fun _ h => absurd h List.not_mem_nil⟩⟩⟩
def lw_privs : List (MethodName × Nat) := lw_privs_1 ++ (lw_privs_2 ++ (lw_privs_3))
def lw_tbl : List Cond := k2_sels lw_privs ++ tables_1
theorem lw_privs_ok : ∀ q ∈ lw_privs, lw_okq q := by
  show ∀ q ∈ lw_privs_1 ++ (lw_privs_2 ++ (lw_privs_3)), lw_okq q
  exact List.forall_mem_append.mpr ⟨lw_r1, List.forall_mem_append.mpr ⟨lw_r2, lw_r3⟩⟩
end
section
def RX0 : String := "CallNumbers$CallNumber"
def TX0 : u_T := fun k => match k with
  | 0 => ("CallNumbers$CallNumber", "classLetters", "I", false)
  | 1 => ("CallNumbers$CallNumber", "classLetterCount", "I", false)
  | 2 => ("CallNumbers$CallNumber", "classDigits", "J", false)
  | 3 => ("CallNumbers$CallNumber", "capital", "I", false)
  | 4 => ("CallNumbers$CallNumber", "cutter", "I", false)
  | 5 => ("CallNumbers$CallNumber", "cutterDigits", "I", false)
  | 6 => ("CallNumbers$CallNumber", "year", "I", false)
  | 7 => ("CallNumbers$CallNumber", "volume", "I", false)
  | 8 => ("CallNumbers$CallNumber", "volumeLetter", "I", false)
  | 9 => ("CallNumbers$CallNumber", "mark", "J", false)
  | 10 => ("CallNumbers$CallNumber", "markLetters", "I", false)
  | 11 => ("CallNumbers$CallNumber", "lines", "[I", true)
  | _ => ("CallNumbers$CallNumber", "lineCount", "I", false)
def tyX0 : Nat → FieldType := fun k => match k with
  | 0 => .int
  | 1 => .int
  | 2 => .long
  | 3 => .int
  | 4 => .int
  | 5 => .int
  | 6 => .int
  | 7 => .int
  | 8 => .int
  | 9 => .long
  | 10 => .int
  | 11 => .array .int
  | _ => .int
abbrev wsX00 : List Cond := u_ws RX0 TX0 13
theorem nmX0 : ∀ a, a < 13 → ∀ b, b < 13 → a ≠ b → (TX0 a).2.1 ≠ (TX0 b).2.1 := by decide +kernel
theorem tyX0_ok : ∀ k, k < 13 → parseFieldDescriptor (TX0 k).2.2.1 = some (tyX0 k) := by decide +kernel
abbrev cX0_init : ByteArray := prog_2_method_1_code
def yX0_init : MethodName := ⟨RX0, "<init>", "()V"⟩
abbrev cX0_addLine : ByteArray := prog_2_method_2_code
def yX0_addLine : MethodName := ⟨RX0, "addLine", "(I)V"⟩
abbrev cX0_lineAt : ByteArray := prog_2_method_3_code
def yX0_lineAt : MethodName := ⟨RX0, "lineAt", "(I)I"⟩
abbrev cX0_partCount : ByteArray := prog_2_method_4_code
def yX0_partCount : MethodName := ⟨RX0, "partCount", "()I"⟩
abbrev cX0_capitalAt : ByteArray := prog_2_method_5_code
def yX0_capitalAt : MethodName := ⟨RX0, "capitalAt", "(I)I"⟩
abbrev cX0_cutterAsWritten : ByteArray := prog_2_method_6_code
def yX0_cutterAsWritten : MethodName := ⟨RX0, "cutterAsWritten", "()I"⟩
abbrev cX0_hasClassOf : ByteArray := prog_2_method_7_code
def yX0_hasClassOf : MethodName := ⟨RX0, "hasClassOf", "(LCallNumbers$CallNumber;)Z"⟩
def RX1 : String := "CallNumbers$Reader"
def TX1 : u_T := fun k => match k with
  | 0 => ("CallNumbers$Reader", "lettered", "Z", true)
  | 1 => ("CallNumbers$Reader", "signs", "[I", true)
  | 2 => ("CallNumbers$Reader", "count", "I", false)
  | _ => ("CallNumbers$Reader", "at", "I", false)
def tyX1 : Nat → FieldType := fun k => match k with
  | 0 => .boolean
  | 1 => .array .int
  | 2 => .int
  | _ => .int
abbrev wsX10 : List Cond := u_ws RX1 TX1 4
theorem nmX1 : ∀ a, a < 4 → ∀ b, b < 4 → a ≠ b → (TX1 a).2.1 ≠ (TX1 b).2.1 := by decide +kernel
theorem tyX1_ok : ∀ k, k < 4 → parseFieldDescriptor (TX1 k).2.2.1 = some (tyX1 k) := by decide +kernel
abbrev cX1_init : ByteArray := prog_3_method_1_code
def yX1_init : MethodName := ⟨RX1, "<init>", "(Z)V"⟩
abbrev cX1_collect : ByteArray := prog_3_method_2_code
def yX1_collect : MethodName := ⟨RX1, "collect", "(I)V"⟩
abbrev cX1_forget : ByteArray := prog_3_method_3_code
def yX1_forget : MethodName := ⟨RX1, "forget", "()V"⟩
abbrev cX1_place : ByteArray := prog_3_method_4_code
def yX1_place : MethodName := ⟨RX1, "place", "()I"⟩
abbrev cX1_readCollected : ByteArray := prog_3_method_5_code
def yX1_readCollected : MethodName := ⟨RX1, "readCollected", "()LCallNumbers$CallNumber;"⟩
abbrev cX1_readClass : ByteArray := prog_3_method_6_code
def yX1_readClass : MethodName := ⟨RX1, "readClass", "(LCallNumbers$CallNumber;)Z"⟩
abbrev cX1_readClassLetters : ByteArray := prog_3_method_7_code
def yX1_readClassLetters : MethodName := ⟨RX1, "readClassLetters", "(LCallNumbers$CallNumber;)Z"⟩
abbrev cX1_readCutter : ByteArray := prog_3_method_8_code
def yX1_readCutter : MethodName := ⟨RX1, "readCutter", "(LCallNumbers$CallNumber;)Z"⟩
abbrev cX1_readRest : ByteArray := prog_3_method_9_code
def yX1_readRest : MethodName := ⟨RX1, "readRest", "(LCallNumbers$CallNumber;)Z"⟩
abbrev cX1_partThatBegins : ByteArray := prog_3_method_10_code
def yX1_partThatBegins : MethodName := ⟨RX1, "partThatBegins", "()I"⟩
abbrev cX1_readYear : ByteArray := prog_3_method_11_code
def yX1_readYear : MethodName := ⟨RX1, "readYear", "(LCallNumbers$CallNumber;)Z"⟩
abbrev cX1_readVolume : ByteArray := prog_3_method_12_code
def yX1_readVolume : MethodName := ⟨RX1, "readVolume", "(LCallNumbers$CallNumber;)Z"⟩
abbrev cX1_readMark : ByteArray := prog_3_method_13_code
def yX1_readMark : MethodName := ⟨RX1, "readMark", "(LCallNumbers$CallNumber;)Z"⟩
abbrev cX1_readSpace : ByteArray := prog_3_method_14_code
def yX1_readSpace : MethodName := ⟨RX1, "readSpace", "()Z"⟩
abbrev cX1_readFraction : ByteArray := prog_3_method_15_code
def yX1_readFraction : MethodName := ⟨RX1, "readFraction", "(I)Z"⟩
abbrev cX1_readDecimals : ByteArray := prog_3_method_16_code
def yX1_readDecimals : MethodName := ⟨RX1, "readDecimals", "(I)Z"⟩
abbrev cX1_readNumber : ByteArray := prog_3_method_17_code
def yX1_readNumber : MethodName := ⟨RX1, "readNumber", "(II)Z"⟩
abbrev cX1_readDigits : ByteArray := prog_3_method_18_code
def yX1_readDigits : MethodName := ⟨RX1, "readDigits", "(II)Z"⟩
abbrev cX1_filledUp : ByteArray := prog_3_method_19_code
def yX1_filledUp : MethodName := ⟨RX1, "filledUp", "(III)J"⟩
abbrev cX1_signAt : ByteArray := prog_3_method_20_code
def yX1_signAt : MethodName := ⟨RX1, "signAt", "(I)I"⟩
abbrev cX1_isDigit : ByteArray := prog_3_method_21_code
def yX1_isDigit : MethodName := ⟨RX1, "isDigit", "(I)Z"⟩
abbrev cX1_isCapital : ByteArray := prog_3_method_22_code
def yX1_isCapital : MethodName := ⟨RX1, "isCapital", "(I)Z"⟩
abbrev cX1_isSmall : ByteArray := prog_3_method_23_code
def yX1_isSmall : MethodName := ⟨RX1, "isSmall", "(I)Z"⟩
def RX2 : String := "CallNumbers$Shelf"
def TX2 : u_T := fun k => match k with
  | 0 => ("CallNumbers$Shelf", "numbers", "[LCallNumbers$CallNumber;", true)
  | 1 => ("CallNumbers$Shelf", "records", "[I", true)
  | _ => ("CallNumbers$Shelf", "count", "I", false)
def tyX2 : Nat → FieldType := fun k => match k with
  | 0 => .array (.object "CallNumbers$CallNumber")
  | 1 => .array .int
  | _ => .int
abbrev wsX20 : List Cond := u_ws RX2 TX2 3
theorem nmX2 : ∀ a, a < 3 → ∀ b, b < 3 → a ≠ b → (TX2 a).2.1 ≠ (TX2 b).2.1 := by decide +kernel
theorem tyX2_ok : ∀ k, k < 3 → parseFieldDescriptor (TX2 k).2.2.1 = some (tyX2 k) := by decide +kernel
abbrev cX2_init : ByteArray := prog_4_method_1_code
def yX2_init : MethodName := ⟨RX2, "<init>", "()V"⟩
abbrev cX2_has : ByteArray := prog_4_method_2_code
def yX2_has : MethodName := ⟨RX2, "has", "(I)Z"⟩
abbrev cX2_numberAt : ByteArray := prog_4_method_3_code
def yX2_numberAt : MethodName := ⟨RX2, "numberAt", "(I)LCallNumbers$CallNumber;"⟩
abbrev cX2_recordAt : ByteArray := prog_4_method_4_code
def yX2_recordAt : MethodName := ⟨RX2, "recordAt", "(I)I"⟩
abbrev cX2_countBefore : ByteArray := prog_4_method_5_code
def yX2_countBefore : MethodName := ⟨RX2, "countBefore", "(LCallNumbers$CallNumber;)I"⟩
abbrev cX2_isSameAt : ByteArray := prog_4_method_6_code
def yX2_isSameAt : MethodName := ⟨RX2, "isSameAt", "(ILCallNumbers$CallNumber;)Z"⟩
abbrev cX2_insert : ByteArray := prog_4_method_7_code
def yX2_insert : MethodName := ⟨RX2, "insert", "(ILCallNumbers$CallNumber;I)Z"⟩
abbrev cX2_remove : ByteArray := prog_4_method_8_code
def yX2_remove : MethodName := ⟨RX2, "remove", "(I)V"⟩
abbrev cX2_firstWith : ByteArray := prog_4_method_9_code
def yX2_firstWith : MethodName := ⟨RX2, "firstWith", "(I)I"⟩
abbrev cX2_hasCutter : ByteArray := prog_4_method_10_code
def yX2_hasCutter : MethodName := ⟨RX2, "hasCutter", "(LCallNumbers$CallNumber;I)Z"⟩
def RX3 : String := "CallNumbers"
def TX3 : u_T := fun k => match k with
  | 0 => ("CallNumbers", "reader", "LCallNumbers$Reader;", true)
  | 1 => ("CallNumbers", "kept", "LCallNumbers$Shelf;", true)
  | 2 => ("CallNumbers", "latest", "LCallNumbers$CallNumber;", false)
  | _ => ("CallNumbers", "told", "LCallNumbers$CallNumber;", false)
def tyX3 : Nat → FieldType := fun k => match k with
  | 0 => .object "CallNumbers$Reader"
  | 1 => .object "CallNumbers$Shelf"
  | 2 => .object "CallNumbers$CallNumber"
  | _ => .object "CallNumbers$CallNumber"
abbrev wsX30 : List Cond := u_ws RX3 TX3 4
theorem nmX3 : ∀ a, a < 4 → ∀ b, b < 4 → a ≠ b → (TX3 a).2.1 ≠ (TX3 b).2.1 := by decide +kernel
theorem tyX3_ok : ∀ k, k < 4 → parseFieldDescriptor (TX3 k).2.2.1 = some (tyX3 k) := by decide +kernel
abbrev cX3_init : ByteArray := prog_1_method_1_code
def yX3_init : MethodName := ⟨RX3, "<init>", "(I)V"⟩
abbrev cX3_sign : ByteArray := prog_1_method_2_code
def yX3_sign : MethodName := ⟨RX3, "sign", "(I)V"⟩
abbrev cX3_read : ByteArray := prog_1_method_3_code
def yX3_read : MethodName := ⟨RX3, "read", "()I"⟩
abbrev cX3_part : ByteArray := prog_1_method_4_code
def yX3_part : MethodName := ⟨RX3, "part", "(I)J"⟩
abbrev cX3_letter : ByteArray := prog_1_method_5_code
def yX3_letter : MethodName := ⟨RX3, "letter", "(I)I"⟩
abbrev cX3_put : ByteArray := prog_1_method_6_code
def yX3_put : MethodName := ⟨RX3, "put", "(I)I"⟩
abbrev cX3_shelf : ByteArray := prog_1_method_7_code
def yX3_shelf : MethodName := ⟨RX3, "shelf", "(I)I"⟩
abbrev cX3_take : ByteArray := prog_1_method_8_code
def yX3_take : MethodName := ⟨RX3, "take", "(I)I"⟩
abbrev cX3_compare : ByteArray := prog_1_method_9_code
def yX3_compare : MethodName := ⟨RX3, "compare", "(II)I"⟩
abbrev cX3_before : ByteArray := prog_1_method_10_code
def yX3_before : MethodName := ⟨RX3, "before", "()I"⟩
abbrev cX3_free : ByteArray := prog_1_method_11_code
def yX3_free : MethodName := ⟨RX3, "free", "()I"⟩
abbrev cX3_spine : ByteArray := prog_1_method_12_code
def yX3_spine : MethodName := ⟨RX3, "spine", "(I)I"⟩
abbrev cX3_pass : ByteArray := prog_1_method_13_code
def yX3_pass : MethodName := ⟨RX3, "pass", "(I)I"⟩
abbrev cX3_freeWithMore : ByteArray := prog_1_method_14_code
def yX3_freeWithMore : MethodName := ⟨RX3, "freeWithMore", "(LCallNumbers$CallNumber;I)I"⟩
abbrev cX3_hasNoZero : ByteArray := prog_1_method_15_code
def yX3_hasNoZero : MethodName := ⟨RX3, "hasNoZero", "(I)Z"⟩
abbrev cX3_powerOfTen : ByteArray := prog_1_method_16_code
def yX3_powerOfTen : MethodName := ⟨RX3, "powerOfTen", "(I)J"⟩
abbrev cX3_order : ByteArray := prog_1_method_17_code
def yX3_order : MethodName := ⟨RX3, "order", "(LCallNumbers$CallNumber;LCallNumbers$CallNumber;)I"⟩
abbrev cX3_side : ByteArray := prog_1_method_18_code
def yX3_side : MethodName := ⟨RX3, "side", "(JJ)I"⟩
def RX4 : String := "CallNumbersModel"
def TX4 : u_T := fun k => match k with
  | 0 => ("CallNumbersModel", "thrown", "I", false)
  | 1 => ("CallNumbersModel", "scheme", "I", true)
  | 2 => ("CallNumbersModel", "said", "[B", true)
  | 3 => ("CallNumbersModel", "size", "I", false)
  | 4 => ("CallNumbersModel", "now", "[I", true)
  | 5 => ("CallNumbersModel", "latest", "[I", true)
  | 6 => ("CallNumbersModel", "there", "Z", false)
  | 7 => ("CallNumbersModel", "shelf", "[I", true)
  | 8 => ("CallNumbersModel", "records", "[I", true)
  | 9 => ("CallNumbersModel", "count", "I", false)
  | 10 => ("CallNumbersModel", "before", "[I", true)
  | 11 => ("CallNumbersModel", "passed", "Z", false)
  | 12 => ("CallNumbersModel", "at", "I", false)
  | _ => ("CallNumbersModel", "wrong", "I", false)
def tyX4 : Nat → FieldType := fun k => match k with
  | 0 => .int
  | 1 => .int
  | 2 => .array .byte
  | 3 => .int
  | 4 => .array .int
  | 5 => .array .int
  | 6 => .boolean
  | 7 => .array .int
  | 8 => .array .int
  | 9 => .int
  | 10 => .array .int
  | 11 => .boolean
  | 12 => .int
  | _ => .int
abbrev wsX40 : List Cond := u_ws RX4 TX4 14
theorem nmX4 : ∀ a, a < 14 → ∀ b, b < 14 → a ≠ b → (TX4 a).2.1 ≠ (TX4 b).2.1 := by decide +kernel
theorem tyX4_ok : ∀ k, k < 14 → parseFieldDescriptor (TX4 k).2.2.1 = some (tyX4 k) := by decide +kernel
abbrev cX4_init : ByteArray := prog_6_method_1_code
def yX4_init : MethodName := ⟨RX4, "<init>", "(I)V"⟩
abbrev cX4_thrown : ByteArray := prog_6_method_2_code
def yX4_thrown : MethodName := ⟨RX4, "thrown", "()I"⟩
abbrev cX4_sign : ByteArray := prog_6_method_3_code
def yX4_sign : MethodName := ⟨RX4, "sign", "(I)V"⟩
abbrev cX4_look : ByteArray := prog_6_method_4_code
def yX4_look : MethodName := ⟨RX4, "look", "()I"⟩
abbrev cX4_bad : ByteArray := prog_6_method_5_code
def yX4_bad : MethodName := ⟨RX4, "bad", "(I)Z"⟩
abbrev cX4_isDigit : ByteArray := prog_6_method_6_code
def yX4_isDigit : MethodName := ⟨RX4, "isDigit", "(I)Z"⟩
abbrev cX4_isCapital : ByteArray := prog_6_method_7_code
def yX4_isCapital : MethodName := ⟨RX4, "isCapital", "(I)Z"⟩
abbrev cX4_isSmall : ByteArray := prog_6_method_8_code
def yX4_isSmall : MethodName := ⟨RX4, "isSmall", "(I)Z"⟩
abbrev cX4_digits : ByteArray := prog_6_method_9_code
def yX4_digits : MethodName := ⟨RX4, "digits", "(II)Z"⟩
abbrev cX4_number : ByteArray := prog_6_method_10_code
def yX4_number : MethodName := ⟨RX4, "number", "(II)Z"⟩
abbrev cX4_readClass : ByteArray := prog_6_method_11_code
def yX4_readClass : MethodName := ⟨RX4, "readClass", "()Z"⟩
abbrev cX4_readCutter : ByteArray := prog_6_method_12_code
def yX4_readCutter : MethodName := ⟨RX4, "readCutter", "()Z"⟩
abbrev cX4_readYear : ByteArray := prog_6_method_13_code
def yX4_readYear : MethodName := ⟨RX4, "readYear", "()Z"⟩
abbrev cX4_readVolume : ByteArray := prog_6_method_14_code
def yX4_readVolume : MethodName := ⟨RX4, "readVolume", "()Z"⟩
abbrev cX4_readMark : ByteArray := prog_6_method_15_code
def yX4_readMark : MethodName := ⟨RX4, "readMark", "()Z"⟩
abbrev cX4_space : ByteArray := prog_6_method_16_code
def yX4_space : MethodName := ⟨RX4, "space", "()Z"⟩
abbrev cX4_reads : ByteArray := prog_6_method_17_code
def yX4_reads : MethodName := ⟨RX4, "reads", "()Z"⟩
abbrev cX4_read : ByteArray := prog_6_method_18_code
def yX4_read : MethodName := ⟨RX4, "read", "()I"⟩
abbrev cX4_value : ByteArray := prog_6_method_19_code
def yX4_value : MethodName := ⟨RX4, "value", "([III)J"⟩
abbrev cX4_marks : ByteArray := prog_6_method_20_code
def yX4_marks : MethodName := ⟨RX4, "marks", "()I"⟩
abbrev cX4_part : ByteArray := prog_6_method_21_code
def yX4_part : MethodName := ⟨RX4, "part", "(I)J"⟩
abbrev cX4_letters : ByteArray := prog_6_method_22_code
def yX4_letters : MethodName := ⟨RX4, "letters", "()I"⟩
abbrev cX4_letter : ByteArray := prog_6_method_23_code
def yX4_letter : MethodName := ⟨RX4, "letter", "(I)I"⟩
abbrev cX4_decimals : ByteArray := prog_6_method_24_code
def yX4_decimals : MethodName := ⟨RX4, "decimals", "(I)I"⟩
abbrev cX4_cutterSize : ByteArray := prog_6_method_25_code
def yX4_cutterSize : MethodName := ⟨RX4, "cutterSize", "()I"⟩
abbrev cX4_spine : ByteArray := prog_6_method_26_code
def yX4_spine : MethodName := ⟨RX4, "spine", "(I)I"⟩
abbrev cX4_order : ByteArray := prog_6_method_27_code
def yX4_order : MethodName := ⟨RX4, "order", "([III)I"⟩
abbrev cX4_placeOf : ByteArray := prog_6_method_28_code
def yX4_placeOf : MethodName := ⟨RX4, "placeOf", "()I"⟩
abbrev cX4_put : ByteArray := prog_6_method_29_code
def yX4_put : MethodName := ⟨RX4, "put", "(I)I"⟩
abbrev cX4_shelf : ByteArray := prog_6_method_30_code
def yX4_shelf : MethodName := ⟨RX4, "shelf", "(I)I"⟩
abbrev cX4_take : ByteArray := prog_6_method_31_code
def yX4_take : MethodName := ⟨RX4, "take", "(I)I"⟩
abbrev cX4_compare : ByteArray := prog_6_method_32_code
def yX4_compare : MethodName := ⟨RX4, "compare", "(II)I"⟩
abbrev cX4_before : ByteArray := prog_6_method_33_code
def yX4_before : MethodName := ⟨RX4, "before", "()I"⟩
abbrev cX4_isTaken : ByteArray := prog_6_method_34_code
def yX4_isTaken : MethodName := ⟨RX4, "isTaken", "()Z"⟩
abbrev cX4_free : ByteArray := prog_6_method_35_code
def yX4_free : MethodName := ⟨RX4, "free", "()I"⟩
abbrev cX4_pass : ByteArray := prog_6_method_36_code
def yX4_pass : MethodName := ⟨RX4, "pass", "(I)I"⟩
def RJx00060 : String := "java/lang/ArrayIndexOutOfBoundsException"
def TJx00060 : u_T := fun k => match k with
  | 0 => ("java/lang/Throwable", "cause", "Ljava/lang/Throwable;", false)
  | 1 => ("java/lang/Throwable", "stackTrace", "[Ljava/lang/StackTraceElement;", false)
  | 2 => ("java/lang/Throwable", "suppressedExceptions", "Ljava/util/List;", false)
  | 3 => ("java/lang/Throwable", "detailMessage", "Ljava/lang/String;", false)
  | 4 => ("java/lang/Throwable", "backtrace", "Ljava/lang/Object;", false)
  | _ => ("java/lang/Throwable", "depth", "I", false)
def tyJx00060 : Nat → FieldType := fun k => match k with
  | 0 => .object "java/lang/Throwable"
  | 1 => .array (.object "java/lang/StackTraceElement")
  | 2 => .object "java/util/List"
  | 3 => .object "java/lang/String"
  | 4 => .object "java/lang/Object"
  | _ => .int
abbrev wsJx000600 : List Cond := u_ws RJx00060 TJx00060 6
theorem nmJx00060 : ∀ a, a < 6 → ∀ b, b < 6 → a ≠ b → (TJx00060 a).2.1 ≠ (TJx00060 b).2.1 := by decide +kernel
theorem tyJx00060_ok : ∀ k, k < 6 → parseFieldDescriptor (TJx00060 k).2.2.1 = some (tyJx00060 k) := by decide +kernel
abbrev cJx00060_init_a7421 : ByteArray := prog_7_method_2_code
def yJx00060_init_a7421 : MethodName := ⟨RJx00060, "<init>", "(Ljava/lang/String;)V"⟩
def RL : String := "CallNumbersLaw"
abbrev cL_cell : ByteArray := method_2_code
def yL_cell : MethodName := ⟨RL, "cell", "([II)I"⟩
abbrev cL_part : ByteArray := method_3_code
def yL_part : MethodName := ⟨RL, "part", "(LCallNumbers;I[J)I"⟩
abbrev cL_law : ByteArray := code
def yL_law : MethodName := ⟨RL, "law", "([I)Z"⟩
abbrev vwCl : List vw_C := [(RJx00060, TJx00060, 6), (RX0, TX0, 13), (RX1, TX1, 4), (RX2, TX2, 3), (RX3, TX3, 4), (RX4, TX4, 14)]
end
section
theorem dJx00060_init_a7421_0 : decode cJx00060_init_a7421 0 = .ok (.aload_n 0, 1) := by decide +kernel
theorem dJx00060_init_a7421_1 : decode cJx00060_init_a7421 1 = .ok (.aload_n 1, 1) := by decide +kernel
theorem dJx00060_init_a7421_2 : decode cJx00060_init_a7421 2 = .ok (.invokespecial 7, 3) := by decide +kernel
theorem dJx00060_init_a7421_5 : decode cJx00060_init_a7421 5 = .ok (.return_, 1) := by decide +kernel
end
section
theorem dL_cell_0 : decode cL_cell 0 = .ok (.iload_n 1, 1) := by decide +kernel
theorem dL_cell_1 : decode cL_cell 1 = .ok (.aload_n 0, 1) := by decide +kernel
theorem dL_cell_2 : decode cL_cell 2 = .ok (.arraylength, 1) := by decide +kernel
theorem dL_cell_3 : decode cL_cell 3 = .ok (.if_icmp .ge 9, 3) := by decide +kernel
theorem dL_cell_6 : decode cL_cell 6 = .ok (.aload_n 0, 1) := by decide +kernel
theorem dL_cell_7 : decode cL_cell 7 = .ok (.iload_n 1, 1) := by decide +kernel
theorem dL_cell_8 : decode cL_cell 8 = .ok (.iaload, 1) := by decide +kernel
theorem dL_cell_9 : decode cL_cell 9 = .ok (.goto 4, 3) := by decide +kernel
theorem dL_cell_12 : decode cL_cell 12 = .ok (.iconst 0, 1) := by decide +kernel
theorem dL_cell_13 : decode cL_cell 13 = .ok (.ireturn, 1) := by decide +kernel
theorem dL_part_0 : decode cL_part 0 = .ok (.aload_n 2, 1) := by decide +kernel
theorem dL_part_1 : decode cL_part 1 = .ok (.iconst 0, 1) := by decide +kernel
theorem dL_part_2 : decode cL_part 2 = .ok (.aload_n 0, 1) := by decide +kernel
theorem dL_part_3 : decode cL_part 3 = .ok (.iload_n 1, 1) := by decide +kernel
theorem dL_part_4 : decode cL_part 4 = .ok (.invokevirtual 7, 3) := by decide +kernel
theorem dL_part_7 : decode cL_part 7 = .ok (.lastore, 1) := by decide +kernel
theorem dL_part_8 : decode cL_part 8 = .ok (.goto 6, 3) := by decide +kernel
theorem dL_part_11 : decode cL_part 11 = .ok (.astore_n 3, 1) := by decide +kernel
theorem dL_part_12 : decode cL_part 12 = .ok (.iconst 1, 1) := by decide +kernel
theorem dL_part_13 : decode cL_part 13 = .ok (.ireturn, 1) := by decide +kernel
theorem dL_part_14 : decode cL_part 14 = .ok (.iconst 0, 1) := by decide +kernel
theorem dL_part_15 : decode cL_part 15 = .ok (.ireturn, 1) := by decide +kernel
theorem dL_law_0 : decode cL_law 0 = .ok (.new 8, 3) := by decide +kernel
theorem dL_law_3 : decode cL_law 3 = .ok (.dup, 1) := by decide +kernel
theorem dL_law_4 : decode cL_law 4 = .ok (.aload_n 0, 1) := by decide +kernel
theorem dL_law_5 : decode cL_law 5 = .ok (.iconst 0, 1) := by decide +kernel
theorem dL_law_6 : decode cL_law 6 = .ok (.invokestatic 15, 3) := by decide +kernel
theorem dL_law_9 : decode cL_law 9 = .ok (.invokespecial 21, 3) := by decide +kernel
theorem dL_law_12 : decode cL_law 12 = .ok (.astore_n 1, 1) := by decide +kernel
theorem dL_law_13 : decode cL_law 13 = .ok (.new 24, 3) := by decide +kernel
theorem dL_law_16 : decode cL_law 16 = .ok (.dup, 1) := by decide +kernel
theorem dL_law_17 : decode cL_law 17 = .ok (.aload_n 0, 1) := by decide +kernel
theorem dL_law_18 : decode cL_law 18 = .ok (.iconst 0, 1) := by decide +kernel
theorem dL_law_19 : decode cL_law 19 = .ok (.invokestatic 15, 3) := by decide +kernel
theorem dL_law_22 : decode cL_law 22 = .ok (.invokespecial 26, 3) := by decide +kernel
theorem dL_law_25 : decode cL_law 25 = .ok (.astore_n 2, 1) := by decide +kernel
theorem dL_law_26 : decode cL_law 26 = .ok (.iconst 1, 1) := by decide +kernel
theorem dL_law_27 : decode cL_law 27 = .ok (.newarray .long, 2) := by decide +kernel
theorem dL_law_29 : decode cL_law 29 = .ok (.astore_n 3, 1) := by decide +kernel
theorem dL_law_30 : decode cL_law 30 = .ok (.iconst 1, 1) := by decide +kernel
theorem dL_law_31 : decode cL_law 31 = .ok (.istore 4, 2) := by decide +kernel
theorem dL_law_33 : decode cL_law 33 = .ok (.iload 4, 2) := by decide +kernel
theorem dL_law_35 : decode cL_law 35 = .ok (.aload_n 0, 1) := by decide +kernel
theorem dL_law_36 : decode cL_law 36 = .ok (.arraylength, 1) := by decide +kernel
theorem dL_law_37 : decode cL_law 37 = .ok (.iconst 3, 1) := by decide +kernel
theorem dL_law_38 : decode cL_law 38 = .ok (.isub, 1) := by decide +kernel
theorem dL_law_39 : decode cL_law 39 = .ok (.if_icmp .gt 383, 3) := by decide +kernel
theorem dL_law_42 : decode cL_law 42 = .ok (.aload_n 0, 1) := by decide +kernel
theorem dL_law_43 : decode cL_law 43 = .ok (.iload 4, 2) := by decide +kernel
theorem dL_law_45 : decode cL_law 45 = .ok (.iaload, 1) := by decide +kernel
theorem dL_law_46 : decode cL_law 46 = .ok (.bipush 15, 2) := by decide +kernel
theorem dL_law_48 : decode cL_law 48 = .ok (.iand, 1) := by decide +kernel
theorem dL_law_49 : decode cL_law 49 = .ok (.tableswitch 367 0 11 #[63, 86, 99, 154, 179, 204, 229, 254, 291, 304, 317, 342], 63) := by decide +kernel
theorem dL_law_112 : decode cL_law 112 = .ok (.aload_n 1, 1) := by decide +kernel
theorem dL_law_113 : decode cL_law 113 = .ok (.aload_n 0, 1) := by decide +kernel
theorem dL_law_114 : decode cL_law 114 = .ok (.iload 4, 2) := by decide +kernel
theorem dL_law_116 : decode cL_law 116 = .ok (.iconst 1, 1) := by decide +kernel
theorem dL_law_117 : decode cL_law 117 = .ok (.iadd, 1) := by decide +kernel
theorem dL_law_118 : decode cL_law 118 = .ok (.iaload, 1) := by decide +kernel
theorem dL_law_119 : decode cL_law 119 = .ok (.invokevirtual 27, 3) := by decide +kernel
theorem dL_law_122 : decode cL_law 122 = .ok (.aload_n 2, 1) := by decide +kernel
theorem dL_law_123 : decode cL_law 123 = .ok (.aload_n 0, 1) := by decide +kernel
theorem dL_law_124 : decode cL_law 124 = .ok (.iload 4, 2) := by decide +kernel
theorem dL_law_126 : decode cL_law 126 = .ok (.iconst 1, 1) := by decide +kernel
theorem dL_law_127 : decode cL_law 127 = .ok (.iadd, 1) := by decide +kernel
theorem dL_law_128 : decode cL_law 128 = .ok (.iaload, 1) := by decide +kernel
theorem dL_law_129 : decode cL_law 129 = .ok (.invokevirtual 30, 3) := by decide +kernel
theorem dL_law_132 : decode cL_law 132 = .ok (.goto 284, 3) := by decide +kernel
theorem dL_law_135 : decode cL_law 135 = .ok (.aload_n 1, 1) := by decide +kernel
theorem dL_law_136 : decode cL_law 136 = .ok (.invokevirtual 31, 3) := by decide +kernel
theorem dL_law_139 : decode cL_law 139 = .ok (.aload_n 2, 1) := by decide +kernel
theorem dL_law_140 : decode cL_law 140 = .ok (.invokevirtual 35, 3) := by decide +kernel
theorem dL_law_143 : decode cL_law 143 = .ok (.if_icmp .eq 273, 3) := by decide +kernel
theorem dL_law_146 : decode cL_law 146 = .ok (.iconst 0, 1) := by decide +kernel
theorem dL_law_147 : decode cL_law 147 = .ok (.ireturn, 1) := by decide +kernel
theorem dL_law_148 : decode cL_law 148 = .ok (.aload_n 1, 1) := by decide +kernel
theorem dL_law_149 : decode cL_law 149 = .ok (.aload_n 0, 1) := by decide +kernel
theorem dL_law_150 : decode cL_law 150 = .ok (.iload 4, 2) := by decide +kernel
theorem dL_law_152 : decode cL_law 152 = .ok (.iconst 1, 1) := by decide +kernel
theorem dL_law_153 : decode cL_law 153 = .ok (.iadd, 1) := by decide +kernel
theorem dL_law_154 : decode cL_law 154 = .ok (.iaload, 1) := by decide +kernel
theorem dL_law_155 : decode cL_law 155 = .ok (.aload_n 3, 1) := by decide +kernel
theorem dL_law_156 : decode cL_law 156 = .ok (.invokestatic 36, 3) := by decide +kernel
theorem dL_law_159 : decode cL_law 159 = .ok (.istore 5, 2) := by decide +kernel
theorem dL_law_161 : decode cL_law 161 = .ok (.aload_n 2, 1) := by decide +kernel
theorem dL_law_162 : decode cL_law 162 = .ok (.aload_n 0, 1) := by decide +kernel
theorem dL_law_163 : decode cL_law 163 = .ok (.iload 4, 2) := by decide +kernel
theorem dL_law_165 : decode cL_law 165 = .ok (.iconst 1, 1) := by decide +kernel
theorem dL_law_166 : decode cL_law 166 = .ok (.iadd, 1) := by decide +kernel
theorem dL_law_167 : decode cL_law 167 = .ok (.iaload, 1) := by decide +kernel
theorem dL_law_168 : decode cL_law 168 = .ok (.invokevirtual 39, 3) := by decide +kernel
theorem dL_law_171 : decode cL_law 171 = .ok (.lstore 6, 2) := by decide +kernel
theorem dL_law_173 : decode cL_law 173 = .ok (.aload_n 2, 1) := by decide +kernel
theorem dL_law_174 : decode cL_law 174 = .ok (.invokevirtual 40, 3) := by decide +kernel
theorem dL_law_177 : decode cL_law 177 = .ok (.iload 5, 2) := by decide +kernel
theorem dL_law_179 : decode cL_law 179 = .ok (.if_icmp .eq 5, 3) := by decide +kernel
theorem dL_law_182 : decode cL_law 182 = .ok (.iconst 0, 1) := by decide +kernel
theorem dL_law_183 : decode cL_law 183 = .ok (.ireturn, 1) := by decide +kernel
theorem dL_law_184 : decode cL_law 184 = .ok (.iload 5, 2) := by decide +kernel
theorem dL_law_186 : decode cL_law 186 = .ok (.ifCond .ne 14, 3) := by decide +kernel
theorem dL_law_189 : decode cL_law 189 = .ok (.aload_n 3, 1) := by decide +kernel
theorem dL_law_190 : decode cL_law 190 = .ok (.iconst 0, 1) := by decide +kernel
theorem dL_law_191 : decode cL_law 191 = .ok (.laload, 1) := by decide +kernel
theorem dL_law_192 : decode cL_law 192 = .ok (.lload 6, 2) := by decide +kernel
theorem dL_law_194 : decode cL_law 194 = .ok (.lcmp, 1) := by decide +kernel
theorem dL_law_195 : decode cL_law 195 = .ok (.ifCond .eq 5, 3) := by decide +kernel
theorem dL_law_198 : decode cL_law 198 = .ok (.iconst 0, 1) := by decide +kernel
theorem dL_law_199 : decode cL_law 199 = .ok (.ireturn, 1) := by decide +kernel
theorem dL_law_200 : decode cL_law 200 = .ok (.goto 216, 3) := by decide +kernel
theorem dL_law_203 : decode cL_law 203 = .ok (.aload_n 1, 1) := by decide +kernel
theorem dL_law_204 : decode cL_law 204 = .ok (.aload_n 0, 1) := by decide +kernel
theorem dL_law_205 : decode cL_law 205 = .ok (.iload 4, 2) := by decide +kernel
theorem dL_law_207 : decode cL_law 207 = .ok (.iconst 1, 1) := by decide +kernel
theorem dL_law_208 : decode cL_law 208 = .ok (.iadd, 1) := by decide +kernel
theorem dL_law_209 : decode cL_law 209 = .ok (.iaload, 1) := by decide +kernel
theorem dL_law_210 : decode cL_law 210 = .ok (.invokevirtual 43, 3) := by decide +kernel
theorem dL_law_213 : decode cL_law 213 = .ok (.aload_n 2, 1) := by decide +kernel
theorem dL_law_214 : decode cL_law 214 = .ok (.aload_n 0, 1) := by decide +kernel
theorem dL_law_215 : decode cL_law 215 = .ok (.iload 4, 2) := by decide +kernel
theorem dL_law_217 : decode cL_law 217 = .ok (.iconst 1, 1) := by decide +kernel
theorem dL_law_218 : decode cL_law 218 = .ok (.iadd, 1) := by decide +kernel
theorem dL_law_219 : decode cL_law 219 = .ok (.iaload, 1) := by decide +kernel
theorem dL_law_220 : decode cL_law 220 = .ok (.invokevirtual 47, 3) := by decide +kernel
theorem dL_law_223 : decode cL_law 223 = .ok (.if_icmp .eq 193, 3) := by decide +kernel
theorem dL_law_226 : decode cL_law 226 = .ok (.iconst 0, 1) := by decide +kernel
theorem dL_law_227 : decode cL_law 227 = .ok (.ireturn, 1) := by decide +kernel
theorem dL_law_228 : decode cL_law 228 = .ok (.aload_n 1, 1) := by decide +kernel
theorem dL_law_229 : decode cL_law 229 = .ok (.aload_n 0, 1) := by decide +kernel
theorem dL_law_230 : decode cL_law 230 = .ok (.iload 4, 2) := by decide +kernel
theorem dL_law_232 : decode cL_law 232 = .ok (.iconst 1, 1) := by decide +kernel
theorem dL_law_233 : decode cL_law 233 = .ok (.iadd, 1) := by decide +kernel
theorem dL_law_234 : decode cL_law 234 = .ok (.iaload, 1) := by decide +kernel
theorem dL_law_235 : decode cL_law 235 = .ok (.invokevirtual 48, 3) := by decide +kernel
theorem dL_law_238 : decode cL_law 238 = .ok (.aload_n 2, 1) := by decide +kernel
theorem dL_law_239 : decode cL_law 239 = .ok (.aload_n 0, 1) := by decide +kernel
theorem dL_law_240 : decode cL_law 240 = .ok (.iload 4, 2) := by decide +kernel
theorem dL_law_242 : decode cL_law 242 = .ok (.iconst 1, 1) := by decide +kernel
theorem dL_law_243 : decode cL_law 243 = .ok (.iadd, 1) := by decide +kernel
theorem dL_law_244 : decode cL_law 244 = .ok (.iaload, 1) := by decide +kernel
theorem dL_law_245 : decode cL_law 245 = .ok (.invokevirtual 51, 3) := by decide +kernel
theorem dL_law_248 : decode cL_law 248 = .ok (.if_icmp .eq 168, 3) := by decide +kernel
theorem dL_law_251 : decode cL_law 251 = .ok (.iconst 0, 1) := by decide +kernel
theorem dL_law_252 : decode cL_law 252 = .ok (.ireturn, 1) := by decide +kernel
theorem dL_law_253 : decode cL_law 253 = .ok (.aload_n 1, 1) := by decide +kernel
theorem dL_law_254 : decode cL_law 254 = .ok (.aload_n 0, 1) := by decide +kernel
theorem dL_law_255 : decode cL_law 255 = .ok (.iload 4, 2) := by decide +kernel
theorem dL_law_257 : decode cL_law 257 = .ok (.iconst 1, 1) := by decide +kernel
theorem dL_law_258 : decode cL_law 258 = .ok (.iadd, 1) := by decide +kernel
theorem dL_law_259 : decode cL_law 259 = .ok (.iaload, 1) := by decide +kernel
theorem dL_law_260 : decode cL_law 260 = .ok (.invokevirtual 52, 3) := by decide +kernel
theorem dL_law_263 : decode cL_law 263 = .ok (.aload_n 2, 1) := by decide +kernel
theorem dL_law_264 : decode cL_law 264 = .ok (.aload_n 0, 1) := by decide +kernel
theorem dL_law_265 : decode cL_law 265 = .ok (.iload 4, 2) := by decide +kernel
theorem dL_law_267 : decode cL_law 267 = .ok (.iconst 1, 1) := by decide +kernel
theorem dL_law_268 : decode cL_law 268 = .ok (.iadd, 1) := by decide +kernel
theorem dL_law_269 : decode cL_law 269 = .ok (.iaload, 1) := by decide +kernel
theorem dL_law_270 : decode cL_law 270 = .ok (.invokevirtual 55, 3) := by decide +kernel
theorem dL_law_273 : decode cL_law 273 = .ok (.if_icmp .eq 143, 3) := by decide +kernel
theorem dL_law_276 : decode cL_law 276 = .ok (.iconst 0, 1) := by decide +kernel
theorem dL_law_277 : decode cL_law 277 = .ok (.ireturn, 1) := by decide +kernel
theorem dL_law_278 : decode cL_law 278 = .ok (.aload_n 1, 1) := by decide +kernel
theorem dL_law_279 : decode cL_law 279 = .ok (.aload_n 0, 1) := by decide +kernel
theorem dL_law_280 : decode cL_law 280 = .ok (.iload 4, 2) := by decide +kernel
theorem dL_law_282 : decode cL_law 282 = .ok (.iconst 1, 1) := by decide +kernel
theorem dL_law_283 : decode cL_law 283 = .ok (.iadd, 1) := by decide +kernel
theorem dL_law_284 : decode cL_law 284 = .ok (.iaload, 1) := by decide +kernel
theorem dL_law_285 : decode cL_law 285 = .ok (.invokevirtual 56, 3) := by decide +kernel
theorem dL_law_288 : decode cL_law 288 = .ok (.aload_n 2, 1) := by decide +kernel
theorem dL_law_289 : decode cL_law 289 = .ok (.aload_n 0, 1) := by decide +kernel
theorem dL_law_290 : decode cL_law 290 = .ok (.iload 4, 2) := by decide +kernel
theorem dL_law_292 : decode cL_law 292 = .ok (.iconst 1, 1) := by decide +kernel
theorem dL_law_293 : decode cL_law 293 = .ok (.iadd, 1) := by decide +kernel
theorem dL_law_294 : decode cL_law 294 = .ok (.iaload, 1) := by decide +kernel
theorem dL_law_295 : decode cL_law 295 = .ok (.invokevirtual 59, 3) := by decide +kernel
theorem dL_law_298 : decode cL_law 298 = .ok (.if_icmp .eq 118, 3) := by decide +kernel
theorem dL_law_301 : decode cL_law 301 = .ok (.iconst 0, 1) := by decide +kernel
theorem dL_law_302 : decode cL_law 302 = .ok (.ireturn, 1) := by decide +kernel
theorem dL_law_303 : decode cL_law 303 = .ok (.aload_n 1, 1) := by decide +kernel
theorem dL_law_304 : decode cL_law 304 = .ok (.aload_n 0, 1) := by decide +kernel
theorem dL_law_305 : decode cL_law 305 = .ok (.iload 4, 2) := by decide +kernel
theorem dL_law_307 : decode cL_law 307 = .ok (.iconst 1, 1) := by decide +kernel
theorem dL_law_308 : decode cL_law 308 = .ok (.iadd, 1) := by decide +kernel
theorem dL_law_309 : decode cL_law 309 = .ok (.iaload, 1) := by decide +kernel
theorem dL_law_310 : decode cL_law 310 = .ok (.aload_n 0, 1) := by decide +kernel
theorem dL_law_311 : decode cL_law 311 = .ok (.iload 4, 2) := by decide +kernel
theorem dL_law_313 : decode cL_law 313 = .ok (.iconst 2, 1) := by decide +kernel
theorem dL_law_314 : decode cL_law 314 = .ok (.iadd, 1) := by decide +kernel
theorem dL_law_315 : decode cL_law 315 = .ok (.iaload, 1) := by decide +kernel
theorem dL_law_316 : decode cL_law 316 = .ok (.invokevirtual 60, 3) := by decide +kernel
theorem dL_law_319 : decode cL_law 319 = .ok (.aload_n 2, 1) := by decide +kernel
theorem dL_law_320 : decode cL_law 320 = .ok (.aload_n 0, 1) := by decide +kernel
theorem dL_law_321 : decode cL_law 321 = .ok (.iload 4, 2) := by decide +kernel
theorem dL_law_323 : decode cL_law 323 = .ok (.iconst 1, 1) := by decide +kernel
theorem dL_law_324 : decode cL_law 324 = .ok (.iadd, 1) := by decide +kernel
theorem dL_law_325 : decode cL_law 325 = .ok (.iaload, 1) := by decide +kernel
theorem dL_law_326 : decode cL_law 326 = .ok (.aload_n 0, 1) := by decide +kernel
theorem dL_law_327 : decode cL_law 327 = .ok (.iload 4, 2) := by decide +kernel
theorem dL_law_329 : decode cL_law 329 = .ok (.iconst 2, 1) := by decide +kernel
theorem dL_law_330 : decode cL_law 330 = .ok (.iadd, 1) := by decide +kernel
theorem dL_law_331 : decode cL_law 331 = .ok (.iaload, 1) := by decide +kernel
theorem dL_law_332 : decode cL_law 332 = .ok (.invokevirtual 64, 3) := by decide +kernel
theorem dL_law_335 : decode cL_law 335 = .ok (.if_icmp .eq 81, 3) := by decide +kernel
theorem dL_law_338 : decode cL_law 338 = .ok (.iconst 0, 1) := by decide +kernel
theorem dL_law_339 : decode cL_law 339 = .ok (.ireturn, 1) := by decide +kernel
theorem dL_law_340 : decode cL_law 340 = .ok (.aload_n 1, 1) := by decide +kernel
theorem dL_law_341 : decode cL_law 341 = .ok (.invokevirtual 65, 3) := by decide +kernel
theorem dL_law_344 : decode cL_law 344 = .ok (.aload_n 2, 1) := by decide +kernel
theorem dL_law_345 : decode cL_law 345 = .ok (.invokevirtual 68, 3) := by decide +kernel
theorem dL_law_348 : decode cL_law 348 = .ok (.if_icmp .eq 68, 3) := by decide +kernel
theorem dL_law_351 : decode cL_law 351 = .ok (.iconst 0, 1) := by decide +kernel
theorem dL_law_352 : decode cL_law 352 = .ok (.ireturn, 1) := by decide +kernel
theorem dL_law_353 : decode cL_law 353 = .ok (.aload_n 1, 1) := by decide +kernel
theorem dL_law_354 : decode cL_law 354 = .ok (.invokevirtual 69, 3) := by decide +kernel
theorem dL_law_357 : decode cL_law 357 = .ok (.aload_n 2, 1) := by decide +kernel
theorem dL_law_358 : decode cL_law 358 = .ok (.invokevirtual 72, 3) := by decide +kernel
theorem dL_law_361 : decode cL_law 361 = .ok (.if_icmp .eq 55, 3) := by decide +kernel
theorem dL_law_364 : decode cL_law 364 = .ok (.iconst 0, 1) := by decide +kernel
theorem dL_law_365 : decode cL_law 365 = .ok (.ireturn, 1) := by decide +kernel
theorem dL_law_366 : decode cL_law 366 = .ok (.aload_n 1, 1) := by decide +kernel
theorem dL_law_367 : decode cL_law 367 = .ok (.aload_n 0, 1) := by decide +kernel
theorem dL_law_368 : decode cL_law 368 = .ok (.iload 4, 2) := by decide +kernel
theorem dL_law_370 : decode cL_law 370 = .ok (.iconst 1, 1) := by decide +kernel
theorem dL_law_371 : decode cL_law 371 = .ok (.iadd, 1) := by decide +kernel
theorem dL_law_372 : decode cL_law 372 = .ok (.iaload, 1) := by decide +kernel
theorem dL_law_373 : decode cL_law 373 = .ok (.invokevirtual 73, 3) := by decide +kernel
theorem dL_law_376 : decode cL_law 376 = .ok (.aload_n 2, 1) := by decide +kernel
theorem dL_law_377 : decode cL_law 377 = .ok (.aload_n 0, 1) := by decide +kernel
theorem dL_law_378 : decode cL_law 378 = .ok (.iload 4, 2) := by decide +kernel
theorem dL_law_380 : decode cL_law 380 = .ok (.iconst 1, 1) := by decide +kernel
theorem dL_law_381 : decode cL_law 381 = .ok (.iadd, 1) := by decide +kernel
theorem dL_law_382 : decode cL_law 382 = .ok (.iaload, 1) := by decide +kernel
theorem dL_law_383 : decode cL_law 383 = .ok (.invokevirtual 76, 3) := by decide +kernel
theorem dL_law_386 : decode cL_law 386 = .ok (.if_icmp .eq 30, 3) := by decide +kernel
theorem dL_law_389 : decode cL_law 389 = .ok (.iconst 0, 1) := by decide +kernel
theorem dL_law_390 : decode cL_law 390 = .ok (.ireturn, 1) := by decide +kernel
theorem dL_law_391 : decode cL_law 391 = .ok (.aload_n 1, 1) := by decide +kernel
theorem dL_law_392 : decode cL_law 392 = .ok (.aload_n 0, 1) := by decide +kernel
theorem dL_law_393 : decode cL_law 393 = .ok (.iload 4, 2) := by decide +kernel
theorem dL_law_395 : decode cL_law 395 = .ok (.iconst 1, 1) := by decide +kernel
theorem dL_law_396 : decode cL_law 396 = .ok (.iadd, 1) := by decide +kernel
theorem dL_law_397 : decode cL_law 397 = .ok (.iaload, 1) := by decide +kernel
theorem dL_law_398 : decode cL_law 398 = .ok (.invokevirtual 77, 3) := by decide +kernel
theorem dL_law_401 : decode cL_law 401 = .ok (.aload_n 2, 1) := by decide +kernel
theorem dL_law_402 : decode cL_law 402 = .ok (.aload_n 0, 1) := by decide +kernel
theorem dL_law_403 : decode cL_law 403 = .ok (.iload 4, 2) := by decide +kernel
theorem dL_law_405 : decode cL_law 405 = .ok (.iconst 1, 1) := by decide +kernel
theorem dL_law_406 : decode cL_law 406 = .ok (.iadd, 1) := by decide +kernel
theorem dL_law_407 : decode cL_law 407 = .ok (.iaload, 1) := by decide +kernel
theorem dL_law_408 : decode cL_law 408 = .ok (.invokevirtual 80, 3) := by decide +kernel
theorem dL_law_411 : decode cL_law 411 = .ok (.if_icmp .eq 5, 3) := by decide +kernel
theorem dL_law_414 : decode cL_law 414 = .ok (.iconst 0, 1) := by decide +kernel
theorem dL_law_415 : decode cL_law 415 = .ok (.ireturn, 1) := by decide +kernel
theorem dL_law_416 : decode cL_law 416 = .ok (.iinc 4 3, 3) := by decide +kernel
theorem dL_law_419 : decode cL_law 419 = .ok (.goto (-386), 3) := by decide +kernel
theorem dL_law_422 : decode cL_law 422 = .ok (.iconst 1, 1) := by decide +kernel
theorem dL_law_423 : decode cL_law 423 = .ok (.ireturn, 1) := by decide +kernel
end
section
theorem dX0_init_0 : decode cX0_init 0 = .ok (.aload_n 0, 1) := by decide +kernel
theorem dX0_init_1 : decode cX0_init 1 = .ok (.invokespecial 3, 3) := by decide +kernel
theorem dX0_init_4 : decode cX0_init 4 = .ok (.aload_n 0, 1) := by decide +kernel
theorem dX0_init_5 : decode cX0_init 5 = .ok (.bipush 6, 2) := by decide +kernel
theorem dX0_init_7 : decode cX0_init 7 = .ok (.newarray .int, 2) := by decide +kernel
theorem dX0_init_9 : decode cX0_init 9 = .ok (.putfield 9, 3) := by decide +kernel
theorem dX0_init_12 : decode cX0_init 12 = .ok (.return_, 1) := by decide +kernel
theorem dX0_addLine_0 : decode cX0_addLine 0 = .ok (.aload_n 0, 1) := by decide +kernel
theorem dX0_addLine_1 : decode cX0_addLine 1 = .ok (.getfield 15, 3) := by decide +kernel
theorem dX0_addLine_4 : decode cX0_addLine 4 = .ok (.aload_n 0, 1) := by decide +kernel
theorem dX0_addLine_5 : decode cX0_addLine 5 = .ok (.getfield 9, 3) := by decide +kernel
theorem dX0_addLine_8 : decode cX0_addLine 8 = .ok (.arraylength, 1) := by decide +kernel
theorem dX0_addLine_9 : decode cX0_addLine 9 = .ok (.if_icmp .ge 23, 3) := by decide +kernel
theorem dX0_addLine_12 : decode cX0_addLine 12 = .ok (.aload_n 0, 1) := by decide +kernel
theorem dX0_addLine_13 : decode cX0_addLine 13 = .ok (.getfield 9, 3) := by decide +kernel
theorem dX0_addLine_16 : decode cX0_addLine 16 = .ok (.aload_n 0, 1) := by decide +kernel
theorem dX0_addLine_17 : decode cX0_addLine 17 = .ok (.getfield 15, 3) := by decide +kernel
theorem dX0_addLine_20 : decode cX0_addLine 20 = .ok (.iload_n 1, 1) := by decide +kernel
theorem dX0_addLine_21 : decode cX0_addLine 21 = .ok (.iastore, 1) := by decide +kernel
theorem dX0_addLine_22 : decode cX0_addLine 22 = .ok (.aload_n 0, 1) := by decide +kernel
theorem dX0_addLine_23 : decode cX0_addLine 23 = .ok (.dup, 1) := by decide +kernel
theorem dX0_addLine_24 : decode cX0_addLine 24 = .ok (.getfield 15, 3) := by decide +kernel
theorem dX0_addLine_27 : decode cX0_addLine 27 = .ok (.iconst 1, 1) := by decide +kernel
theorem dX0_addLine_28 : decode cX0_addLine 28 = .ok (.iadd, 1) := by decide +kernel
theorem dX0_addLine_29 : decode cX0_addLine 29 = .ok (.putfield 15, 3) := by decide +kernel
theorem dX0_addLine_32 : decode cX0_addLine 32 = .ok (.return_, 1) := by decide +kernel
theorem dX0_lineAt_0 : decode cX0_lineAt 0 = .ok (.iload_n 1, 1) := by decide +kernel
theorem dX0_lineAt_1 : decode cX0_lineAt 1 = .ok (.ifCond .lt 29, 3) := by decide +kernel
theorem dX0_lineAt_4 : decode cX0_lineAt 4 = .ok (.iload_n 1, 1) := by decide +kernel
theorem dX0_lineAt_5 : decode cX0_lineAt 5 = .ok (.aload_n 0, 1) := by decide +kernel
theorem dX0_lineAt_6 : decode cX0_lineAt 6 = .ok (.getfield 15, 3) := by decide +kernel
theorem dX0_lineAt_9 : decode cX0_lineAt 9 = .ok (.if_icmp .ge 21, 3) := by decide +kernel
theorem dX0_lineAt_12 : decode cX0_lineAt 12 = .ok (.iload_n 1, 1) := by decide +kernel
theorem dX0_lineAt_13 : decode cX0_lineAt 13 = .ok (.aload_n 0, 1) := by decide +kernel
theorem dX0_lineAt_14 : decode cX0_lineAt 14 = .ok (.getfield 9, 3) := by decide +kernel
theorem dX0_lineAt_17 : decode cX0_lineAt 17 = .ok (.arraylength, 1) := by decide +kernel
theorem dX0_lineAt_18 : decode cX0_lineAt 18 = .ok (.if_icmp .ge 12, 3) := by decide +kernel
theorem dX0_lineAt_21 : decode cX0_lineAt 21 = .ok (.aload_n 0, 1) := by decide +kernel
theorem dX0_lineAt_22 : decode cX0_lineAt 22 = .ok (.getfield 9, 3) := by decide +kernel
theorem dX0_lineAt_25 : decode cX0_lineAt 25 = .ok (.iload_n 1, 1) := by decide +kernel
theorem dX0_lineAt_26 : decode cX0_lineAt 26 = .ok (.iaload, 1) := by decide +kernel
theorem dX0_lineAt_27 : decode cX0_lineAt 27 = .ok (.goto 4, 3) := by decide +kernel
theorem dX0_lineAt_30 : decode cX0_lineAt 30 = .ok (.iconst (-1), 1) := by decide +kernel
theorem dX0_lineAt_31 : decode cX0_lineAt 31 = .ok (.ireturn, 1) := by decide +kernel
theorem dX0_partCount_0 : decode cX0_partCount 0 = .ok (.aload_n 0, 1) := by decide +kernel
theorem dX0_partCount_1 : decode cX0_partCount 1 = .ok (.getfield 19, 3) := by decide +kernel
theorem dX0_partCount_4 : decode cX0_partCount 4 = .ok (.ifCond .le 12, 3) := by decide +kernel
theorem dX0_partCount_7 : decode cX0_partCount 7 = .ok (.aload_n 0, 1) := by decide +kernel
theorem dX0_partCount_8 : decode cX0_partCount 8 = .ok (.getfield 15, 3) := by decide +kernel
theorem dX0_partCount_11 : decode cX0_partCount 11 = .ok (.iconst 1, 1) := by decide +kernel
theorem dX0_partCount_12 : decode cX0_partCount 12 = .ok (.isub, 1) := by decide +kernel
theorem dX0_partCount_13 : decode cX0_partCount 13 = .ok (.goto 7, 3) := by decide +kernel
theorem dX0_partCount_16 : decode cX0_partCount 16 = .ok (.aload_n 0, 1) := by decide +kernel
theorem dX0_partCount_17 : decode cX0_partCount 17 = .ok (.getfield 15, 3) := by decide +kernel
theorem dX0_partCount_20 : decode cX0_partCount 20 = .ok (.ireturn, 1) := by decide +kernel
theorem dX0_capitalAt_0 : decode cX0_capitalAt 0 = .ok (.iload_n 1, 1) := by decide +kernel
theorem dX0_capitalAt_1 : decode cX0_capitalAt 1 = .ok (.ifCond .lt 11, 3) := by decide +kernel
theorem dX0_capitalAt_4 : decode cX0_capitalAt 4 = .ok (.iload_n 1, 1) := by decide +kernel
theorem dX0_capitalAt_5 : decode cX0_capitalAt 5 = .ok (.aload_n 0, 1) := by decide +kernel
theorem dX0_capitalAt_6 : decode cX0_capitalAt 6 = .ok (.getfield 19, 3) := by decide +kernel
theorem dX0_capitalAt_9 : decode cX0_capitalAt 9 = .ok (.if_icmp .le 5, 3) := by decide +kernel
theorem dX0_capitalAt_12 : decode cX0_capitalAt 12 = .ok (.iconst 0, 1) := by decide +kernel
theorem dX0_capitalAt_13 : decode cX0_capitalAt 13 = .ok (.ireturn, 1) := by decide +kernel
theorem dX0_capitalAt_14 : decode cX0_capitalAt 14 = .ok (.iload_n 1, 1) := by decide +kernel
theorem dX0_capitalAt_15 : decode cX0_capitalAt 15 = .ok (.aload_n 0, 1) := by decide +kernel
theorem dX0_capitalAt_16 : decode cX0_capitalAt 16 = .ok (.getfield 19, 3) := by decide +kernel
theorem dX0_capitalAt_19 : decode cX0_capitalAt 19 = .ok (.if_icmp .ne 8, 3) := by decide +kernel
theorem dX0_capitalAt_22 : decode cX0_capitalAt 22 = .ok (.aload_n 0, 1) := by decide +kernel
theorem dX0_capitalAt_23 : decode cX0_capitalAt 23 = .ok (.getfield 22, 3) := by decide +kernel
theorem dX0_capitalAt_26 : decode cX0_capitalAt 26 = .ok (.ireturn, 1) := by decide +kernel
theorem dX0_capitalAt_27 : decode cX0_capitalAt 27 = .ok (.aload_n 0, 1) := by decide +kernel
theorem dX0_capitalAt_28 : decode cX0_capitalAt 28 = .ok (.getfield 25, 3) := by decide +kernel
theorem dX0_capitalAt_31 : decode cX0_capitalAt 31 = .ok (.bipush 8, 2) := by decide +kernel
theorem dX0_capitalAt_33 : decode cX0_capitalAt 33 = .ok (.iconst 2, 1) := by decide +kernel
theorem dX0_capitalAt_34 : decode cX0_capitalAt 34 = .ok (.iload_n 1, 1) := by decide +kernel
theorem dX0_capitalAt_35 : decode cX0_capitalAt 35 = .ok (.isub, 1) := by decide +kernel
theorem dX0_capitalAt_36 : decode cX0_capitalAt 36 = .ok (.imul, 1) := by decide +kernel
theorem dX0_capitalAt_37 : decode cX0_capitalAt 37 = .ok (.ishr, 1) := by decide +kernel
theorem dX0_capitalAt_38 : decode cX0_capitalAt 38 = .ok (.sipush 255, 3) := by decide +kernel
theorem dX0_capitalAt_41 : decode cX0_capitalAt 41 = .ok (.iand, 1) := by decide +kernel
theorem dX0_capitalAt_42 : decode cX0_capitalAt 42 = .ok (.ireturn, 1) := by decide +kernel
theorem dX0_cutterAsWritten_0 : decode cX0_cutterAsWritten 0 = .ok (.aload_n 0, 1) := by decide +kernel
theorem dX0_cutterAsWritten_1 : decode cX0_cutterAsWritten 1 = .ok (.getfield 28, 3) := by decide +kernel
theorem dX0_cutterAsWritten_4 : decode cX0_cutterAsWritten 4 = .ok (.istore_n 1, 1) := by decide +kernel
theorem dX0_cutterAsWritten_5 : decode cX0_cutterAsWritten 5 = .ok (.aload_n 0, 1) := by decide +kernel
theorem dX0_cutterAsWritten_6 : decode cX0_cutterAsWritten 6 = .ok (.getfield 31, 3) := by decide +kernel
theorem dX0_cutterAsWritten_9 : decode cX0_cutterAsWritten 9 = .ok (.istore_n 2, 1) := by decide +kernel
theorem dX0_cutterAsWritten_10 : decode cX0_cutterAsWritten 10 = .ok (.iload_n 2, 1) := by decide +kernel
theorem dX0_cutterAsWritten_11 : decode cX0_cutterAsWritten 11 = .ok (.bipush 6, 2) := by decide +kernel
theorem dX0_cutterAsWritten_13 : decode cX0_cutterAsWritten 13 = .ok (.if_icmp .ge 14, 3) := by decide +kernel
theorem dX0_cutterAsWritten_16 : decode cX0_cutterAsWritten 16 = .ok (.iload_n 1, 1) := by decide +kernel
theorem dX0_cutterAsWritten_17 : decode cX0_cutterAsWritten 17 = .ok (.bipush 10, 2) := by decide +kernel
theorem dX0_cutterAsWritten_19 : decode cX0_cutterAsWritten 19 = .ok (.idiv, 1) := by decide +kernel
theorem dX0_cutterAsWritten_20 : decode cX0_cutterAsWritten 20 = .ok (.istore_n 1, 1) := by decide +kernel
theorem dX0_cutterAsWritten_21 : decode cX0_cutterAsWritten 21 = .ok (.iinc 2 1, 3) := by decide +kernel
theorem dX0_cutterAsWritten_24 : decode cX0_cutterAsWritten 24 = .ok (.goto (-14), 3) := by decide +kernel
theorem dX0_cutterAsWritten_27 : decode cX0_cutterAsWritten 27 = .ok (.iload_n 1, 1) := by decide +kernel
theorem dX0_cutterAsWritten_28 : decode cX0_cutterAsWritten 28 = .ok (.ireturn, 1) := by decide +kernel
theorem dX0_hasClassOf_0 : decode cX0_hasClassOf 0 = .ok (.aload_n 0, 1) := by decide +kernel
theorem dX0_hasClassOf_1 : decode cX0_hasClassOf 1 = .ok (.getfield 25, 3) := by decide +kernel
theorem dX0_hasClassOf_4 : decode cX0_hasClassOf 4 = .ok (.aload_n 1, 1) := by decide +kernel
theorem dX0_hasClassOf_5 : decode cX0_hasClassOf 5 = .ok (.getfield 25, 3) := by decide +kernel
theorem dX0_hasClassOf_8 : decode cX0_hasClassOf 8 = .ok (.if_icmp .ne 19, 3) := by decide +kernel
theorem dX0_hasClassOf_11 : decode cX0_hasClassOf 11 = .ok (.aload_n 0, 1) := by decide +kernel
theorem dX0_hasClassOf_12 : decode cX0_hasClassOf 12 = .ok (.getfield 34, 3) := by decide +kernel
theorem dX0_hasClassOf_15 : decode cX0_hasClassOf 15 = .ok (.aload_n 1, 1) := by decide +kernel
theorem dX0_hasClassOf_16 : decode cX0_hasClassOf 16 = .ok (.getfield 34, 3) := by decide +kernel
theorem dX0_hasClassOf_19 : decode cX0_hasClassOf 19 = .ok (.lcmp, 1) := by decide +kernel
theorem dX0_hasClassOf_20 : decode cX0_hasClassOf 20 = .ok (.ifCond .ne 7, 3) := by decide +kernel
theorem dX0_hasClassOf_23 : decode cX0_hasClassOf 23 = .ok (.iconst 1, 1) := by decide +kernel
theorem dX0_hasClassOf_24 : decode cX0_hasClassOf 24 = .ok (.goto 4, 3) := by decide +kernel
theorem dX0_hasClassOf_27 : decode cX0_hasClassOf 27 = .ok (.iconst 0, 1) := by decide +kernel
theorem dX0_hasClassOf_28 : decode cX0_hasClassOf 28 = .ok (.ireturn, 1) := by decide +kernel
end
section
theorem dX1_init_0 : decode cX1_init 0 = .ok (.aload_n 0, 1) := by decide +kernel
theorem dX1_init_1 : decode cX1_init 1 = .ok (.invokespecial 3, 3) := by decide +kernel
theorem dX1_init_4 : decode cX1_init 4 = .ok (.aload_n 0, 1) := by decide +kernel
theorem dX1_init_5 : decode cX1_init 5 = .ok (.bipush 60, 2) := by decide +kernel
theorem dX1_init_7 : decode cX1_init 7 = .ok (.newarray .int, 2) := by decide +kernel
theorem dX1_init_9 : decode cX1_init 9 = .ok (.putfield 9, 3) := by decide +kernel
theorem dX1_init_12 : decode cX1_init 12 = .ok (.aload_n 0, 1) := by decide +kernel
theorem dX1_init_13 : decode cX1_init 13 = .ok (.iload_n 1, 1) := by decide +kernel
theorem dX1_init_14 : decode cX1_init 14 = .ok (.putfield 15, 3) := by decide +kernel
theorem dX1_init_17 : decode cX1_init 17 = .ok (.return_, 1) := by decide +kernel
theorem dX1_collect_0 : decode cX1_collect 0 = .ok (.aload_n 0, 1) := by decide +kernel
theorem dX1_collect_1 : decode cX1_collect 1 = .ok (.getfield 19, 3) := by decide +kernel
theorem dX1_collect_4 : decode cX1_collect 4 = .ok (.aload_n 0, 1) := by decide +kernel
theorem dX1_collect_5 : decode cX1_collect 5 = .ok (.getfield 9, 3) := by decide +kernel
theorem dX1_collect_8 : decode cX1_collect 8 = .ok (.arraylength, 1) := by decide +kernel
theorem dX1_collect_9 : decode cX1_collect 9 = .ok (.if_icmp .ge 23, 3) := by decide +kernel
theorem dX1_collect_12 : decode cX1_collect 12 = .ok (.aload_n 0, 1) := by decide +kernel
theorem dX1_collect_13 : decode cX1_collect 13 = .ok (.getfield 9, 3) := by decide +kernel
theorem dX1_collect_16 : decode cX1_collect 16 = .ok (.aload_n 0, 1) := by decide +kernel
theorem dX1_collect_17 : decode cX1_collect 17 = .ok (.getfield 19, 3) := by decide +kernel
theorem dX1_collect_20 : decode cX1_collect 20 = .ok (.iload_n 1, 1) := by decide +kernel
theorem dX1_collect_21 : decode cX1_collect 21 = .ok (.iastore, 1) := by decide +kernel
theorem dX1_collect_22 : decode cX1_collect 22 = .ok (.aload_n 0, 1) := by decide +kernel
theorem dX1_collect_23 : decode cX1_collect 23 = .ok (.dup, 1) := by decide +kernel
theorem dX1_collect_24 : decode cX1_collect 24 = .ok (.getfield 19, 3) := by decide +kernel
theorem dX1_collect_27 : decode cX1_collect 27 = .ok (.iconst 1, 1) := by decide +kernel
theorem dX1_collect_28 : decode cX1_collect 28 = .ok (.iadd, 1) := by decide +kernel
theorem dX1_collect_29 : decode cX1_collect 29 = .ok (.putfield 19, 3) := by decide +kernel
theorem dX1_collect_32 : decode cX1_collect 32 = .ok (.return_, 1) := by decide +kernel
theorem dX1_forget_0 : decode cX1_forget 0 = .ok (.aload_n 0, 1) := by decide +kernel
theorem dX1_forget_1 : decode cX1_forget 1 = .ok (.iconst 0, 1) := by decide +kernel
theorem dX1_forget_2 : decode cX1_forget 2 = .ok (.putfield 19, 3) := by decide +kernel
theorem dX1_forget_5 : decode cX1_forget 5 = .ok (.return_, 1) := by decide +kernel
theorem dX1_place_0 : decode cX1_place 0 = .ok (.aload_n 0, 1) := by decide +kernel
theorem dX1_place_1 : decode cX1_place 1 = .ok (.getfield 23, 3) := by decide +kernel
theorem dX1_place_4 : decode cX1_place 4 = .ok (.ireturn, 1) := by decide +kernel
theorem dX1_readCollected_0 : decode cX1_readCollected 0 = .ok (.new 26, 3) := by decide +kernel
theorem dX1_readCollected_3 : decode cX1_readCollected 3 = .ok (.dup, 1) := by decide +kernel
theorem dX1_readCollected_4 : decode cX1_readCollected 4 = .ok (.invokespecial 28, 3) := by decide +kernel
theorem dX1_readCollected_7 : decode cX1_readCollected 7 = .ok (.astore_n 1, 1) := by decide +kernel
theorem dX1_readCollected_8 : decode cX1_readCollected 8 = .ok (.aload_n 0, 1) := by decide +kernel
theorem dX1_readCollected_9 : decode cX1_readCollected 9 = .ok (.iconst 0, 1) := by decide +kernel
theorem dX1_readCollected_10 : decode cX1_readCollected 10 = .ok (.putfield 23, 3) := by decide +kernel
theorem dX1_readCollected_13 : decode cX1_readCollected 13 = .ok (.aload_n 0, 1) := by decide +kernel
theorem dX1_readCollected_14 : decode cX1_readCollected 14 = .ok (.aload_n 1, 1) := by decide +kernel
theorem dX1_readCollected_15 : decode cX1_readCollected 15 = .ok (.invokevirtual 29, 3) := by decide +kernel
theorem dX1_readCollected_18 : decode cX1_readCollected 18 = .ok (.ifCond .eq 30, 3) := by decide +kernel
theorem dX1_readCollected_21 : decode cX1_readCollected 21 = .ok (.aload_n 0, 1) := by decide +kernel
theorem dX1_readCollected_22 : decode cX1_readCollected 22 = .ok (.invokevirtual 33, 3) := by decide +kernel
theorem dX1_readCollected_25 : decode cX1_readCollected 25 = .ok (.ifCond .eq 23, 3) := by decide +kernel
theorem dX1_readCollected_28 : decode cX1_readCollected 28 = .ok (.aload_n 0, 1) := by decide +kernel
theorem dX1_readCollected_29 : decode cX1_readCollected 29 = .ok (.aload_n 1, 1) := by decide +kernel
theorem dX1_readCollected_30 : decode cX1_readCollected 30 = .ok (.invokevirtual 37, 3) := by decide +kernel
theorem dX1_readCollected_33 : decode cX1_readCollected 33 = .ok (.ifCond .eq 15, 3) := by decide +kernel
theorem dX1_readCollected_36 : decode cX1_readCollected 36 = .ok (.aload_n 0, 1) := by decide +kernel
theorem dX1_readCollected_37 : decode cX1_readCollected 37 = .ok (.aload_n 1, 1) := by decide +kernel
theorem dX1_readCollected_38 : decode cX1_readCollected 38 = .ok (.invokevirtual 40, 3) := by decide +kernel
theorem dX1_readCollected_41 : decode cX1_readCollected 41 = .ok (.ifCond .eq 7, 3) := by decide +kernel
theorem dX1_readCollected_44 : decode cX1_readCollected 44 = .ok (.iconst 1, 1) := by decide +kernel
theorem dX1_readCollected_45 : decode cX1_readCollected 45 = .ok (.goto 4, 3) := by decide +kernel
theorem dX1_readCollected_48 : decode cX1_readCollected 48 = .ok (.iconst 0, 1) := by decide +kernel
theorem dX1_readCollected_49 : decode cX1_readCollected 49 = .ok (.istore_n 2, 1) := by decide +kernel
theorem dX1_readCollected_50 : decode cX1_readCollected 50 = .ok (.iload_n 2, 1) := by decide +kernel
theorem dX1_readCollected_51 : decode cX1_readCollected 51 = .ok (.ifCond .eq 7, 3) := by decide +kernel
theorem dX1_readCollected_54 : decode cX1_readCollected 54 = .ok (.aload_n 1, 1) := by decide +kernel
theorem dX1_readCollected_55 : decode cX1_readCollected 55 = .ok (.goto 4, 3) := by decide +kernel
theorem dX1_readCollected_58 : decode cX1_readCollected 58 = .ok (.aconst_null, 1) := by decide +kernel
theorem dX1_readCollected_59 : decode cX1_readCollected 59 = .ok (.areturn, 1) := by decide +kernel
theorem dX1_readClass_0 : decode cX1_readClass 0 = .ok (.aload_n 0, 1) := by decide +kernel
theorem dX1_readClass_1 : decode cX1_readClass 1 = .ok (.getfield 15, 3) := by decide +kernel
theorem dX1_readClass_4 : decode cX1_readClass 4 = .ok (.ifCond .eq 13, 3) := by decide +kernel
theorem dX1_readClass_7 : decode cX1_readClass 7 = .ok (.aload_n 0, 1) := by decide +kernel
theorem dX1_readClass_8 : decode cX1_readClass 8 = .ok (.aload_n 1, 1) := by decide +kernel
theorem dX1_readClass_9 : decode cX1_readClass 9 = .ok (.invokevirtual 43, 3) := by decide +kernel
theorem dX1_readClass_12 : decode cX1_readClass 12 = .ok (.ifCond .ne 5, 3) := by decide +kernel
theorem dX1_readClass_15 : decode cX1_readClass 15 = .ok (.iconst 0, 1) := by decide +kernel
theorem dX1_readClass_16 : decode cX1_readClass 16 = .ok (.ireturn, 1) := by decide +kernel
theorem dX1_readClass_17 : decode cX1_readClass 17 = .ok (.aload_n 0, 1) := by decide +kernel
theorem dX1_readClass_18 : decode cX1_readClass 18 = .ok (.getfield 23, 3) := by decide +kernel
theorem dX1_readClass_21 : decode cX1_readClass 21 = .ok (.istore_n 2, 1) := by decide +kernel
theorem dX1_readClass_22 : decode cX1_readClass 22 = .ok (.aload_n 0, 1) := by decide +kernel
theorem dX1_readClass_23 : decode cX1_readClass 23 = .ok (.getfield 15, 3) := by decide +kernel
theorem dX1_readClass_26 : decode cX1_readClass 26 = .ok (.ifCond .eq 12, 3) := by decide +kernel
theorem dX1_readClass_29 : decode cX1_readClass 29 = .ok (.aload_n 0, 1) := by decide +kernel
theorem dX1_readClass_30 : decode cX1_readClass 30 = .ok (.iconst 1, 1) := by decide +kernel
theorem dX1_readClass_31 : decode cX1_readClass 31 = .ok (.iconst 4, 1) := by decide +kernel
theorem dX1_readClass_32 : decode cX1_readClass 32 = .ok (.invokevirtual 46, 3) := by decide +kernel
theorem dX1_readClass_35 : decode cX1_readClass 35 = .ok (.goto 9, 3) := by decide +kernel
theorem dX1_readClass_38 : decode cX1_readClass 38 = .ok (.aload_n 0, 1) := by decide +kernel
theorem dX1_readClass_39 : decode cX1_readClass 39 = .ok (.iconst 3, 1) := by decide +kernel
theorem dX1_readClass_40 : decode cX1_readClass 40 = .ok (.iconst 3, 1) := by decide +kernel
theorem dX1_readClass_41 : decode cX1_readClass 41 = .ok (.invokevirtual 50, 3) := by decide +kernel
theorem dX1_readClass_44 : decode cX1_readClass 44 = .ok (.istore_n 3, 1) := by decide +kernel
theorem dX1_readClass_45 : decode cX1_readClass 45 = .ok (.aload_n 0, 1) := by decide +kernel
theorem dX1_readClass_46 : decode cX1_readClass 46 = .ok (.getfield 23, 3) := by decide +kernel
theorem dX1_readClass_49 : decode cX1_readClass 49 = .ok (.istore 4, 2) := by decide +kernel
theorem dX1_readClass_51 : decode cX1_readClass 51 = .ok (.aload_n 0, 1) := by decide +kernel
theorem dX1_readClass_52 : decode cX1_readClass 52 = .ok (.getfield 15, 3) := by decide +kernel
theorem dX1_readClass_55 : decode cX1_readClass 55 = .ok (.ifCond .eq 7, 3) := by decide +kernel
theorem dX1_readClass_58 : decode cX1_readClass 58 = .ok (.iconst 4, 1) := by decide +kernel
theorem dX1_readClass_59 : decode cX1_readClass 59 = .ok (.goto 5, 3) := by decide +kernel
theorem dX1_readClass_62 : decode cX1_readClass 62 = .ok (.bipush 9, 2) := by decide +kernel
theorem dX1_readClass_64 : decode cX1_readClass 64 = .ok (.istore 5, 2) := by decide +kernel
theorem dX1_readClass_66 : decode cX1_readClass 66 = .ok (.iload_n 3, 1) := by decide +kernel
theorem dX1_readClass_67 : decode cX1_readClass 67 = .ok (.ifCond .eq 12, 3) := by decide +kernel
theorem dX1_readClass_70 : decode cX1_readClass 70 = .ok (.aload_n 0, 1) := by decide +kernel
theorem dX1_readClass_71 : decode cX1_readClass 71 = .ok (.iload 5, 2) := by decide +kernel
theorem dX1_readClass_73 : decode cX1_readClass 73 = .ok (.invokevirtual 53, 3) := by decide +kernel
theorem dX1_readClass_76 : decode cX1_readClass 76 = .ok (.ifCond .ne 5, 3) := by decide +kernel
theorem dX1_readClass_79 : decode cX1_readClass 79 = .ok (.iconst 0, 1) := by decide +kernel
theorem dX1_readClass_80 : decode cX1_readClass 80 = .ok (.ireturn, 1) := by decide +kernel
theorem dX1_readClass_81 : decode cX1_readClass 81 = .ok (.aload_n 0, 1) := by decide +kernel
theorem dX1_readClass_82 : decode cX1_readClass 82 = .ok (.iload_n 2, 1) := by decide +kernel
theorem dX1_readClass_83 : decode cX1_readClass 83 = .ok (.iload 4, 2) := by decide +kernel
theorem dX1_readClass_85 : decode cX1_readClass 85 = .ok (.iload 4, 2) := by decide +kernel
theorem dX1_readClass_87 : decode cX1_readClass 87 = .ok (.iload_n 2, 1) := by decide +kernel
theorem dX1_readClass_88 : decode cX1_readClass 88 = .ok (.isub, 1) := by decide +kernel
theorem dX1_readClass_89 : decode cX1_readClass 89 = .ok (.invokevirtual 57, 3) := by decide +kernel
theorem dX1_readClass_92 : decode cX1_readClass 92 = .ok (.lstore 6, 2) := by decide +kernel
theorem dX1_readClass_94 : decode cX1_readClass 94 = .ok (.aload_n 1, 1) := by decide +kernel
theorem dX1_readClass_95 : decode cX1_readClass 95 = .ok (.lload 6, 2) := by decide +kernel
theorem dX1_readClass_97 : decode cX1_readClass 97 = .ok (.iload 5, 2) := by decide +kernel
theorem dX1_readClass_99 : decode cX1_readClass 99 = .ok (.invokestatic 61, 3) := by decide +kernel
theorem dX1_readClass_102 : decode cX1_readClass 102 = .ok (.lmul, 1) := by decide +kernel
theorem dX1_readClass_103 : decode cX1_readClass 103 = .ok (.aload_n 0, 1) := by decide +kernel
theorem dX1_readClass_104 : decode cX1_readClass 104 = .ok (.iload 4, 2) := by decide +kernel
theorem dX1_readClass_106 : decode cX1_readClass 106 = .ok (.iconst 1, 1) := by decide +kernel
theorem dX1_readClass_107 : decode cX1_readClass 107 = .ok (.iadd, 1) := by decide +kernel
theorem dX1_readClass_108 : decode cX1_readClass 108 = .ok (.aload_n 0, 1) := by decide +kernel
theorem dX1_readClass_109 : decode cX1_readClass 109 = .ok (.getfield 23, 3) := by decide +kernel
theorem dX1_readClass_112 : decode cX1_readClass 112 = .ok (.iload 5, 2) := by decide +kernel
theorem dX1_readClass_114 : decode cX1_readClass 114 = .ok (.invokevirtual 57, 3) := by decide +kernel
theorem dX1_readClass_117 : decode cX1_readClass 117 = .ok (.ladd, 1) := by decide +kernel
theorem dX1_readClass_118 : decode cX1_readClass 118 = .ok (.putfield 65, 3) := by decide +kernel
theorem dX1_readClass_121 : decode cX1_readClass 121 = .ok (.aload_n 1, 1) := by decide +kernel
theorem dX1_readClass_122 : decode cX1_readClass 122 = .ok (.aload_n 0, 1) := by decide +kernel
theorem dX1_readClass_123 : decode cX1_readClass 123 = .ok (.getfield 23, 3) := by decide +kernel
theorem dX1_readClass_126 : decode cX1_readClass 126 = .ok (.iload_n 2, 1) := by decide +kernel
theorem dX1_readClass_127 : decode cX1_readClass 127 = .ok (.isub, 1) := by decide +kernel
theorem dX1_readClass_128 : decode cX1_readClass 128 = .ok (.invokevirtual 69, 3) := by decide +kernel
theorem dX1_readClass_131 : decode cX1_readClass 131 = .ok (.iconst 1, 1) := by decide +kernel
theorem dX1_readClass_132 : decode cX1_readClass 132 = .ok (.ireturn, 1) := by decide +kernel
theorem dX1_readClassLetters_0 : decode cX1_readClassLetters 0 = .ok (.iconst 0, 1) := by decide +kernel
theorem dX1_readClassLetters_1 : decode cX1_readClassLetters 1 = .ok (.istore_n 2, 1) := by decide +kernel
theorem dX1_readClassLetters_2 : decode cX1_readClassLetters 2 = .ok (.aload_n 0, 1) := by decide +kernel
theorem dX1_readClassLetters_3 : decode cX1_readClassLetters 3 = .ok (.getfield 23, 3) := by decide +kernel
theorem dX1_readClassLetters_6 : decode cX1_readClassLetters 6 = .ok (.istore_n 3, 1) := by decide +kernel
theorem dX1_readClassLetters_7 : decode cX1_readClassLetters 7 = .ok (.iconst 0, 1) := by decide +kernel
theorem dX1_readClassLetters_8 : decode cX1_readClassLetters 8 = .ok (.istore 4, 2) := by decide +kernel
theorem dX1_readClassLetters_10 : decode cX1_readClassLetters 10 = .ok (.iload 4, 2) := by decide +kernel
theorem dX1_readClassLetters_12 : decode cX1_readClassLetters 12 = .ok (.iconst 3, 1) := by decide +kernel
theorem dX1_readClassLetters_13 : decode cX1_readClassLetters 13 = .ok (.if_icmp .ge 60, 3) := by decide +kernel
theorem dX1_readClassLetters_16 : decode cX1_readClassLetters 16 = .ok (.iload_n 2, 1) := by decide +kernel
theorem dX1_readClassLetters_17 : decode cX1_readClassLetters 17 = .ok (.bipush 8, 2) := by decide +kernel
theorem dX1_readClassLetters_19 : decode cX1_readClassLetters 19 = .ok (.ishl, 1) := by decide +kernel
theorem dX1_readClassLetters_20 : decode cX1_readClassLetters 20 = .ok (.istore_n 2, 1) := by decide +kernel
theorem dX1_readClassLetters_21 : decode cX1_readClassLetters 21 = .ok (.aload_n 0, 1) := by decide +kernel
theorem dX1_readClassLetters_22 : decode cX1_readClassLetters 22 = .ok (.getfield 23, 3) := by decide +kernel
theorem dX1_readClassLetters_25 : decode cX1_readClassLetters 25 = .ok (.iload_n 3, 1) := by decide +kernel
theorem dX1_readClassLetters_26 : decode cX1_readClassLetters 26 = .ok (.iload 4, 2) := by decide +kernel
theorem dX1_readClassLetters_28 : decode cX1_readClassLetters 28 = .ok (.iadd, 1) := by decide +kernel
theorem dX1_readClassLetters_29 : decode cX1_readClassLetters 29 = .ok (.if_icmp .ne 38, 3) := by decide +kernel
theorem dX1_readClassLetters_32 : decode cX1_readClassLetters 32 = .ok (.aload_n 0, 1) := by decide +kernel
theorem dX1_readClassLetters_33 : decode cX1_readClassLetters 33 = .ok (.aload_n 0, 1) := by decide +kernel
theorem dX1_readClassLetters_34 : decode cX1_readClassLetters 34 = .ok (.getfield 23, 3) := by decide +kernel
theorem dX1_readClassLetters_37 : decode cX1_readClassLetters 37 = .ok (.invokevirtual 73, 3) := by decide +kernel
theorem dX1_readClassLetters_40 : decode cX1_readClassLetters 40 = .ok (.invokestatic 77, 3) := by decide +kernel
theorem dX1_readClassLetters_43 : decode cX1_readClassLetters 43 = .ok (.ifCond .eq 24, 3) := by decide +kernel
theorem dX1_readClassLetters_46 : decode cX1_readClassLetters 46 = .ok (.iload_n 2, 1) := by decide +kernel
theorem dX1_readClassLetters_47 : decode cX1_readClassLetters 47 = .ok (.aload_n 0, 1) := by decide +kernel
theorem dX1_readClassLetters_48 : decode cX1_readClassLetters 48 = .ok (.aload_n 0, 1) := by decide +kernel
theorem dX1_readClassLetters_49 : decode cX1_readClassLetters 49 = .ok (.getfield 23, 3) := by decide +kernel
theorem dX1_readClassLetters_52 : decode cX1_readClassLetters 52 = .ok (.invokevirtual 73, 3) := by decide +kernel
theorem dX1_readClassLetters_55 : decode cX1_readClassLetters 55 = .ok (.ior, 1) := by decide +kernel
theorem dX1_readClassLetters_56 : decode cX1_readClassLetters 56 = .ok (.istore_n 2, 1) := by decide +kernel
theorem dX1_readClassLetters_57 : decode cX1_readClassLetters 57 = .ok (.aload_n 0, 1) := by decide +kernel
theorem dX1_readClassLetters_58 : decode cX1_readClassLetters 58 = .ok (.dup, 1) := by decide +kernel
theorem dX1_readClassLetters_59 : decode cX1_readClassLetters 59 = .ok (.getfield 23, 3) := by decide +kernel
theorem dX1_readClassLetters_62 : decode cX1_readClassLetters 62 = .ok (.iconst 1, 1) := by decide +kernel
theorem dX1_readClassLetters_63 : decode cX1_readClassLetters 63 = .ok (.iadd, 1) := by decide +kernel
theorem dX1_readClassLetters_64 : decode cX1_readClassLetters 64 = .ok (.putfield 23, 3) := by decide +kernel
theorem dX1_readClassLetters_67 : decode cX1_readClassLetters 67 = .ok (.iinc 4 1, 3) := by decide +kernel
theorem dX1_readClassLetters_70 : decode cX1_readClassLetters 70 = .ok (.goto (-60), 3) := by decide +kernel
theorem dX1_readClassLetters_73 : decode cX1_readClassLetters 73 = .ok (.aload_n 1, 1) := by decide +kernel
theorem dX1_readClassLetters_74 : decode cX1_readClassLetters 74 = .ok (.iload_n 2, 1) := by decide +kernel
theorem dX1_readClassLetters_75 : decode cX1_readClassLetters 75 = .ok (.putfield 80, 3) := by decide +kernel
theorem dX1_readClassLetters_78 : decode cX1_readClassLetters 78 = .ok (.aload_n 1, 1) := by decide +kernel
theorem dX1_readClassLetters_79 : decode cX1_readClassLetters 79 = .ok (.aload_n 0, 1) := by decide +kernel
theorem dX1_readClassLetters_80 : decode cX1_readClassLetters 80 = .ok (.getfield 23, 3) := by decide +kernel
theorem dX1_readClassLetters_83 : decode cX1_readClassLetters 83 = .ok (.iload_n 3, 1) := by decide +kernel
theorem dX1_readClassLetters_84 : decode cX1_readClassLetters 84 = .ok (.isub, 1) := by decide +kernel
theorem dX1_readClassLetters_85 : decode cX1_readClassLetters 85 = .ok (.putfield 83, 3) := by decide +kernel
theorem dX1_readClassLetters_88 : decode cX1_readClassLetters 88 = .ok (.aload_n 1, 1) := by decide +kernel
theorem dX1_readClassLetters_89 : decode cX1_readClassLetters 89 = .ok (.aload_n 0, 1) := by decide +kernel
theorem dX1_readClassLetters_90 : decode cX1_readClassLetters 90 = .ok (.getfield 23, 3) := by decide +kernel
theorem dX1_readClassLetters_93 : decode cX1_readClassLetters 93 = .ok (.iload_n 3, 1) := by decide +kernel
theorem dX1_readClassLetters_94 : decode cX1_readClassLetters 94 = .ok (.isub, 1) := by decide +kernel
theorem dX1_readClassLetters_95 : decode cX1_readClassLetters 95 = .ok (.invokevirtual 69, 3) := by decide +kernel
theorem dX1_readClassLetters_98 : decode cX1_readClassLetters 98 = .ok (.aload_n 0, 1) := by decide +kernel
theorem dX1_readClassLetters_99 : decode cX1_readClassLetters 99 = .ok (.getfield 23, 3) := by decide +kernel
theorem dX1_readClassLetters_102 : decode cX1_readClassLetters 102 = .ok (.iload_n 3, 1) := by decide +kernel
theorem dX1_readClassLetters_103 : decode cX1_readClassLetters 103 = .ok (.if_icmp .le 7, 3) := by decide +kernel
theorem dX1_readClassLetters_106 : decode cX1_readClassLetters 106 = .ok (.iconst 1, 1) := by decide +kernel
theorem dX1_readClassLetters_107 : decode cX1_readClassLetters 107 = .ok (.goto 4, 3) := by decide +kernel
theorem dX1_readClassLetters_110 : decode cX1_readClassLetters 110 = .ok (.iconst 0, 1) := by decide +kernel
theorem dX1_readClassLetters_111 : decode cX1_readClassLetters 111 = .ok (.ireturn, 1) := by decide +kernel
theorem dX1_readCutter_0 : decode cX1_readCutter 0 = .ok (.aload_n 0, 1) := by decide +kernel
theorem dX1_readCutter_1 : decode cX1_readCutter 1 = .ok (.getfield 23, 3) := by decide +kernel
theorem dX1_readCutter_4 : decode cX1_readCutter 4 = .ok (.istore_n 2, 1) := by decide +kernel
theorem dX1_readCutter_5 : decode cX1_readCutter 5 = .ok (.aload_n 0, 1) := by decide +kernel
theorem dX1_readCutter_6 : decode cX1_readCutter 6 = .ok (.iload_n 2, 1) := by decide +kernel
theorem dX1_readCutter_7 : decode cX1_readCutter 7 = .ok (.invokevirtual 73, 3) := by decide +kernel
theorem dX1_readCutter_10 : decode cX1_readCutter 10 = .ok (.invokestatic 77, 3) := by decide +kernel
theorem dX1_readCutter_13 : decode cX1_readCutter 13 = .ok (.ifCond .ne 5, 3) := by decide +kernel
theorem dX1_readCutter_16 : decode cX1_readCutter 16 = .ok (.iconst 0, 1) := by decide +kernel
theorem dX1_readCutter_17 : decode cX1_readCutter 17 = .ok (.ireturn, 1) := by decide +kernel
theorem dX1_readCutter_18 : decode cX1_readCutter 18 = .ok (.aload_n 0, 1) := by decide +kernel
theorem dX1_readCutter_19 : decode cX1_readCutter 19 = .ok (.dup, 1) := by decide +kernel
theorem dX1_readCutter_20 : decode cX1_readCutter 20 = .ok (.getfield 23, 3) := by decide +kernel
theorem dX1_readCutter_23 : decode cX1_readCutter 23 = .ok (.iconst 1, 1) := by decide +kernel
theorem dX1_readCutter_24 : decode cX1_readCutter 24 = .ok (.iadd, 1) := by decide +kernel
theorem dX1_readCutter_25 : decode cX1_readCutter 25 = .ok (.putfield 23, 3) := by decide +kernel
theorem dX1_readCutter_28 : decode cX1_readCutter 28 = .ok (.aload_n 0, 1) := by decide +kernel
theorem dX1_readCutter_29 : decode cX1_readCutter 29 = .ok (.bipush 6, 2) := by decide +kernel
theorem dX1_readCutter_31 : decode cX1_readCutter 31 = .ok (.invokevirtual 86, 3) := by decide +kernel
theorem dX1_readCutter_34 : decode cX1_readCutter 34 = .ok (.ifCond .ne 5, 3) := by decide +kernel
theorem dX1_readCutter_37 : decode cX1_readCutter 37 = .ok (.iconst 0, 1) := by decide +kernel
theorem dX1_readCutter_38 : decode cX1_readCutter 38 = .ok (.ireturn, 1) := by decide +kernel
theorem dX1_readCutter_39 : decode cX1_readCutter 39 = .ok (.aload_n 1, 1) := by decide +kernel
theorem dX1_readCutter_40 : decode cX1_readCutter 40 = .ok (.aload_n 0, 1) := by decide +kernel
theorem dX1_readCutter_41 : decode cX1_readCutter 41 = .ok (.iload_n 2, 1) := by decide +kernel
theorem dX1_readCutter_42 : decode cX1_readCutter 42 = .ok (.invokevirtual 73, 3) := by decide +kernel
theorem dX1_readCutter_45 : decode cX1_readCutter 45 = .ok (.putfield 89, 3) := by decide +kernel
theorem dX1_readCutter_48 : decode cX1_readCutter 48 = .ok (.aload_n 1, 1) := by decide +kernel
theorem dX1_readCutter_49 : decode cX1_readCutter 49 = .ok (.aload_n 0, 1) := by decide +kernel
theorem dX1_readCutter_50 : decode cX1_readCutter 50 = .ok (.iload_n 2, 1) := by decide +kernel
theorem dX1_readCutter_51 : decode cX1_readCutter 51 = .ok (.iconst 1, 1) := by decide +kernel
theorem dX1_readCutter_52 : decode cX1_readCutter 52 = .ok (.iadd, 1) := by decide +kernel
theorem dX1_readCutter_53 : decode cX1_readCutter 53 = .ok (.aload_n 0, 1) := by decide +kernel
theorem dX1_readCutter_54 : decode cX1_readCutter 54 = .ok (.getfield 23, 3) := by decide +kernel
theorem dX1_readCutter_57 : decode cX1_readCutter 57 = .ok (.bipush 6, 2) := by decide +kernel
theorem dX1_readCutter_59 : decode cX1_readCutter 59 = .ok (.invokevirtual 57, 3) := by decide +kernel
theorem dX1_readCutter_62 : decode cX1_readCutter 62 = .ok (.l2i, 1) := by decide +kernel
theorem dX1_readCutter_63 : decode cX1_readCutter 63 = .ok (.putfield 92, 3) := by decide +kernel
theorem dX1_readCutter_66 : decode cX1_readCutter 66 = .ok (.aload_n 1, 1) := by decide +kernel
theorem dX1_readCutter_67 : decode cX1_readCutter 67 = .ok (.aload_n 0, 1) := by decide +kernel
theorem dX1_readCutter_68 : decode cX1_readCutter 68 = .ok (.getfield 23, 3) := by decide +kernel
theorem dX1_readCutter_71 : decode cX1_readCutter 71 = .ok (.iload_n 2, 1) := by decide +kernel
theorem dX1_readCutter_72 : decode cX1_readCutter 72 = .ok (.isub, 1) := by decide +kernel
theorem dX1_readCutter_73 : decode cX1_readCutter 73 = .ok (.iconst 1, 1) := by decide +kernel
theorem dX1_readCutter_74 : decode cX1_readCutter 74 = .ok (.isub, 1) := by decide +kernel
theorem dX1_readCutter_75 : decode cX1_readCutter 75 = .ok (.putfield 95, 3) := by decide +kernel
theorem dX1_readCutter_78 : decode cX1_readCutter 78 = .ok (.aload_n 1, 1) := by decide +kernel
theorem dX1_readCutter_79 : decode cX1_readCutter 79 = .ok (.aload_n 0, 1) := by decide +kernel
theorem dX1_readCutter_80 : decode cX1_readCutter 80 = .ok (.getfield 23, 3) := by decide +kernel
theorem dX1_readCutter_83 : decode cX1_readCutter 83 = .ok (.iload_n 2, 1) := by decide +kernel
theorem dX1_readCutter_84 : decode cX1_readCutter 84 = .ok (.isub, 1) := by decide +kernel
theorem dX1_readCutter_85 : decode cX1_readCutter 85 = .ok (.invokevirtual 69, 3) := by decide +kernel
theorem dX1_readCutter_88 : decode cX1_readCutter 88 = .ok (.iconst 1, 1) := by decide +kernel
theorem dX1_readCutter_89 : decode cX1_readCutter 89 = .ok (.ireturn, 1) := by decide +kernel
theorem dX1_readRest_0 : decode cX1_readRest 0 = .ok (.iconst 1, 1) := by decide +kernel
theorem dX1_readRest_1 : decode cX1_readRest 1 = .ok (.istore_n 2, 1) := by decide +kernel
theorem dX1_readRest_2 : decode cX1_readRest 2 = .ok (.iconst 1, 1) := by decide +kernel
theorem dX1_readRest_3 : decode cX1_readRest 3 = .ok (.istore_n 3, 1) := by decide +kernel
theorem dX1_readRest_4 : decode cX1_readRest 4 = .ok (.iload_n 3, 1) := by decide +kernel
theorem dX1_readRest_5 : decode cX1_readRest 5 = .ok (.iconst 4, 1) := by decide +kernel
theorem dX1_readRest_6 : decode cX1_readRest 6 = .ok (.if_icmp .gt 88, 3) := by decide +kernel
theorem dX1_readRest_9 : decode cX1_readRest 9 = .ok (.aload_n 0, 1) := by decide +kernel
theorem dX1_readRest_10 : decode cX1_readRest 10 = .ok (.getfield 23, 3) := by decide +kernel
theorem dX1_readRest_13 : decode cX1_readRest 13 = .ok (.aload_n 0, 1) := by decide +kernel
theorem dX1_readRest_14 : decode cX1_readRest 14 = .ok (.getfield 19, 3) := by decide +kernel
theorem dX1_readRest_17 : decode cX1_readRest 17 = .ok (.if_icmp .ge 77, 3) := by decide +kernel
theorem dX1_readRest_20 : decode cX1_readRest 20 = .ok (.aload_n 0, 1) := by decide +kernel
theorem dX1_readRest_21 : decode cX1_readRest 21 = .ok (.invokevirtual 33, 3) := by decide +kernel
theorem dX1_readRest_24 : decode cX1_readRest 24 = .ok (.ifCond .ne 5, 3) := by decide +kernel
theorem dX1_readRest_27 : decode cX1_readRest 27 = .ok (.iconst 0, 1) := by decide +kernel
theorem dX1_readRest_28 : decode cX1_readRest 28 = .ok (.ireturn, 1) := by decide +kernel
theorem dX1_readRest_29 : decode cX1_readRest 29 = .ok (.aload_n 0, 1) := by decide +kernel
theorem dX1_readRest_30 : decode cX1_readRest 30 = .ok (.invokevirtual 98, 3) := by decide +kernel
theorem dX1_readRest_33 : decode cX1_readRest 33 = .ok (.istore 4, 2) := by decide +kernel
theorem dX1_readRest_35 : decode cX1_readRest 35 = .ok (.iload 4, 2) := by decide +kernel
theorem dX1_readRest_37 : decode cX1_readRest 37 = .ok (.iload_n 2, 1) := by decide +kernel
theorem dX1_readRest_38 : decode cX1_readRest 38 = .ok (.if_icmp .gt 5, 3) := by decide +kernel
theorem dX1_readRest_41 : decode cX1_readRest 41 = .ok (.iconst 0, 1) := by decide +kernel
theorem dX1_readRest_42 : decode cX1_readRest 42 = .ok (.ireturn, 1) := by decide +kernel
theorem dX1_readRest_43 : decode cX1_readRest 43 = .ok (.iload 4, 2) := by decide +kernel
theorem dX1_readRest_45 : decode cX1_readRest 45 = .ok (.iconst 2, 1) := by decide +kernel
theorem dX1_readRest_46 : decode cX1_readRest 46 = .ok (.if_icmp .ne 11, 3) := by decide +kernel
theorem dX1_readRest_49 : decode cX1_readRest 49 = .ok (.aload_n 0, 1) := by decide +kernel
theorem dX1_readRest_50 : decode cX1_readRest 50 = .ok (.aload_n 1, 1) := by decide +kernel
theorem dX1_readRest_51 : decode cX1_readRest 51 = .ok (.invokevirtual 102, 3) := by decide +kernel
theorem dX1_readRest_54 : decode cX1_readRest 54 = .ok (.goto 22, 3) := by decide +kernel
theorem dX1_readRest_57 : decode cX1_readRest 57 = .ok (.iload 4, 2) := by decide +kernel
theorem dX1_readRest_59 : decode cX1_readRest 59 = .ok (.iconst 3, 1) := by decide +kernel
theorem dX1_readRest_60 : decode cX1_readRest 60 = .ok (.if_icmp .ne 11, 3) := by decide +kernel
theorem dX1_readRest_63 : decode cX1_readRest 63 = .ok (.aload_n 0, 1) := by decide +kernel
theorem dX1_readRest_64 : decode cX1_readRest 64 = .ok (.aload_n 1, 1) := by decide +kernel
theorem dX1_readRest_65 : decode cX1_readRest 65 = .ok (.invokevirtual 105, 3) := by decide +kernel
theorem dX1_readRest_68 : decode cX1_readRest 68 = .ok (.goto 8, 3) := by decide +kernel
theorem dX1_readRest_71 : decode cX1_readRest 71 = .ok (.aload_n 0, 1) := by decide +kernel
theorem dX1_readRest_72 : decode cX1_readRest 72 = .ok (.aload_n 1, 1) := by decide +kernel
theorem dX1_readRest_73 : decode cX1_readRest 73 = .ok (.invokevirtual 108, 3) := by decide +kernel
theorem dX1_readRest_76 : decode cX1_readRest 76 = .ok (.istore 5, 2) := by decide +kernel
theorem dX1_readRest_78 : decode cX1_readRest 78 = .ok (.iload 5, 2) := by decide +kernel
theorem dX1_readRest_80 : decode cX1_readRest 80 = .ok (.ifCond .ne 5, 3) := by decide +kernel
theorem dX1_readRest_83 : decode cX1_readRest 83 = .ok (.iconst 0, 1) := by decide +kernel
theorem dX1_readRest_84 : decode cX1_readRest 84 = .ok (.ireturn, 1) := by decide +kernel
theorem dX1_readRest_85 : decode cX1_readRest 85 = .ok (.iload 4, 2) := by decide +kernel
theorem dX1_readRest_87 : decode cX1_readRest 87 = .ok (.istore_n 2, 1) := by decide +kernel
theorem dX1_readRest_88 : decode cX1_readRest 88 = .ok (.iinc 3 1, 3) := by decide +kernel
theorem dX1_readRest_91 : decode cX1_readRest 91 = .ok (.goto (-87), 3) := by decide +kernel
theorem dX1_readRest_94 : decode cX1_readRest 94 = .ok (.aload_n 0, 1) := by decide +kernel
theorem dX1_readRest_95 : decode cX1_readRest 95 = .ok (.getfield 23, 3) := by decide +kernel
theorem dX1_readRest_98 : decode cX1_readRest 98 = .ok (.aload_n 0, 1) := by decide +kernel
theorem dX1_readRest_99 : decode cX1_readRest 99 = .ok (.getfield 19, 3) := by decide +kernel
theorem dX1_readRest_102 : decode cX1_readRest 102 = .ok (.if_icmp .lt 7, 3) := by decide +kernel
theorem dX1_readRest_105 : decode cX1_readRest 105 = .ok (.iconst 1, 1) := by decide +kernel
theorem dX1_readRest_106 : decode cX1_readRest 106 = .ok (.goto 4, 3) := by decide +kernel
theorem dX1_readRest_109 : decode cX1_readRest 109 = .ok (.iconst 0, 1) := by decide +kernel
theorem dX1_readRest_110 : decode cX1_readRest 110 = .ok (.ireturn, 1) := by decide +kernel
theorem dX1_partThatBegins_0 : decode cX1_partThatBegins 0 = .ok (.aload_n 0, 1) := by decide +kernel
theorem dX1_partThatBegins_1 : decode cX1_partThatBegins 1 = .ok (.aload_n 0, 1) := by decide +kernel
theorem dX1_partThatBegins_2 : decode cX1_partThatBegins 2 = .ok (.getfield 23, 3) := by decide +kernel
theorem dX1_partThatBegins_5 : decode cX1_partThatBegins 5 = .ok (.invokevirtual 73, 3) := by decide +kernel
theorem dX1_partThatBegins_8 : decode cX1_partThatBegins 8 = .ok (.istore_n 1, 1) := by decide +kernel
theorem dX1_partThatBegins_9 : decode cX1_partThatBegins 9 = .ok (.iload_n 1, 1) := by decide +kernel
theorem dX1_partThatBegins_10 : decode cX1_partThatBegins 10 = .ok (.invokestatic 111, 3) := by decide +kernel
theorem dX1_partThatBegins_13 : decode cX1_partThatBegins 13 = .ok (.ifCond .eq 5, 3) := by decide +kernel
theorem dX1_partThatBegins_16 : decode cX1_partThatBegins 16 = .ok (.iconst 2, 1) := by decide +kernel
theorem dX1_partThatBegins_17 : decode cX1_partThatBegins 17 = .ok (.ireturn, 1) := by decide +kernel
theorem dX1_partThatBegins_18 : decode cX1_partThatBegins 18 = .ok (.iload_n 1, 1) := by decide +kernel
theorem dX1_partThatBegins_19 : decode cX1_partThatBegins 19 = .ok (.bipush 118, 2) := by decide +kernel
theorem dX1_partThatBegins_21 : decode cX1_partThatBegins 21 = .ok (.if_icmp .ne 20, 3) := by decide +kernel
theorem dX1_partThatBegins_24 : decode cX1_partThatBegins 24 = .ok (.aload_n 0, 1) := by decide +kernel
theorem dX1_partThatBegins_25 : decode cX1_partThatBegins 25 = .ok (.aload_n 0, 1) := by decide +kernel
theorem dX1_partThatBegins_26 : decode cX1_partThatBegins 26 = .ok (.getfield 23, 3) := by decide +kernel
theorem dX1_partThatBegins_29 : decode cX1_partThatBegins 29 = .ok (.iconst 1, 1) := by decide +kernel
theorem dX1_partThatBegins_30 : decode cX1_partThatBegins 30 = .ok (.iadd, 1) := by decide +kernel
theorem dX1_partThatBegins_31 : decode cX1_partThatBegins 31 = .ok (.invokevirtual 73, 3) := by decide +kernel
theorem dX1_partThatBegins_34 : decode cX1_partThatBegins 34 = .ok (.bipush 46, 2) := by decide +kernel
theorem dX1_partThatBegins_36 : decode cX1_partThatBegins 36 = .ok (.if_icmp .ne 5, 3) := by decide +kernel
theorem dX1_partThatBegins_39 : decode cX1_partThatBegins 39 = .ok (.iconst 3, 1) := by decide +kernel
theorem dX1_partThatBegins_40 : decode cX1_partThatBegins 40 = .ok (.ireturn, 1) := by decide +kernel
theorem dX1_partThatBegins_41 : decode cX1_partThatBegins 41 = .ok (.iload_n 1, 1) := by decide +kernel
theorem dX1_partThatBegins_42 : decode cX1_partThatBegins 42 = .ok (.invokestatic 114, 3) := by decide +kernel
theorem dX1_partThatBegins_45 : decode cX1_partThatBegins 45 = .ok (.ifCond .eq 7, 3) := by decide +kernel
theorem dX1_partThatBegins_48 : decode cX1_partThatBegins 48 = .ok (.iconst 4, 1) := by decide +kernel
theorem dX1_partThatBegins_49 : decode cX1_partThatBegins 49 = .ok (.goto 4, 3) := by decide +kernel
theorem dX1_partThatBegins_52 : decode cX1_partThatBegins 52 = .ok (.iconst (-1), 1) := by decide +kernel
theorem dX1_partThatBegins_53 : decode cX1_partThatBegins 53 = .ok (.ireturn, 1) := by decide +kernel
theorem dX1_readYear_0 : decode cX1_readYear 0 = .ok (.aload_n 0, 1) := by decide +kernel
theorem dX1_readYear_1 : decode cX1_readYear 1 = .ok (.getfield 23, 3) := by decide +kernel
theorem dX1_readYear_4 : decode cX1_readYear 4 = .ok (.istore_n 2, 1) := by decide +kernel
theorem dX1_readYear_5 : decode cX1_readYear 5 = .ok (.aload_n 0, 1) := by decide +kernel
theorem dX1_readYear_6 : decode cX1_readYear 6 = .ok (.iconst 4, 1) := by decide +kernel
theorem dX1_readYear_7 : decode cX1_readYear 7 = .ok (.iconst 4, 1) := by decide +kernel
theorem dX1_readYear_8 : decode cX1_readYear 8 = .ok (.invokevirtual 46, 3) := by decide +kernel
theorem dX1_readYear_11 : decode cX1_readYear 11 = .ok (.ifCond .ne 5, 3) := by decide +kernel
theorem dX1_readYear_14 : decode cX1_readYear 14 = .ok (.iconst 0, 1) := by decide +kernel
theorem dX1_readYear_15 : decode cX1_readYear 15 = .ok (.ireturn, 1) := by decide +kernel
theorem dX1_readYear_16 : decode cX1_readYear 16 = .ok (.aload_n 1, 1) := by decide +kernel
theorem dX1_readYear_17 : decode cX1_readYear 17 = .ok (.aload_n 0, 1) := by decide +kernel
theorem dX1_readYear_18 : decode cX1_readYear 18 = .ok (.iload_n 2, 1) := by decide +kernel
theorem dX1_readYear_19 : decode cX1_readYear 19 = .ok (.aload_n 0, 1) := by decide +kernel
theorem dX1_readYear_20 : decode cX1_readYear 20 = .ok (.getfield 23, 3) := by decide +kernel
theorem dX1_readYear_23 : decode cX1_readYear 23 = .ok (.iconst 4, 1) := by decide +kernel
theorem dX1_readYear_24 : decode cX1_readYear 24 = .ok (.invokevirtual 57, 3) := by decide +kernel
theorem dX1_readYear_27 : decode cX1_readYear 27 = .ok (.l2i, 1) := by decide +kernel
theorem dX1_readYear_28 : decode cX1_readYear 28 = .ok (.putfield 117, 3) := by decide +kernel
theorem dX1_readYear_31 : decode cX1_readYear 31 = .ok (.aload_n 1, 1) := by decide +kernel
theorem dX1_readYear_32 : decode cX1_readYear 32 = .ok (.aload_n 0, 1) := by decide +kernel
theorem dX1_readYear_33 : decode cX1_readYear 33 = .ok (.getfield 23, 3) := by decide +kernel
theorem dX1_readYear_36 : decode cX1_readYear 36 = .ok (.iload_n 2, 1) := by decide +kernel
theorem dX1_readYear_37 : decode cX1_readYear 37 = .ok (.isub, 1) := by decide +kernel
theorem dX1_readYear_38 : decode cX1_readYear 38 = .ok (.invokevirtual 69, 3) := by decide +kernel
theorem dX1_readYear_41 : decode cX1_readYear 41 = .ok (.iconst 1, 1) := by decide +kernel
theorem dX1_readYear_42 : decode cX1_readYear 42 = .ok (.ireturn, 1) := by decide +kernel
theorem dX1_readVolume_0 : decode cX1_readVolume 0 = .ok (.aload_n 0, 1) := by decide +kernel
theorem dX1_readVolume_1 : decode cX1_readVolume 1 = .ok (.getfield 23, 3) := by decide +kernel
theorem dX1_readVolume_4 : decode cX1_readVolume 4 = .ok (.istore_n 2, 1) := by decide +kernel
theorem dX1_readVolume_5 : decode cX1_readVolume 5 = .ok (.iload_n 2, 1) := by decide +kernel
theorem dX1_readVolume_6 : decode cX1_readVolume 6 = .ok (.iconst 2, 1) := by decide +kernel
theorem dX1_readVolume_7 : decode cX1_readVolume 7 = .ok (.iadd, 1) := by decide +kernel
theorem dX1_readVolume_8 : decode cX1_readVolume 8 = .ok (.istore_n 3, 1) := by decide +kernel
theorem dX1_readVolume_9 : decode cX1_readVolume 9 = .ok (.aload_n 0, 1) := by decide +kernel
theorem dX1_readVolume_10 : decode cX1_readVolume 10 = .ok (.iload_n 3, 1) := by decide +kernel
theorem dX1_readVolume_11 : decode cX1_readVolume 11 = .ok (.putfield 23, 3) := by decide +kernel
theorem dX1_readVolume_14 : decode cX1_readVolume 14 = .ok (.aload_n 0, 1) := by decide +kernel
theorem dX1_readVolume_15 : decode cX1_readVolume 15 = .ok (.iconst 1, 1) := by decide +kernel
theorem dX1_readVolume_16 : decode cX1_readVolume 16 = .ok (.iconst 4, 1) := by decide +kernel
theorem dX1_readVolume_17 : decode cX1_readVolume 17 = .ok (.invokevirtual 46, 3) := by decide +kernel
theorem dX1_readVolume_20 : decode cX1_readVolume 20 = .ok (.ifCond .ne 5, 3) := by decide +kernel
theorem dX1_readVolume_23 : decode cX1_readVolume 23 = .ok (.iconst 0, 1) := by decide +kernel
theorem dX1_readVolume_24 : decode cX1_readVolume 24 = .ok (.ireturn, 1) := by decide +kernel
theorem dX1_readVolume_25 : decode cX1_readVolume 25 = .ok (.aload_n 1, 1) := by decide +kernel
theorem dX1_readVolume_26 : decode cX1_readVolume 26 = .ok (.aload_n 0, 1) := by decide +kernel
theorem dX1_readVolume_27 : decode cX1_readVolume 27 = .ok (.iload_n 3, 1) := by decide +kernel
theorem dX1_readVolume_28 : decode cX1_readVolume 28 = .ok (.aload_n 0, 1) := by decide +kernel
theorem dX1_readVolume_29 : decode cX1_readVolume 29 = .ok (.getfield 23, 3) := by decide +kernel
theorem dX1_readVolume_32 : decode cX1_readVolume 32 = .ok (.aload_n 0, 1) := by decide +kernel
theorem dX1_readVolume_33 : decode cX1_readVolume 33 = .ok (.getfield 23, 3) := by decide +kernel
theorem dX1_readVolume_36 : decode cX1_readVolume 36 = .ok (.iload_n 3, 1) := by decide +kernel
theorem dX1_readVolume_37 : decode cX1_readVolume 37 = .ok (.isub, 1) := by decide +kernel
theorem dX1_readVolume_38 : decode cX1_readVolume 38 = .ok (.invokevirtual 57, 3) := by decide +kernel
theorem dX1_readVolume_41 : decode cX1_readVolume 41 = .ok (.l2i, 1) := by decide +kernel
theorem dX1_readVolume_42 : decode cX1_readVolume 42 = .ok (.putfield 120, 3) := by decide +kernel
theorem dX1_readVolume_45 : decode cX1_readVolume 45 = .ok (.aload_n 0, 1) := by decide +kernel
theorem dX1_readVolume_46 : decode cX1_readVolume 46 = .ok (.aload_n 0, 1) := by decide +kernel
theorem dX1_readVolume_47 : decode cX1_readVolume 47 = .ok (.getfield 23, 3) := by decide +kernel
theorem dX1_readVolume_50 : decode cX1_readVolume 50 = .ok (.invokevirtual 73, 3) := by decide +kernel
theorem dX1_readVolume_53 : decode cX1_readVolume 53 = .ok (.invokestatic 114, 3) := by decide +kernel
theorem dX1_readVolume_56 : decode cX1_readVolume 56 = .ok (.ifCond .eq 25, 3) := by decide +kernel
theorem dX1_readVolume_59 : decode cX1_readVolume 59 = .ok (.aload_n 1, 1) := by decide +kernel
theorem dX1_readVolume_60 : decode cX1_readVolume 60 = .ok (.aload_n 0, 1) := by decide +kernel
theorem dX1_readVolume_61 : decode cX1_readVolume 61 = .ok (.aload_n 0, 1) := by decide +kernel
theorem dX1_readVolume_62 : decode cX1_readVolume 62 = .ok (.getfield 23, 3) := by decide +kernel
theorem dX1_readVolume_65 : decode cX1_readVolume 65 = .ok (.invokevirtual 73, 3) := by decide +kernel
theorem dX1_readVolume_68 : decode cX1_readVolume 68 = .ok (.putfield 123, 3) := by decide +kernel
theorem dX1_readVolume_71 : decode cX1_readVolume 71 = .ok (.aload_n 0, 1) := by decide +kernel
theorem dX1_readVolume_72 : decode cX1_readVolume 72 = .ok (.dup, 1) := by decide +kernel
theorem dX1_readVolume_73 : decode cX1_readVolume 73 = .ok (.getfield 23, 3) := by decide +kernel
theorem dX1_readVolume_76 : decode cX1_readVolume 76 = .ok (.iconst 1, 1) := by decide +kernel
theorem dX1_readVolume_77 : decode cX1_readVolume 77 = .ok (.iadd, 1) := by decide +kernel
theorem dX1_readVolume_78 : decode cX1_readVolume 78 = .ok (.putfield 23, 3) := by decide +kernel
theorem dX1_readVolume_81 : decode cX1_readVolume 81 = .ok (.aload_n 1, 1) := by decide +kernel
theorem dX1_readVolume_82 : decode cX1_readVolume 82 = .ok (.aload_n 0, 1) := by decide +kernel
theorem dX1_readVolume_83 : decode cX1_readVolume 83 = .ok (.getfield 23, 3) := by decide +kernel
theorem dX1_readVolume_86 : decode cX1_readVolume 86 = .ok (.iload_n 2, 1) := by decide +kernel
theorem dX1_readVolume_87 : decode cX1_readVolume 87 = .ok (.isub, 1) := by decide +kernel
theorem dX1_readVolume_88 : decode cX1_readVolume 88 = .ok (.invokevirtual 69, 3) := by decide +kernel
theorem dX1_readVolume_91 : decode cX1_readVolume 91 = .ok (.iconst 1, 1) := by decide +kernel
theorem dX1_readVolume_92 : decode cX1_readVolume 92 = .ok (.ireturn, 1) := by decide +kernel
theorem dX1_readMark_0 : decode cX1_readMark 0 = .ok (.aload_n 0, 1) := by decide +kernel
theorem dX1_readMark_1 : decode cX1_readMark 1 = .ok (.getfield 23, 3) := by decide +kernel
theorem dX1_readMark_4 : decode cX1_readMark 4 = .ok (.istore_n 2, 1) := by decide +kernel
theorem dX1_readMark_5 : decode cX1_readMark 5 = .ok (.lconst 0, 1) := by decide +kernel
theorem dX1_readMark_6 : decode cX1_readMark 6 = .ok (.lstore_n 3, 1) := by decide +kernel
theorem dX1_readMark_7 : decode cX1_readMark 7 = .ok (.iconst 0, 1) := by decide +kernel
theorem dX1_readMark_8 : decode cX1_readMark 8 = .ok (.istore 5, 2) := by decide +kernel
theorem dX1_readMark_10 : decode cX1_readMark 10 = .ok (.iload 5, 2) := by decide +kernel
theorem dX1_readMark_12 : decode cX1_readMark 12 = .ok (.bipush 8, 2) := by decide +kernel
theorem dX1_readMark_14 : decode cX1_readMark 14 = .ok (.if_icmp .ge 61, 3) := by decide +kernel
theorem dX1_readMark_17 : decode cX1_readMark 17 = .ok (.lload_n 3, 1) := by decide +kernel
theorem dX1_readMark_18 : decode cX1_readMark 18 = .ok (.bipush 8, 2) := by decide +kernel
theorem dX1_readMark_20 : decode cX1_readMark 20 = .ok (.lshl, 1) := by decide +kernel
theorem dX1_readMark_21 : decode cX1_readMark 21 = .ok (.lstore_n 3, 1) := by decide +kernel
theorem dX1_readMark_22 : decode cX1_readMark 22 = .ok (.aload_n 0, 1) := by decide +kernel
theorem dX1_readMark_23 : decode cX1_readMark 23 = .ok (.getfield 23, 3) := by decide +kernel
theorem dX1_readMark_26 : decode cX1_readMark 26 = .ok (.iload_n 2, 1) := by decide +kernel
theorem dX1_readMark_27 : decode cX1_readMark 27 = .ok (.iload 5, 2) := by decide +kernel
theorem dX1_readMark_29 : decode cX1_readMark 29 = .ok (.iadd, 1) := by decide +kernel
theorem dX1_readMark_30 : decode cX1_readMark 30 = .ok (.if_icmp .ne 39, 3) := by decide +kernel
theorem dX1_readMark_33 : decode cX1_readMark 33 = .ok (.aload_n 0, 1) := by decide +kernel
theorem dX1_readMark_34 : decode cX1_readMark 34 = .ok (.aload_n 0, 1) := by decide +kernel
theorem dX1_readMark_35 : decode cX1_readMark 35 = .ok (.getfield 23, 3) := by decide +kernel
theorem dX1_readMark_38 : decode cX1_readMark 38 = .ok (.invokevirtual 73, 3) := by decide +kernel
theorem dX1_readMark_41 : decode cX1_readMark 41 = .ok (.invokestatic 114, 3) := by decide +kernel
theorem dX1_readMark_44 : decode cX1_readMark 44 = .ok (.ifCond .eq 25, 3) := by decide +kernel
theorem dX1_readMark_47 : decode cX1_readMark 47 = .ok (.lload_n 3, 1) := by decide +kernel
theorem dX1_readMark_48 : decode cX1_readMark 48 = .ok (.aload_n 0, 1) := by decide +kernel
theorem dX1_readMark_49 : decode cX1_readMark 49 = .ok (.aload_n 0, 1) := by decide +kernel
theorem dX1_readMark_50 : decode cX1_readMark 50 = .ok (.getfield 23, 3) := by decide +kernel
theorem dX1_readMark_53 : decode cX1_readMark 53 = .ok (.invokevirtual 73, 3) := by decide +kernel
theorem dX1_readMark_56 : decode cX1_readMark 56 = .ok (.i2l, 1) := by decide +kernel
theorem dX1_readMark_57 : decode cX1_readMark 57 = .ok (.lor, 1) := by decide +kernel
theorem dX1_readMark_58 : decode cX1_readMark 58 = .ok (.lstore_n 3, 1) := by decide +kernel
theorem dX1_readMark_59 : decode cX1_readMark 59 = .ok (.aload_n 0, 1) := by decide +kernel
theorem dX1_readMark_60 : decode cX1_readMark 60 = .ok (.dup, 1) := by decide +kernel
theorem dX1_readMark_61 : decode cX1_readMark 61 = .ok (.getfield 23, 3) := by decide +kernel
theorem dX1_readMark_64 : decode cX1_readMark 64 = .ok (.iconst 1, 1) := by decide +kernel
theorem dX1_readMark_65 : decode cX1_readMark 65 = .ok (.iadd, 1) := by decide +kernel
theorem dX1_readMark_66 : decode cX1_readMark 66 = .ok (.putfield 23, 3) := by decide +kernel
theorem dX1_readMark_69 : decode cX1_readMark 69 = .ok (.iinc 5 1, 3) := by decide +kernel
theorem dX1_readMark_72 : decode cX1_readMark 72 = .ok (.goto (-62), 3) := by decide +kernel
theorem dX1_readMark_75 : decode cX1_readMark 75 = .ok (.aload_n 1, 1) := by decide +kernel
theorem dX1_readMark_76 : decode cX1_readMark 76 = .ok (.lload_n 3, 1) := by decide +kernel
theorem dX1_readMark_77 : decode cX1_readMark 77 = .ok (.putfield 126, 3) := by decide +kernel
theorem dX1_readMark_80 : decode cX1_readMark 80 = .ok (.aload_n 1, 1) := by decide +kernel
theorem dX1_readMark_81 : decode cX1_readMark 81 = .ok (.aload_n 0, 1) := by decide +kernel
theorem dX1_readMark_82 : decode cX1_readMark 82 = .ok (.getfield 23, 3) := by decide +kernel
theorem dX1_readMark_85 : decode cX1_readMark 85 = .ok (.iload_n 2, 1) := by decide +kernel
theorem dX1_readMark_86 : decode cX1_readMark 86 = .ok (.isub, 1) := by decide +kernel
theorem dX1_readMark_87 : decode cX1_readMark 87 = .ok (.putfield 129, 3) := by decide +kernel
theorem dX1_readMark_90 : decode cX1_readMark 90 = .ok (.aload_n 1, 1) := by decide +kernel
theorem dX1_readMark_91 : decode cX1_readMark 91 = .ok (.aload_n 0, 1) := by decide +kernel
theorem dX1_readMark_92 : decode cX1_readMark 92 = .ok (.getfield 23, 3) := by decide +kernel
theorem dX1_readMark_95 : decode cX1_readMark 95 = .ok (.iload_n 2, 1) := by decide +kernel
theorem dX1_readMark_96 : decode cX1_readMark 96 = .ok (.isub, 1) := by decide +kernel
theorem dX1_readMark_97 : decode cX1_readMark 97 = .ok (.invokevirtual 69, 3) := by decide +kernel
theorem dX1_readMark_100 : decode cX1_readMark 100 = .ok (.aload_n 0, 1) := by decide +kernel
theorem dX1_readMark_101 : decode cX1_readMark 101 = .ok (.getfield 23, 3) := by decide +kernel
theorem dX1_readMark_104 : decode cX1_readMark 104 = .ok (.iload_n 2, 1) := by decide +kernel
theorem dX1_readMark_105 : decode cX1_readMark 105 = .ok (.if_icmp .le 7, 3) := by decide +kernel
theorem dX1_readMark_108 : decode cX1_readMark 108 = .ok (.iconst 1, 1) := by decide +kernel
theorem dX1_readMark_109 : decode cX1_readMark 109 = .ok (.goto 4, 3) := by decide +kernel
theorem dX1_readMark_112 : decode cX1_readMark 112 = .ok (.iconst 0, 1) := by decide +kernel
theorem dX1_readMark_113 : decode cX1_readMark 113 = .ok (.ireturn, 1) := by decide +kernel
theorem dX1_readSpace_0 : decode cX1_readSpace 0 = .ok (.aload_n 0, 1) := by decide +kernel
theorem dX1_readSpace_1 : decode cX1_readSpace 1 = .ok (.aload_n 0, 1) := by decide +kernel
theorem dX1_readSpace_2 : decode cX1_readSpace 2 = .ok (.getfield 23, 3) := by decide +kernel
theorem dX1_readSpace_5 : decode cX1_readSpace 5 = .ok (.invokevirtual 73, 3) := by decide +kernel
theorem dX1_readSpace_8 : decode cX1_readSpace 8 = .ok (.bipush 32, 2) := by decide +kernel
theorem dX1_readSpace_10 : decode cX1_readSpace 10 = .ok (.if_icmp .eq 5, 3) := by decide +kernel
theorem dX1_readSpace_13 : decode cX1_readSpace 13 = .ok (.iconst 0, 1) := by decide +kernel
theorem dX1_readSpace_14 : decode cX1_readSpace 14 = .ok (.ireturn, 1) := by decide +kernel
theorem dX1_readSpace_15 : decode cX1_readSpace 15 = .ok (.aload_n 0, 1) := by decide +kernel
theorem dX1_readSpace_16 : decode cX1_readSpace 16 = .ok (.dup, 1) := by decide +kernel
theorem dX1_readSpace_17 : decode cX1_readSpace 17 = .ok (.getfield 23, 3) := by decide +kernel
theorem dX1_readSpace_20 : decode cX1_readSpace 20 = .ok (.iconst 1, 1) := by decide +kernel
theorem dX1_readSpace_21 : decode cX1_readSpace 21 = .ok (.iadd, 1) := by decide +kernel
theorem dX1_readSpace_22 : decode cX1_readSpace 22 = .ok (.putfield 23, 3) := by decide +kernel
theorem dX1_readSpace_25 : decode cX1_readSpace 25 = .ok (.iconst 1, 1) := by decide +kernel
theorem dX1_readSpace_26 : decode cX1_readSpace 26 = .ok (.ireturn, 1) := by decide +kernel
theorem dX1_readFraction_0 : decode cX1_readFraction 0 = .ok (.aload_n 0, 1) := by decide +kernel
theorem dX1_readFraction_1 : decode cX1_readFraction 1 = .ok (.aload_n 0, 1) := by decide +kernel
theorem dX1_readFraction_2 : decode cX1_readFraction 2 = .ok (.getfield 23, 3) := by decide +kernel
theorem dX1_readFraction_5 : decode cX1_readFraction 5 = .ok (.invokevirtual 73, 3) := by decide +kernel
theorem dX1_readFraction_8 : decode cX1_readFraction 8 = .ok (.bipush 46, 2) := by decide +kernel
theorem dX1_readFraction_10 : decode cX1_readFraction 10 = .ok (.if_icmp .eq 5, 3) := by decide +kernel
theorem dX1_readFraction_13 : decode cX1_readFraction 13 = .ok (.iconst 1, 1) := by decide +kernel
theorem dX1_readFraction_14 : decode cX1_readFraction 14 = .ok (.ireturn, 1) := by decide +kernel
theorem dX1_readFraction_15 : decode cX1_readFraction 15 = .ok (.aload_n 0, 1) := by decide +kernel
theorem dX1_readFraction_16 : decode cX1_readFraction 16 = .ok (.dup, 1) := by decide +kernel
theorem dX1_readFraction_17 : decode cX1_readFraction 17 = .ok (.getfield 23, 3) := by decide +kernel
theorem dX1_readFraction_20 : decode cX1_readFraction 20 = .ok (.iconst 1, 1) := by decide +kernel
theorem dX1_readFraction_21 : decode cX1_readFraction 21 = .ok (.iadd, 1) := by decide +kernel
theorem dX1_readFraction_22 : decode cX1_readFraction 22 = .ok (.putfield 23, 3) := by decide +kernel
theorem dX1_readFraction_25 : decode cX1_readFraction 25 = .ok (.aload_n 0, 1) := by decide +kernel
theorem dX1_readFraction_26 : decode cX1_readFraction 26 = .ok (.iload_n 1, 1) := by decide +kernel
theorem dX1_readFraction_27 : decode cX1_readFraction 27 = .ok (.invokevirtual 86, 3) := by decide +kernel
theorem dX1_readFraction_30 : decode cX1_readFraction 30 = .ok (.ireturn, 1) := by decide +kernel
theorem dX1_readDecimals_0 : decode cX1_readDecimals 0 = .ok (.aload_n 0, 1) := by decide +kernel
theorem dX1_readDecimals_1 : decode cX1_readDecimals 1 = .ok (.iconst 1, 1) := by decide +kernel
theorem dX1_readDecimals_2 : decode cX1_readDecimals 2 = .ok (.iload_n 1, 1) := by decide +kernel
theorem dX1_readDecimals_3 : decode cX1_readDecimals 3 = .ok (.invokevirtual 50, 3) := by decide +kernel
theorem dX1_readDecimals_6 : decode cX1_readDecimals 6 = .ok (.ifCond .ne 5, 3) := by decide +kernel
theorem dX1_readDecimals_9 : decode cX1_readDecimals 9 = .ok (.iconst 0, 1) := by decide +kernel
theorem dX1_readDecimals_10 : decode cX1_readDecimals 10 = .ok (.ireturn, 1) := by decide +kernel
theorem dX1_readDecimals_11 : decode cX1_readDecimals 11 = .ok (.aload_n 0, 1) := by decide +kernel
theorem dX1_readDecimals_12 : decode cX1_readDecimals 12 = .ok (.aload_n 0, 1) := by decide +kernel
theorem dX1_readDecimals_13 : decode cX1_readDecimals 13 = .ok (.getfield 23, 3) := by decide +kernel
theorem dX1_readDecimals_16 : decode cX1_readDecimals 16 = .ok (.iconst 1, 1) := by decide +kernel
theorem dX1_readDecimals_17 : decode cX1_readDecimals 17 = .ok (.isub, 1) := by decide +kernel
theorem dX1_readDecimals_18 : decode cX1_readDecimals 18 = .ok (.invokevirtual 73, 3) := by decide +kernel
theorem dX1_readDecimals_21 : decode cX1_readDecimals 21 = .ok (.bipush 48, 2) := by decide +kernel
theorem dX1_readDecimals_23 : decode cX1_readDecimals 23 = .ok (.if_icmp .ne 15, 3) := by decide +kernel
theorem dX1_readDecimals_26 : decode cX1_readDecimals 26 = .ok (.aload_n 0, 1) := by decide +kernel
theorem dX1_readDecimals_27 : decode cX1_readDecimals 27 = .ok (.dup, 1) := by decide +kernel
theorem dX1_readDecimals_28 : decode cX1_readDecimals 28 = .ok (.getfield 23, 3) := by decide +kernel
theorem dX1_readDecimals_31 : decode cX1_readDecimals 31 = .ok (.iconst 1, 1) := by decide +kernel
theorem dX1_readDecimals_32 : decode cX1_readDecimals 32 = .ok (.isub, 1) := by decide +kernel
theorem dX1_readDecimals_33 : decode cX1_readDecimals 33 = .ok (.putfield 23, 3) := by decide +kernel
theorem dX1_readDecimals_36 : decode cX1_readDecimals 36 = .ok (.iconst 0, 1) := by decide +kernel
theorem dX1_readDecimals_37 : decode cX1_readDecimals 37 = .ok (.ireturn, 1) := by decide +kernel
theorem dX1_readDecimals_38 : decode cX1_readDecimals 38 = .ok (.iconst 1, 1) := by decide +kernel
theorem dX1_readDecimals_39 : decode cX1_readDecimals 39 = .ok (.ireturn, 1) := by decide +kernel
theorem dX1_readNumber_0 : decode cX1_readNumber 0 = .ok (.aload_n 0, 1) := by decide +kernel
theorem dX1_readNumber_1 : decode cX1_readNumber 1 = .ok (.aload_n 0, 1) := by decide +kernel
theorem dX1_readNumber_2 : decode cX1_readNumber 2 = .ok (.getfield 23, 3) := by decide +kernel
theorem dX1_readNumber_5 : decode cX1_readNumber 5 = .ok (.invokevirtual 73, 3) := by decide +kernel
theorem dX1_readNumber_8 : decode cX1_readNumber 8 = .ok (.bipush 48, 2) := by decide +kernel
theorem dX1_readNumber_10 : decode cX1_readNumber 10 = .ok (.if_icmp .eq 16, 3) := by decide +kernel
theorem dX1_readNumber_13 : decode cX1_readNumber 13 = .ok (.aload_n 0, 1) := by decide +kernel
theorem dX1_readNumber_14 : decode cX1_readNumber 14 = .ok (.iload_n 1, 1) := by decide +kernel
theorem dX1_readNumber_15 : decode cX1_readNumber 15 = .ok (.iload_n 2, 1) := by decide +kernel
theorem dX1_readNumber_16 : decode cX1_readNumber 16 = .ok (.invokevirtual 50, 3) := by decide +kernel
theorem dX1_readNumber_19 : decode cX1_readNumber 19 = .ok (.ifCond .eq 7, 3) := by decide +kernel
theorem dX1_readNumber_22 : decode cX1_readNumber 22 = .ok (.iconst 1, 1) := by decide +kernel
theorem dX1_readNumber_23 : decode cX1_readNumber 23 = .ok (.goto 4, 3) := by decide +kernel
theorem dX1_readNumber_26 : decode cX1_readNumber 26 = .ok (.iconst 0, 1) := by decide +kernel
theorem dX1_readNumber_27 : decode cX1_readNumber 27 = .ok (.ireturn, 1) := by decide +kernel
theorem dX1_readDigits_0 : decode cX1_readDigits 0 = .ok (.iconst 0, 1) := by decide +kernel
theorem dX1_readDigits_1 : decode cX1_readDigits 1 = .ok (.istore_n 3, 1) := by decide +kernel
theorem dX1_readDigits_2 : decode cX1_readDigits 2 = .ok (.iconst 0, 1) := by decide +kernel
theorem dX1_readDigits_3 : decode cX1_readDigits 3 = .ok (.istore 4, 2) := by decide +kernel
theorem dX1_readDigits_5 : decode cX1_readDigits 5 = .ok (.iload 4, 2) := by decide +kernel
theorem dX1_readDigits_7 : decode cX1_readDigits 7 = .ok (.iload_n 2, 1) := by decide +kernel
theorem dX1_readDigits_8 : decode cX1_readDigits 8 = .ok (.if_icmp .ge 36, 3) := by decide +kernel
theorem dX1_readDigits_11 : decode cX1_readDigits 11 = .ok (.aload_n 0, 1) := by decide +kernel
theorem dX1_readDigits_12 : decode cX1_readDigits 12 = .ok (.aload_n 0, 1) := by decide +kernel
theorem dX1_readDigits_13 : decode cX1_readDigits 13 = .ok (.getfield 23, 3) := by decide +kernel
theorem dX1_readDigits_16 : decode cX1_readDigits 16 = .ok (.invokevirtual 73, 3) := by decide +kernel
theorem dX1_readDigits_19 : decode cX1_readDigits 19 = .ok (.invokestatic 111, 3) := by decide +kernel
theorem dX1_readDigits_22 : decode cX1_readDigits 22 = .ok (.ifCond .eq 22, 3) := by decide +kernel
theorem dX1_readDigits_25 : decode cX1_readDigits 25 = .ok (.iinc 3 1, 3) := by decide +kernel
theorem dX1_readDigits_28 : decode cX1_readDigits 28 = .ok (.aload_n 0, 1) := by decide +kernel
theorem dX1_readDigits_29 : decode cX1_readDigits 29 = .ok (.dup, 1) := by decide +kernel
theorem dX1_readDigits_30 : decode cX1_readDigits 30 = .ok (.getfield 23, 3) := by decide +kernel
theorem dX1_readDigits_33 : decode cX1_readDigits 33 = .ok (.iconst 1, 1) := by decide +kernel
theorem dX1_readDigits_34 : decode cX1_readDigits 34 = .ok (.iadd, 1) := by decide +kernel
theorem dX1_readDigits_35 : decode cX1_readDigits 35 = .ok (.putfield 23, 3) := by decide +kernel
theorem dX1_readDigits_38 : decode cX1_readDigits 38 = .ok (.iinc 4 1, 3) := by decide +kernel
theorem dX1_readDigits_41 : decode cX1_readDigits 41 = .ok (.goto (-36), 3) := by decide +kernel
theorem dX1_readDigits_44 : decode cX1_readDigits 44 = .ok (.iload_n 3, 1) := by decide +kernel
theorem dX1_readDigits_45 : decode cX1_readDigits 45 = .ok (.iload_n 1, 1) := by decide +kernel
theorem dX1_readDigits_46 : decode cX1_readDigits 46 = .ok (.if_icmp .lt 21, 3) := by decide +kernel
theorem dX1_readDigits_49 : decode cX1_readDigits 49 = .ok (.aload_n 0, 1) := by decide +kernel
theorem dX1_readDigits_50 : decode cX1_readDigits 50 = .ok (.aload_n 0, 1) := by decide +kernel
theorem dX1_readDigits_51 : decode cX1_readDigits 51 = .ok (.getfield 23, 3) := by decide +kernel
theorem dX1_readDigits_54 : decode cX1_readDigits 54 = .ok (.invokevirtual 73, 3) := by decide +kernel
theorem dX1_readDigits_57 : decode cX1_readDigits 57 = .ok (.invokestatic 111, 3) := by decide +kernel
theorem dX1_readDigits_60 : decode cX1_readDigits 60 = .ok (.ifCond .ne 7, 3) := by decide +kernel
theorem dX1_readDigits_63 : decode cX1_readDigits 63 = .ok (.iconst 1, 1) := by decide +kernel
theorem dX1_readDigits_64 : decode cX1_readDigits 64 = .ok (.goto 4, 3) := by decide +kernel
theorem dX1_readDigits_67 : decode cX1_readDigits 67 = .ok (.iconst 0, 1) := by decide +kernel
theorem dX1_readDigits_68 : decode cX1_readDigits 68 = .ok (.ireturn, 1) := by decide +kernel
theorem dX1_filledUp_0 : decode cX1_filledUp 0 = .ok (.lconst 0, 1) := by decide +kernel
theorem dX1_filledUp_1 : decode cX1_filledUp 1 = .ok (.lstore 4, 2) := by decide +kernel
theorem dX1_filledUp_3 : decode cX1_filledUp 3 = .ok (.iconst 0, 1) := by decide +kernel
theorem dX1_filledUp_4 : decode cX1_filledUp 4 = .ok (.istore 6, 2) := by decide +kernel
theorem dX1_filledUp_6 : decode cX1_filledUp 6 = .ok (.iload 6, 2) := by decide +kernel
theorem dX1_filledUp_8 : decode cX1_filledUp 8 = .ok (.iload_n 3, 1) := by decide +kernel
theorem dX1_filledUp_9 : decode cX1_filledUp 9 = .ok (.if_icmp .ge 46, 3) := by decide +kernel
theorem dX1_filledUp_12 : decode cX1_filledUp 12 = .ok (.iload_n 1, 1) := by decide +kernel
theorem dX1_filledUp_13 : decode cX1_filledUp 13 = .ok (.iload 6, 2) := by decide +kernel
theorem dX1_filledUp_15 : decode cX1_filledUp 15 = .ok (.iadd, 1) := by decide +kernel
theorem dX1_filledUp_16 : decode cX1_filledUp 16 = .ok (.iload_n 2, 1) := by decide +kernel
theorem dX1_filledUp_17 : decode cX1_filledUp 17 = .ok (.if_icmp .ge 17, 3) := by decide +kernel
theorem dX1_filledUp_20 : decode cX1_filledUp 20 = .ok (.aload_n 0, 1) := by decide +kernel
theorem dX1_filledUp_21 : decode cX1_filledUp 21 = .ok (.iload_n 1, 1) := by decide +kernel
theorem dX1_filledUp_22 : decode cX1_filledUp 22 = .ok (.iload 6, 2) := by decide +kernel
theorem dX1_filledUp_24 : decode cX1_filledUp 24 = .ok (.iadd, 1) := by decide +kernel
theorem dX1_filledUp_25 : decode cX1_filledUp 25 = .ok (.invokevirtual 73, 3) := by decide +kernel
theorem dX1_filledUp_28 : decode cX1_filledUp 28 = .ok (.bipush 48, 2) := by decide +kernel
theorem dX1_filledUp_30 : decode cX1_filledUp 30 = .ok (.isub, 1) := by decide +kernel
theorem dX1_filledUp_31 : decode cX1_filledUp 31 = .ok (.goto 4, 3) := by decide +kernel
theorem dX1_filledUp_34 : decode cX1_filledUp 34 = .ok (.iconst 0, 1) := by decide +kernel
theorem dX1_filledUp_35 : decode cX1_filledUp 35 = .ok (.istore 7, 2) := by decide +kernel
theorem dX1_filledUp_37 : decode cX1_filledUp 37 = .ok (.lload 4, 2) := by decide +kernel
theorem dX1_filledUp_39 : decode cX1_filledUp 39 = .ok (.ldc2_w 132, 3) := by decide +kernel
theorem dX1_filledUp_42 : decode cX1_filledUp 42 = .ok (.lmul, 1) := by decide +kernel
theorem dX1_filledUp_43 : decode cX1_filledUp 43 = .ok (.iload 7, 2) := by decide +kernel
theorem dX1_filledUp_45 : decode cX1_filledUp 45 = .ok (.i2l, 1) := by decide +kernel
theorem dX1_filledUp_46 : decode cX1_filledUp 46 = .ok (.ladd, 1) := by decide +kernel
theorem dX1_filledUp_47 : decode cX1_filledUp 47 = .ok (.lstore 4, 2) := by decide +kernel
theorem dX1_filledUp_49 : decode cX1_filledUp 49 = .ok (.iinc 6 1, 3) := by decide +kernel
theorem dX1_filledUp_52 : decode cX1_filledUp 52 = .ok (.goto (-46), 3) := by decide +kernel
theorem dX1_filledUp_55 : decode cX1_filledUp 55 = .ok (.lload 4, 2) := by decide +kernel
theorem dX1_filledUp_57 : decode cX1_filledUp 57 = .ok (.lreturn, 1) := by decide +kernel
theorem dX1_signAt_0 : decode cX1_signAt 0 = .ok (.iload_n 1, 1) := by decide +kernel
theorem dX1_signAt_1 : decode cX1_signAt 1 = .ok (.ifCond .lt 29, 3) := by decide +kernel
theorem dX1_signAt_4 : decode cX1_signAt 4 = .ok (.iload_n 1, 1) := by decide +kernel
theorem dX1_signAt_5 : decode cX1_signAt 5 = .ok (.aload_n 0, 1) := by decide +kernel
theorem dX1_signAt_6 : decode cX1_signAt 6 = .ok (.getfield 19, 3) := by decide +kernel
theorem dX1_signAt_9 : decode cX1_signAt 9 = .ok (.if_icmp .ge 21, 3) := by decide +kernel
theorem dX1_signAt_12 : decode cX1_signAt 12 = .ok (.iload_n 1, 1) := by decide +kernel
theorem dX1_signAt_13 : decode cX1_signAt 13 = .ok (.aload_n 0, 1) := by decide +kernel
theorem dX1_signAt_14 : decode cX1_signAt 14 = .ok (.getfield 9, 3) := by decide +kernel
theorem dX1_signAt_17 : decode cX1_signAt 17 = .ok (.arraylength, 1) := by decide +kernel
theorem dX1_signAt_18 : decode cX1_signAt 18 = .ok (.if_icmp .ge 12, 3) := by decide +kernel
theorem dX1_signAt_21 : decode cX1_signAt 21 = .ok (.aload_n 0, 1) := by decide +kernel
theorem dX1_signAt_22 : decode cX1_signAt 22 = .ok (.getfield 9, 3) := by decide +kernel
theorem dX1_signAt_25 : decode cX1_signAt 25 = .ok (.iload_n 1, 1) := by decide +kernel
theorem dX1_signAt_26 : decode cX1_signAt 26 = .ok (.iaload, 1) := by decide +kernel
theorem dX1_signAt_27 : decode cX1_signAt 27 = .ok (.goto 4, 3) := by decide +kernel
theorem dX1_signAt_30 : decode cX1_signAt 30 = .ok (.iconst (-1), 1) := by decide +kernel
theorem dX1_signAt_31 : decode cX1_signAt 31 = .ok (.ireturn, 1) := by decide +kernel
theorem dX1_isDigit_0 : decode cX1_isDigit 0 = .ok (.iload_n 0, 1) := by decide +kernel
theorem dX1_isDigit_1 : decode cX1_isDigit 1 = .ok (.bipush 48, 2) := by decide +kernel
theorem dX1_isDigit_3 : decode cX1_isDigit 3 = .ok (.if_icmp .lt 13, 3) := by decide +kernel
theorem dX1_isDigit_6 : decode cX1_isDigit 6 = .ok (.iload_n 0, 1) := by decide +kernel
theorem dX1_isDigit_7 : decode cX1_isDigit 7 = .ok (.bipush 57, 2) := by decide +kernel
theorem dX1_isDigit_9 : decode cX1_isDigit 9 = .ok (.if_icmp .gt 7, 3) := by decide +kernel
theorem dX1_isDigit_12 : decode cX1_isDigit 12 = .ok (.iconst 1, 1) := by decide +kernel
theorem dX1_isDigit_13 : decode cX1_isDigit 13 = .ok (.goto 4, 3) := by decide +kernel
theorem dX1_isDigit_16 : decode cX1_isDigit 16 = .ok (.iconst 0, 1) := by decide +kernel
theorem dX1_isDigit_17 : decode cX1_isDigit 17 = .ok (.ireturn, 1) := by decide +kernel
theorem dX1_isCapital_0 : decode cX1_isCapital 0 = .ok (.iload_n 0, 1) := by decide +kernel
theorem dX1_isCapital_1 : decode cX1_isCapital 1 = .ok (.bipush 65, 2) := by decide +kernel
theorem dX1_isCapital_3 : decode cX1_isCapital 3 = .ok (.if_icmp .lt 13, 3) := by decide +kernel
theorem dX1_isCapital_6 : decode cX1_isCapital 6 = .ok (.iload_n 0, 1) := by decide +kernel
theorem dX1_isCapital_7 : decode cX1_isCapital 7 = .ok (.bipush 90, 2) := by decide +kernel
theorem dX1_isCapital_9 : decode cX1_isCapital 9 = .ok (.if_icmp .gt 7, 3) := by decide +kernel
theorem dX1_isCapital_12 : decode cX1_isCapital 12 = .ok (.iconst 1, 1) := by decide +kernel
theorem dX1_isCapital_13 : decode cX1_isCapital 13 = .ok (.goto 4, 3) := by decide +kernel
theorem dX1_isCapital_16 : decode cX1_isCapital 16 = .ok (.iconst 0, 1) := by decide +kernel
theorem dX1_isCapital_17 : decode cX1_isCapital 17 = .ok (.ireturn, 1) := by decide +kernel
theorem dX1_isSmall_0 : decode cX1_isSmall 0 = .ok (.iload_n 0, 1) := by decide +kernel
theorem dX1_isSmall_1 : decode cX1_isSmall 1 = .ok (.bipush 97, 2) := by decide +kernel
theorem dX1_isSmall_3 : decode cX1_isSmall 3 = .ok (.if_icmp .lt 13, 3) := by decide +kernel
theorem dX1_isSmall_6 : decode cX1_isSmall 6 = .ok (.iload_n 0, 1) := by decide +kernel
theorem dX1_isSmall_7 : decode cX1_isSmall 7 = .ok (.bipush 122, 2) := by decide +kernel
theorem dX1_isSmall_9 : decode cX1_isSmall 9 = .ok (.if_icmp .gt 7, 3) := by decide +kernel
theorem dX1_isSmall_12 : decode cX1_isSmall 12 = .ok (.iconst 1, 1) := by decide +kernel
theorem dX1_isSmall_13 : decode cX1_isSmall 13 = .ok (.goto 4, 3) := by decide +kernel
theorem dX1_isSmall_16 : decode cX1_isSmall 16 = .ok (.iconst 0, 1) := by decide +kernel
theorem dX1_isSmall_17 : decode cX1_isSmall 17 = .ok (.ireturn, 1) := by decide +kernel
end
section
theorem dX2_init_0 : decode cX2_init 0 = .ok (.aload_n 0, 1) := by decide +kernel
theorem dX2_init_1 : decode cX2_init 1 = .ok (.invokespecial 3, 3) := by decide +kernel
theorem dX2_init_4 : decode cX2_init 4 = .ok (.aload_n 0, 1) := by decide +kernel
theorem dX2_init_5 : decode cX2_init 5 = .ok (.bipush 60, 2) := by decide +kernel
theorem dX2_init_7 : decode cX2_init 7 = .ok (.anewarray 9, 3) := by decide +kernel
theorem dX2_init_10 : decode cX2_init 10 = .ok (.putfield 11, 3) := by decide +kernel
theorem dX2_init_13 : decode cX2_init 13 = .ok (.aload_n 0, 1) := by decide +kernel
theorem dX2_init_14 : decode cX2_init 14 = .ok (.bipush 60, 2) := by decide +kernel
theorem dX2_init_16 : decode cX2_init 16 = .ok (.newarray .int, 2) := by decide +kernel
theorem dX2_init_18 : decode cX2_init 18 = .ok (.putfield 17, 3) := by decide +kernel
theorem dX2_init_21 : decode cX2_init 21 = .ok (.return_, 1) := by decide +kernel
theorem dX2_has_0 : decode cX2_has 0 = .ok (.iload_n 1, 1) := by decide +kernel
theorem dX2_has_1 : decode cX2_has 1 = .ok (.ifCond .lt 21, 3) := by decide +kernel
theorem dX2_has_4 : decode cX2_has 4 = .ok (.iload_n 1, 1) := by decide +kernel
theorem dX2_has_5 : decode cX2_has 5 = .ok (.aload_n 0, 1) := by decide +kernel
theorem dX2_has_6 : decode cX2_has 6 = .ok (.getfield 21, 3) := by decide +kernel
theorem dX2_has_9 : decode cX2_has 9 = .ok (.if_icmp .ge 13, 3) := by decide +kernel
theorem dX2_has_12 : decode cX2_has 12 = .ok (.iload_n 1, 1) := by decide +kernel
theorem dX2_has_13 : decode cX2_has 13 = .ok (.bipush 60, 2) := by decide +kernel
theorem dX2_has_15 : decode cX2_has 15 = .ok (.if_icmp .ge 7, 3) := by decide +kernel
theorem dX2_has_18 : decode cX2_has 18 = .ok (.iconst 1, 1) := by decide +kernel
theorem dX2_has_19 : decode cX2_has 19 = .ok (.goto 4, 3) := by decide +kernel
theorem dX2_has_22 : decode cX2_has 22 = .ok (.iconst 0, 1) := by decide +kernel
theorem dX2_has_23 : decode cX2_has 23 = .ok (.ireturn, 1) := by decide +kernel
theorem dX2_numberAt_0 : decode cX2_numberAt 0 = .ok (.aload_n 0, 1) := by decide +kernel
theorem dX2_numberAt_1 : decode cX2_numberAt 1 = .ok (.iload_n 1, 1) := by decide +kernel
theorem dX2_numberAt_2 : decode cX2_numberAt 2 = .ok (.invokevirtual 25, 3) := by decide +kernel
theorem dX2_numberAt_5 : decode cX2_numberAt 5 = .ok (.ifCond .eq 12, 3) := by decide +kernel
theorem dX2_numberAt_8 : decode cX2_numberAt 8 = .ok (.aload_n 0, 1) := by decide +kernel
theorem dX2_numberAt_9 : decode cX2_numberAt 9 = .ok (.getfield 11, 3) := by decide +kernel
theorem dX2_numberAt_12 : decode cX2_numberAt 12 = .ok (.iload_n 1, 1) := by decide +kernel
theorem dX2_numberAt_13 : decode cX2_numberAt 13 = .ok (.aaload, 1) := by decide +kernel
theorem dX2_numberAt_14 : decode cX2_numberAt 14 = .ok (.goto 4, 3) := by decide +kernel
theorem dX2_numberAt_17 : decode cX2_numberAt 17 = .ok (.aconst_null, 1) := by decide +kernel
theorem dX2_numberAt_18 : decode cX2_numberAt 18 = .ok (.areturn, 1) := by decide +kernel
theorem dX2_recordAt_0 : decode cX2_recordAt 0 = .ok (.aload_n 0, 1) := by decide +kernel
theorem dX2_recordAt_1 : decode cX2_recordAt 1 = .ok (.iload_n 1, 1) := by decide +kernel
theorem dX2_recordAt_2 : decode cX2_recordAt 2 = .ok (.invokevirtual 25, 3) := by decide +kernel
theorem dX2_recordAt_5 : decode cX2_recordAt 5 = .ok (.ifCond .eq 12, 3) := by decide +kernel
theorem dX2_recordAt_8 : decode cX2_recordAt 8 = .ok (.aload_n 0, 1) := by decide +kernel
theorem dX2_recordAt_9 : decode cX2_recordAt 9 = .ok (.getfield 17, 3) := by decide +kernel
theorem dX2_recordAt_12 : decode cX2_recordAt 12 = .ok (.iload_n 1, 1) := by decide +kernel
theorem dX2_recordAt_13 : decode cX2_recordAt 13 = .ok (.iaload, 1) := by decide +kernel
theorem dX2_recordAt_14 : decode cX2_recordAt 14 = .ok (.goto 4, 3) := by decide +kernel
theorem dX2_recordAt_17 : decode cX2_recordAt 17 = .ok (.iconst (-1), 1) := by decide +kernel
theorem dX2_recordAt_18 : decode cX2_recordAt 18 = .ok (.ireturn, 1) := by decide +kernel
theorem dX2_countBefore_0 : decode cX2_countBefore 0 = .ok (.iconst 0, 1) := by decide +kernel
theorem dX2_countBefore_1 : decode cX2_countBefore 1 = .ok (.istore_n 2, 1) := by decide +kernel
theorem dX2_countBefore_2 : decode cX2_countBefore 2 = .ok (.iconst 0, 1) := by decide +kernel
theorem dX2_countBefore_3 : decode cX2_countBefore 3 = .ok (.istore_n 3, 1) := by decide +kernel
theorem dX2_countBefore_4 : decode cX2_countBefore 4 = .ok (.iload_n 3, 1) := by decide +kernel
theorem dX2_countBefore_5 : decode cX2_countBefore 5 = .ok (.aload_n 0, 1) := by decide +kernel
theorem dX2_countBefore_6 : decode cX2_countBefore 6 = .ok (.getfield 21, 3) := by decide +kernel
theorem dX2_countBefore_9 : decode cX2_countBefore 9 = .ok (.if_icmp .ge 33, 3) := by decide +kernel
theorem dX2_countBefore_12 : decode cX2_countBefore 12 = .ok (.aload_n 0, 1) := by decide +kernel
theorem dX2_countBefore_13 : decode cX2_countBefore 13 = .ok (.iload_n 3, 1) := by decide +kernel
theorem dX2_countBefore_14 : decode cX2_countBefore 14 = .ok (.invokevirtual 29, 3) := by decide +kernel
theorem dX2_countBefore_17 : decode cX2_countBefore 17 = .ok (.astore 4, 2) := by decide +kernel
theorem dX2_countBefore_19 : decode cX2_countBefore 19 = .ok (.aload 4, 2) := by decide +kernel
theorem dX2_countBefore_21 : decode cX2_countBefore 21 = .ok (.ifnull 15, 3) := by decide +kernel
theorem dX2_countBefore_24 : decode cX2_countBefore 24 = .ok (.aload 4, 2) := by decide +kernel
theorem dX2_countBefore_26 : decode cX2_countBefore 26 = .ok (.aload_n 1, 1) := by decide +kernel
theorem dX2_countBefore_27 : decode cX2_countBefore 27 = .ok (.invokestatic 33, 3) := by decide +kernel
theorem dX2_countBefore_30 : decode cX2_countBefore 30 = .ok (.ifCond .ge 6, 3) := by decide +kernel
theorem dX2_countBefore_33 : decode cX2_countBefore 33 = .ok (.iinc 2 1, 3) := by decide +kernel
theorem dX2_countBefore_36 : decode cX2_countBefore 36 = .ok (.iinc 3 1, 3) := by decide +kernel
theorem dX2_countBefore_39 : decode cX2_countBefore 39 = .ok (.goto (-35), 3) := by decide +kernel
theorem dX2_countBefore_42 : decode cX2_countBefore 42 = .ok (.iload_n 2, 1) := by decide +kernel
theorem dX2_countBefore_43 : decode cX2_countBefore 43 = .ok (.ireturn, 1) := by decide +kernel
theorem dX2_isSameAt_0 : decode cX2_isSameAt 0 = .ok (.aload_n 0, 1) := by decide +kernel
theorem dX2_isSameAt_1 : decode cX2_isSameAt 1 = .ok (.iload_n 1, 1) := by decide +kernel
theorem dX2_isSameAt_2 : decode cX2_isSameAt 2 = .ok (.invokevirtual 29, 3) := by decide +kernel
theorem dX2_isSameAt_5 : decode cX2_isSameAt 5 = .ok (.astore_n 3, 1) := by decide +kernel
theorem dX2_isSameAt_6 : decode cX2_isSameAt 6 = .ok (.aload_n 3, 1) := by decide +kernel
theorem dX2_isSameAt_7 : decode cX2_isSameAt 7 = .ok (.ifnull 15, 3) := by decide +kernel
theorem dX2_isSameAt_10 : decode cX2_isSameAt 10 = .ok (.aload_n 3, 1) := by decide +kernel
theorem dX2_isSameAt_11 : decode cX2_isSameAt 11 = .ok (.aload_n 2, 1) := by decide +kernel
theorem dX2_isSameAt_12 : decode cX2_isSameAt 12 = .ok (.invokestatic 33, 3) := by decide +kernel
theorem dX2_isSameAt_15 : decode cX2_isSameAt 15 = .ok (.ifCond .ne 7, 3) := by decide +kernel
theorem dX2_isSameAt_18 : decode cX2_isSameAt 18 = .ok (.iconst 1, 1) := by decide +kernel
theorem dX2_isSameAt_19 : decode cX2_isSameAt 19 = .ok (.goto 4, 3) := by decide +kernel
theorem dX2_isSameAt_22 : decode cX2_isSameAt 22 = .ok (.iconst 0, 1) := by decide +kernel
theorem dX2_isSameAt_23 : decode cX2_isSameAt 23 = .ok (.ireturn, 1) := by decide +kernel
theorem dX2_insert_0 : decode cX2_insert 0 = .ok (.aload_n 0, 1) := by decide +kernel
theorem dX2_insert_1 : decode cX2_insert 1 = .ok (.getfield 21, 3) := by decide +kernel
theorem dX2_insert_4 : decode cX2_insert 4 = .ok (.bipush 60, 2) := by decide +kernel
theorem dX2_insert_6 : decode cX2_insert 6 = .ok (.if_icmp .ge 15, 3) := by decide +kernel
theorem dX2_insert_9 : decode cX2_insert 9 = .ok (.iload_n 1, 1) := by decide +kernel
theorem dX2_insert_10 : decode cX2_insert 10 = .ok (.ifCond .lt 11, 3) := by decide +kernel
theorem dX2_insert_13 : decode cX2_insert 13 = .ok (.iload_n 1, 1) := by decide +kernel
theorem dX2_insert_14 : decode cX2_insert 14 = .ok (.aload_n 0, 1) := by decide +kernel
theorem dX2_insert_15 : decode cX2_insert 15 = .ok (.getfield 21, 3) := by decide +kernel
theorem dX2_insert_18 : decode cX2_insert 18 = .ok (.if_icmp .le 5, 3) := by decide +kernel
theorem dX2_insert_21 : decode cX2_insert 21 = .ok (.iconst 0, 1) := by decide +kernel
theorem dX2_insert_22 : decode cX2_insert 22 = .ok (.ireturn, 1) := by decide +kernel
theorem dX2_insert_23 : decode cX2_insert 23 = .ok (.aload_n 0, 1) := by decide +kernel
theorem dX2_insert_24 : decode cX2_insert 24 = .ok (.getfield 21, 3) := by decide +kernel
theorem dX2_insert_27 : decode cX2_insert 27 = .ok (.istore 4, 2) := by decide +kernel
theorem dX2_insert_29 : decode cX2_insert 29 = .ok (.iload 4, 2) := by decide +kernel
theorem dX2_insert_31 : decode cX2_insert 31 = .ok (.iload_n 1, 1) := by decide +kernel
theorem dX2_insert_32 : decode cX2_insert 32 = .ok (.if_icmp .le 41, 3) := by decide +kernel
theorem dX2_insert_35 : decode cX2_insert 35 = .ok (.aload_n 0, 1) := by decide +kernel
theorem dX2_insert_36 : decode cX2_insert 36 = .ok (.getfield 11, 3) := by decide +kernel
theorem dX2_insert_39 : decode cX2_insert 39 = .ok (.iload 4, 2) := by decide +kernel
theorem dX2_insert_41 : decode cX2_insert 41 = .ok (.aload_n 0, 1) := by decide +kernel
theorem dX2_insert_42 : decode cX2_insert 42 = .ok (.getfield 11, 3) := by decide +kernel
theorem dX2_insert_45 : decode cX2_insert 45 = .ok (.iload 4, 2) := by decide +kernel
theorem dX2_insert_47 : decode cX2_insert 47 = .ok (.iconst 1, 1) := by decide +kernel
theorem dX2_insert_48 : decode cX2_insert 48 = .ok (.isub, 1) := by decide +kernel
theorem dX2_insert_49 : decode cX2_insert 49 = .ok (.aaload, 1) := by decide +kernel
theorem dX2_insert_50 : decode cX2_insert 50 = .ok (.aastore, 1) := by decide +kernel
theorem dX2_insert_51 : decode cX2_insert 51 = .ok (.aload_n 0, 1) := by decide +kernel
theorem dX2_insert_52 : decode cX2_insert 52 = .ok (.getfield 17, 3) := by decide +kernel
theorem dX2_insert_55 : decode cX2_insert 55 = .ok (.iload 4, 2) := by decide +kernel
theorem dX2_insert_57 : decode cX2_insert 57 = .ok (.aload_n 0, 1) := by decide +kernel
theorem dX2_insert_58 : decode cX2_insert 58 = .ok (.getfield 17, 3) := by decide +kernel
theorem dX2_insert_61 : decode cX2_insert 61 = .ok (.iload 4, 2) := by decide +kernel
theorem dX2_insert_63 : decode cX2_insert 63 = .ok (.iconst 1, 1) := by decide +kernel
theorem dX2_insert_64 : decode cX2_insert 64 = .ok (.isub, 1) := by decide +kernel
theorem dX2_insert_65 : decode cX2_insert 65 = .ok (.iaload, 1) := by decide +kernel
theorem dX2_insert_66 : decode cX2_insert 66 = .ok (.iastore, 1) := by decide +kernel
theorem dX2_insert_67 : decode cX2_insert 67 = .ok (.iinc 4 (-1), 3) := by decide +kernel
theorem dX2_insert_70 : decode cX2_insert 70 = .ok (.goto (-41), 3) := by decide +kernel
theorem dX2_insert_73 : decode cX2_insert 73 = .ok (.aload_n 0, 1) := by decide +kernel
theorem dX2_insert_74 : decode cX2_insert 74 = .ok (.getfield 11, 3) := by decide +kernel
theorem dX2_insert_77 : decode cX2_insert 77 = .ok (.iload_n 1, 1) := by decide +kernel
theorem dX2_insert_78 : decode cX2_insert 78 = .ok (.aload_n 2, 1) := by decide +kernel
theorem dX2_insert_79 : decode cX2_insert 79 = .ok (.aastore, 1) := by decide +kernel
theorem dX2_insert_80 : decode cX2_insert 80 = .ok (.aload_n 0, 1) := by decide +kernel
theorem dX2_insert_81 : decode cX2_insert 81 = .ok (.getfield 17, 3) := by decide +kernel
theorem dX2_insert_84 : decode cX2_insert 84 = .ok (.iload_n 1, 1) := by decide +kernel
theorem dX2_insert_85 : decode cX2_insert 85 = .ok (.iload_n 3, 1) := by decide +kernel
theorem dX2_insert_86 : decode cX2_insert 86 = .ok (.iastore, 1) := by decide +kernel
theorem dX2_insert_87 : decode cX2_insert 87 = .ok (.aload_n 0, 1) := by decide +kernel
theorem dX2_insert_88 : decode cX2_insert 88 = .ok (.dup, 1) := by decide +kernel
theorem dX2_insert_89 : decode cX2_insert 89 = .ok (.getfield 21, 3) := by decide +kernel
theorem dX2_insert_92 : decode cX2_insert 92 = .ok (.iconst 1, 1) := by decide +kernel
theorem dX2_insert_93 : decode cX2_insert 93 = .ok (.iadd, 1) := by decide +kernel
theorem dX2_insert_94 : decode cX2_insert 94 = .ok (.putfield 21, 3) := by decide +kernel
theorem dX2_insert_97 : decode cX2_insert 97 = .ok (.iconst 1, 1) := by decide +kernel
theorem dX2_insert_98 : decode cX2_insert 98 = .ok (.ireturn, 1) := by decide +kernel
theorem dX2_remove_0 : decode cX2_remove 0 = .ok (.aload_n 0, 1) := by decide +kernel
theorem dX2_remove_1 : decode cX2_remove 1 = .ok (.iload_n 1, 1) := by decide +kernel
theorem dX2_remove_2 : decode cX2_remove 2 = .ok (.invokevirtual 25, 3) := by decide +kernel
theorem dX2_remove_5 : decode cX2_remove 5 = .ok (.ifCond .ne 4, 3) := by decide +kernel
theorem dX2_remove_8 : decode cX2_remove 8 = .ok (.return_, 1) := by decide +kernel
theorem dX2_remove_9 : decode cX2_remove 9 = .ok (.iload_n 1, 1) := by decide +kernel
theorem dX2_remove_10 : decode cX2_remove 10 = .ok (.istore_n 2, 1) := by decide +kernel
theorem dX2_remove_11 : decode cX2_remove 11 = .ok (.iload_n 2, 1) := by decide +kernel
theorem dX2_remove_12 : decode cX2_remove 12 = .ok (.aload_n 0, 1) := by decide +kernel
theorem dX2_remove_13 : decode cX2_remove 13 = .ok (.getfield 21, 3) := by decide +kernel
theorem dX2_remove_16 : decode cX2_remove 16 = .ok (.iconst 1, 1) := by decide +kernel
theorem dX2_remove_17 : decode cX2_remove 17 = .ok (.isub, 1) := by decide +kernel
theorem dX2_remove_18 : decode cX2_remove 18 = .ok (.if_icmp .ge 37, 3) := by decide +kernel
theorem dX2_remove_21 : decode cX2_remove 21 = .ok (.aload_n 0, 1) := by decide +kernel
theorem dX2_remove_22 : decode cX2_remove 22 = .ok (.getfield 11, 3) := by decide +kernel
theorem dX2_remove_25 : decode cX2_remove 25 = .ok (.iload_n 2, 1) := by decide +kernel
theorem dX2_remove_26 : decode cX2_remove 26 = .ok (.aload_n 0, 1) := by decide +kernel
theorem dX2_remove_27 : decode cX2_remove 27 = .ok (.getfield 11, 3) := by decide +kernel
theorem dX2_remove_30 : decode cX2_remove 30 = .ok (.iload_n 2, 1) := by decide +kernel
theorem dX2_remove_31 : decode cX2_remove 31 = .ok (.iconst 1, 1) := by decide +kernel
theorem dX2_remove_32 : decode cX2_remove 32 = .ok (.iadd, 1) := by decide +kernel
theorem dX2_remove_33 : decode cX2_remove 33 = .ok (.aaload, 1) := by decide +kernel
theorem dX2_remove_34 : decode cX2_remove 34 = .ok (.aastore, 1) := by decide +kernel
theorem dX2_remove_35 : decode cX2_remove 35 = .ok (.aload_n 0, 1) := by decide +kernel
theorem dX2_remove_36 : decode cX2_remove 36 = .ok (.getfield 17, 3) := by decide +kernel
theorem dX2_remove_39 : decode cX2_remove 39 = .ok (.iload_n 2, 1) := by decide +kernel
theorem dX2_remove_40 : decode cX2_remove 40 = .ok (.aload_n 0, 1) := by decide +kernel
theorem dX2_remove_41 : decode cX2_remove 41 = .ok (.getfield 17, 3) := by decide +kernel
theorem dX2_remove_44 : decode cX2_remove 44 = .ok (.iload_n 2, 1) := by decide +kernel
theorem dX2_remove_45 : decode cX2_remove 45 = .ok (.iconst 1, 1) := by decide +kernel
theorem dX2_remove_46 : decode cX2_remove 46 = .ok (.iadd, 1) := by decide +kernel
theorem dX2_remove_47 : decode cX2_remove 47 = .ok (.iaload, 1) := by decide +kernel
theorem dX2_remove_48 : decode cX2_remove 48 = .ok (.iastore, 1) := by decide +kernel
theorem dX2_remove_49 : decode cX2_remove 49 = .ok (.iinc 2 1, 3) := by decide +kernel
theorem dX2_remove_52 : decode cX2_remove 52 = .ok (.goto (-41), 3) := by decide +kernel
theorem dX2_remove_55 : decode cX2_remove 55 = .ok (.aload_n 0, 1) := by decide +kernel
theorem dX2_remove_56 : decode cX2_remove 56 = .ok (.dup, 1) := by decide +kernel
theorem dX2_remove_57 : decode cX2_remove 57 = .ok (.getfield 21, 3) := by decide +kernel
theorem dX2_remove_60 : decode cX2_remove 60 = .ok (.iconst 1, 1) := by decide +kernel
theorem dX2_remove_61 : decode cX2_remove 61 = .ok (.isub, 1) := by decide +kernel
theorem dX2_remove_62 : decode cX2_remove 62 = .ok (.putfield 21, 3) := by decide +kernel
theorem dX2_remove_65 : decode cX2_remove 65 = .ok (.aload_n 0, 1) := by decide +kernel
theorem dX2_remove_66 : decode cX2_remove 66 = .ok (.getfield 11, 3) := by decide +kernel
theorem dX2_remove_69 : decode cX2_remove 69 = .ok (.aload_n 0, 1) := by decide +kernel
theorem dX2_remove_70 : decode cX2_remove 70 = .ok (.getfield 21, 3) := by decide +kernel
theorem dX2_remove_73 : decode cX2_remove 73 = .ok (.aconst_null, 1) := by decide +kernel
theorem dX2_remove_74 : decode cX2_remove 74 = .ok (.aastore, 1) := by decide +kernel
theorem dX2_remove_75 : decode cX2_remove 75 = .ok (.return_, 1) := by decide +kernel
theorem dX2_firstWith_0 : decode cX2_firstWith 0 = .ok (.iconst 0, 1) := by decide +kernel
theorem dX2_firstWith_1 : decode cX2_firstWith 1 = .ok (.istore_n 2, 1) := by decide +kernel
theorem dX2_firstWith_2 : decode cX2_firstWith 2 = .ok (.iload_n 2, 1) := by decide +kernel
theorem dX2_firstWith_3 : decode cX2_firstWith 3 = .ok (.aload_n 0, 1) := by decide +kernel
theorem dX2_firstWith_4 : decode cX2_firstWith 4 = .ok (.getfield 21, 3) := by decide +kernel
theorem dX2_firstWith_7 : decode cX2_firstWith 7 = .ok (.if_icmp .ge 21, 3) := by decide +kernel
theorem dX2_firstWith_10 : decode cX2_firstWith 10 = .ok (.aload_n 0, 1) := by decide +kernel
theorem dX2_firstWith_11 : decode cX2_firstWith 11 = .ok (.getfield 17, 3) := by decide +kernel
theorem dX2_firstWith_14 : decode cX2_firstWith 14 = .ok (.iload_n 2, 1) := by decide +kernel
theorem dX2_firstWith_15 : decode cX2_firstWith 15 = .ok (.iaload, 1) := by decide +kernel
theorem dX2_firstWith_16 : decode cX2_firstWith 16 = .ok (.iload_n 1, 1) := by decide +kernel
theorem dX2_firstWith_17 : decode cX2_firstWith 17 = .ok (.if_icmp .ne 5, 3) := by decide +kernel
theorem dX2_firstWith_20 : decode cX2_firstWith 20 = .ok (.iload_n 2, 1) := by decide +kernel
theorem dX2_firstWith_21 : decode cX2_firstWith 21 = .ok (.ireturn, 1) := by decide +kernel
theorem dX2_firstWith_22 : decode cX2_firstWith 22 = .ok (.iinc 2 1, 3) := by decide +kernel
theorem dX2_firstWith_25 : decode cX2_firstWith 25 = .ok (.goto (-23), 3) := by decide +kernel
theorem dX2_firstWith_28 : decode cX2_firstWith 28 = .ok (.iconst (-1), 1) := by decide +kernel
theorem dX2_firstWith_29 : decode cX2_firstWith 29 = .ok (.ireturn, 1) := by decide +kernel
theorem dX2_hasCutter_0 : decode cX2_hasCutter 0 = .ok (.iconst 0, 1) := by decide +kernel
theorem dX2_hasCutter_1 : decode cX2_hasCutter 1 = .ok (.istore_n 3, 1) := by decide +kernel
theorem dX2_hasCutter_2 : decode cX2_hasCutter 2 = .ok (.iload_n 3, 1) := by decide +kernel
theorem dX2_hasCutter_3 : decode cX2_hasCutter 3 = .ok (.aload_n 0, 1) := by decide +kernel
theorem dX2_hasCutter_4 : decode cX2_hasCutter 4 = .ok (.getfield 21, 3) := by decide +kernel
theorem dX2_hasCutter_7 : decode cX2_hasCutter 7 = .ok (.if_icmp .ge 53, 3) := by decide +kernel
theorem dX2_hasCutter_10 : decode cX2_hasCutter 10 = .ok (.aload_n 0, 1) := by decide +kernel
theorem dX2_hasCutter_11 : decode cX2_hasCutter 11 = .ok (.iload_n 3, 1) := by decide +kernel
theorem dX2_hasCutter_12 : decode cX2_hasCutter 12 = .ok (.invokevirtual 29, 3) := by decide +kernel
theorem dX2_hasCutter_15 : decode cX2_hasCutter 15 = .ok (.astore 4, 2) := by decide +kernel
theorem dX2_hasCutter_17 : decode cX2_hasCutter 17 = .ok (.aload 4, 2) := by decide +kernel
theorem dX2_hasCutter_19 : decode cX2_hasCutter 19 = .ok (.ifnull 35, 3) := by decide +kernel
theorem dX2_hasCutter_22 : decode cX2_hasCutter 22 = .ok (.aload 4, 2) := by decide +kernel
theorem dX2_hasCutter_24 : decode cX2_hasCutter 24 = .ok (.aload_n 1, 1) := by decide +kernel
theorem dX2_hasCutter_25 : decode cX2_hasCutter 25 = .ok (.invokevirtual 37, 3) := by decide +kernel
theorem dX2_hasCutter_28 : decode cX2_hasCutter 28 = .ok (.ifCond .eq 26, 3) := by decide +kernel
theorem dX2_hasCutter_31 : decode cX2_hasCutter 31 = .ok (.aload 4, 2) := by decide +kernel
theorem dX2_hasCutter_33 : decode cX2_hasCutter 33 = .ok (.getfield 41, 3) := by decide +kernel
theorem dX2_hasCutter_36 : decode cX2_hasCutter 36 = .ok (.aload_n 1, 1) := by decide +kernel
theorem dX2_hasCutter_37 : decode cX2_hasCutter 37 = .ok (.getfield 41, 3) := by decide +kernel
theorem dX2_hasCutter_40 : decode cX2_hasCutter 40 = .ok (.if_icmp .ne 14, 3) := by decide +kernel
theorem dX2_hasCutter_43 : decode cX2_hasCutter 43 = .ok (.aload 4, 2) := by decide +kernel
theorem dX2_hasCutter_45 : decode cX2_hasCutter 45 = .ok (.getfield 44, 3) := by decide +kernel
theorem dX2_hasCutter_48 : decode cX2_hasCutter 48 = .ok (.iload_n 2, 1) := by decide +kernel
theorem dX2_hasCutter_49 : decode cX2_hasCutter 49 = .ok (.if_icmp .ne 5, 3) := by decide +kernel
theorem dX2_hasCutter_52 : decode cX2_hasCutter 52 = .ok (.iconst 1, 1) := by decide +kernel
theorem dX2_hasCutter_53 : decode cX2_hasCutter 53 = .ok (.ireturn, 1) := by decide +kernel
theorem dX2_hasCutter_54 : decode cX2_hasCutter 54 = .ok (.iinc 3 1, 3) := by decide +kernel
theorem dX2_hasCutter_57 : decode cX2_hasCutter 57 = .ok (.goto (-55), 3) := by decide +kernel
theorem dX2_hasCutter_60 : decode cX2_hasCutter 60 = .ok (.iconst 0, 1) := by decide +kernel
theorem dX2_hasCutter_61 : decode cX2_hasCutter 61 = .ok (.ireturn, 1) := by decide +kernel
end
section
theorem dX3_init_0 : decode cX3_init 0 = .ok (.aload_n 0, 1) := by decide +kernel
theorem dX3_init_1 : decode cX3_init 1 = .ok (.invokespecial 1, 3) := by decide +kernel
theorem dX3_init_4 : decode cX3_init 4 = .ok (.aload_n 0, 1) := by decide +kernel
theorem dX3_init_5 : decode cX3_init 5 = .ok (.new 7, 3) := by decide +kernel
theorem dX3_init_8 : decode cX3_init 8 = .ok (.dup, 1) := by decide +kernel
theorem dX3_init_9 : decode cX3_init 9 = .ok (.iload_n 1, 1) := by decide +kernel
theorem dX3_init_10 : decode cX3_init 10 = .ok (.iconst 1, 1) := by decide +kernel
theorem dX3_init_11 : decode cX3_init 11 = .ok (.if_icmp .lt 7, 3) := by decide +kernel
theorem dX3_init_14 : decode cX3_init 14 = .ok (.iconst 1, 1) := by decide +kernel
theorem dX3_init_15 : decode cX3_init 15 = .ok (.goto 4, 3) := by decide +kernel
theorem dX3_init_18 : decode cX3_init 18 = .ok (.iconst 0, 1) := by decide +kernel
theorem dX3_init_19 : decode cX3_init 19 = .ok (.invokespecial 9, 3) := by decide +kernel
theorem dX3_init_22 : decode cX3_init 22 = .ok (.putfield 12, 3) := by decide +kernel
theorem dX3_init_25 : decode cX3_init 25 = .ok (.aload_n 0, 1) := by decide +kernel
theorem dX3_init_26 : decode cX3_init 26 = .ok (.new 18, 3) := by decide +kernel
theorem dX3_init_29 : decode cX3_init 29 = .ok (.dup, 1) := by decide +kernel
theorem dX3_init_30 : decode cX3_init 30 = .ok (.invokespecial 20, 3) := by decide +kernel
theorem dX3_init_33 : decode cX3_init 33 = .ok (.putfield 21, 3) := by decide +kernel
theorem dX3_init_36 : decode cX3_init 36 = .ok (.aload_n 0, 1) := by decide +kernel
theorem dX3_init_37 : decode cX3_init 37 = .ok (.aconst_null, 1) := by decide +kernel
theorem dX3_init_38 : decode cX3_init 38 = .ok (.putfield 25, 3) := by decide +kernel
theorem dX3_init_41 : decode cX3_init 41 = .ok (.aload_n 0, 1) := by decide +kernel
theorem dX3_init_42 : decode cX3_init 42 = .ok (.aconst_null, 1) := by decide +kernel
theorem dX3_init_43 : decode cX3_init 43 = .ok (.putfield 29, 3) := by decide +kernel
theorem dX3_init_46 : decode cX3_init 46 = .ok (.return_, 1) := by decide +kernel
theorem dX3_sign_0 : decode cX3_sign 0 = .ok (.aload_n 0, 1) := by decide +kernel
theorem dX3_sign_1 : decode cX3_sign 1 = .ok (.getfield 12, 3) := by decide +kernel
theorem dX3_sign_4 : decode cX3_sign 4 = .ok (.iload_n 1, 1) := by decide +kernel
theorem dX3_sign_5 : decode cX3_sign 5 = .ok (.sipush 255, 3) := by decide +kernel
theorem dX3_sign_8 : decode cX3_sign 8 = .ok (.iand, 1) := by decide +kernel
theorem dX3_sign_9 : decode cX3_sign 9 = .ok (.invokevirtual 32, 3) := by decide +kernel
theorem dX3_sign_12 : decode cX3_sign 12 = .ok (.return_, 1) := by decide +kernel
theorem dX3_read_0 : decode cX3_read 0 = .ok (.aload_n 0, 1) := by decide +kernel
theorem dX3_read_1 : decode cX3_read 1 = .ok (.getfield 12, 3) := by decide +kernel
theorem dX3_read_4 : decode cX3_read 4 = .ok (.invokevirtual 36, 3) := by decide +kernel
theorem dX3_read_7 : decode cX3_read 7 = .ok (.astore_n 1, 1) := by decide +kernel
theorem dX3_read_8 : decode cX3_read 8 = .ok (.aload_n 0, 1) := by decide +kernel
theorem dX3_read_9 : decode cX3_read 9 = .ok (.getfield 12, 3) := by decide +kernel
theorem dX3_read_12 : decode cX3_read 12 = .ok (.invokevirtual 40, 3) := by decide +kernel
theorem dX3_read_15 : decode cX3_read 15 = .ok (.aload_n 1, 1) := by decide +kernel
theorem dX3_read_16 : decode cX3_read 16 = .ok (.ifnonnull 13, 3) := by decide +kernel
theorem dX3_read_19 : decode cX3_read 19 = .ok (.iconst (-1), 1) := by decide +kernel
theorem dX3_read_20 : decode cX3_read 20 = .ok (.aload_n 0, 1) := by decide +kernel
theorem dX3_read_21 : decode cX3_read 21 = .ok (.getfield 12, 3) := by decide +kernel
theorem dX3_read_24 : decode cX3_read 24 = .ok (.invokevirtual 43, 3) := by decide +kernel
theorem dX3_read_27 : decode cX3_read 27 = .ok (.isub, 1) := by decide +kernel
theorem dX3_read_28 : decode cX3_read 28 = .ok (.ireturn, 1) := by decide +kernel
theorem dX3_read_29 : decode cX3_read 29 = .ok (.aload_n 0, 1) := by decide +kernel
theorem dX3_read_30 : decode cX3_read 30 = .ok (.aload_n 1, 1) := by decide +kernel
theorem dX3_read_31 : decode cX3_read 31 = .ok (.putfield 25, 3) := by decide +kernel
theorem dX3_read_34 : decode cX3_read 34 = .ok (.aload_n 1, 1) := by decide +kernel
theorem dX3_read_35 : decode cX3_read 35 = .ok (.invokevirtual 47, 3) := by decide +kernel
theorem dX3_read_38 : decode cX3_read 38 = .ok (.ireturn, 1) := by decide +kernel
theorem dX3_part_0 : decode cX3_part 0 = .ok (.aload_n 0, 1) := by decide +kernel
theorem dX3_part_1 : decode cX3_part 1 = .ok (.getfield 25, 3) := by decide +kernel
theorem dX3_part_4 : decode cX3_part 4 = .ok (.ifnull 12, 3) := by decide +kernel
theorem dX3_part_7 : decode cX3_part 7 = .ok (.iload_n 1, 1) := by decide +kernel
theorem dX3_part_8 : decode cX3_part 8 = .ok (.ifCond .lt 8, 3) := by decide +kernel
theorem dX3_part_11 : decode cX3_part 11 = .ok (.iload_n 1, 1) := by decide +kernel
theorem dX3_part_12 : decode cX3_part 12 = .ok (.iconst 4, 1) := by decide +kernel
theorem dX3_part_13 : decode cX3_part 13 = .ok (.if_icmp .le 13, 3) := by decide +kernel
theorem dX3_part_16 : decode cX3_part 16 = .ok (.new 52, 3) := by decide +kernel
theorem dX3_part_19 : decode cX3_part 19 = .ok (.dup, 1) := by decide +kernel
theorem dX3_part_20 : decode cX3_part 20 = .ok (.ldc 54, 2) := by decide +kernel
theorem dX3_part_22 : decode cX3_part 22 = .ok (.invokespecial 56, 3) := by decide +kernel
theorem dX3_part_25 : decode cX3_part 25 = .ok (.athrow, 1) := by decide +kernel
theorem dX3_part_26 : decode cX3_part 26 = .ok (.iload_n 1, 1) := by decide +kernel
theorem dX3_part_27 : decode cX3_part 27 = .ok (.tableswitch 64 0 3 #[29, 37, 46, 55], 29) := by decide +kernel
theorem dX3_part_56 : decode cX3_part 56 = .ok (.aload_n 0, 1) := by decide +kernel
theorem dX3_part_57 : decode cX3_part 57 = .ok (.getfield 25, 3) := by decide +kernel
theorem dX3_part_60 : decode cX3_part 60 = .ok (.getfield 59, 3) := by decide +kernel
theorem dX3_part_63 : decode cX3_part 63 = .ok (.lreturn, 1) := by decide +kernel
theorem dX3_part_64 : decode cX3_part 64 = .ok (.aload_n 0, 1) := by decide +kernel
theorem dX3_part_65 : decode cX3_part 65 = .ok (.getfield 25, 3) := by decide +kernel
theorem dX3_part_68 : decode cX3_part 68 = .ok (.getfield 63, 3) := by decide +kernel
theorem dX3_part_71 : decode cX3_part 71 = .ok (.i2l, 1) := by decide +kernel
theorem dX3_part_72 : decode cX3_part 72 = .ok (.lreturn, 1) := by decide +kernel
theorem dX3_part_73 : decode cX3_part 73 = .ok (.aload_n 0, 1) := by decide +kernel
theorem dX3_part_74 : decode cX3_part 74 = .ok (.getfield 25, 3) := by decide +kernel
theorem dX3_part_77 : decode cX3_part 77 = .ok (.getfield 67, 3) := by decide +kernel
theorem dX3_part_80 : decode cX3_part 80 = .ok (.i2l, 1) := by decide +kernel
theorem dX3_part_81 : decode cX3_part 81 = .ok (.lreturn, 1) := by decide +kernel
theorem dX3_part_82 : decode cX3_part 82 = .ok (.aload_n 0, 1) := by decide +kernel
theorem dX3_part_83 : decode cX3_part 83 = .ok (.getfield 25, 3) := by decide +kernel
theorem dX3_part_86 : decode cX3_part 86 = .ok (.getfield 70, 3) := by decide +kernel
theorem dX3_part_89 : decode cX3_part 89 = .ok (.i2l, 1) := by decide +kernel
theorem dX3_part_90 : decode cX3_part 90 = .ok (.lreturn, 1) := by decide +kernel
theorem dX3_part_91 : decode cX3_part 91 = .ok (.aload_n 0, 1) := by decide +kernel
theorem dX3_part_92 : decode cX3_part 92 = .ok (.getfield 25, 3) := by decide +kernel
theorem dX3_part_95 : decode cX3_part 95 = .ok (.getfield 73, 3) := by decide +kernel
theorem dX3_part_98 : decode cX3_part 98 = .ok (.i2l, 1) := by decide +kernel
theorem dX3_part_99 : decode cX3_part 99 = .ok (.lreturn, 1) := by decide +kernel
theorem dX3_letter_0 : decode cX3_letter 0 = .ok (.aload_n 0, 1) := by decide +kernel
theorem dX3_letter_1 : decode cX3_letter 1 = .ok (.getfield 25, 3) := by decide +kernel
theorem dX3_letter_4 : decode cX3_letter 4 = .ok (.ifnonnull 7, 3) := by decide +kernel
theorem dX3_letter_7 : decode cX3_letter 7 = .ok (.iconst 0, 1) := by decide +kernel
theorem dX3_letter_8 : decode cX3_letter 8 = .ok (.goto 11, 3) := by decide +kernel
theorem dX3_letter_11 : decode cX3_letter 11 = .ok (.aload_n 0, 1) := by decide +kernel
theorem dX3_letter_12 : decode cX3_letter 12 = .ok (.getfield 25, 3) := by decide +kernel
theorem dX3_letter_15 : decode cX3_letter 15 = .ok (.iload_n 1, 1) := by decide +kernel
theorem dX3_letter_16 : decode cX3_letter 16 = .ok (.invokevirtual 76, 3) := by decide +kernel
theorem dX3_letter_19 : decode cX3_letter 19 = .ok (.ireturn, 1) := by decide +kernel
theorem dX3_put_0 : decode cX3_put 0 = .ok (.aload_n 0, 1) := by decide +kernel
theorem dX3_put_1 : decode cX3_put 1 = .ok (.getfield 25, 3) := by decide +kernel
theorem dX3_put_4 : decode cX3_put 4 = .ok (.ifnonnull 5, 3) := by decide +kernel
theorem dX3_put_7 : decode cX3_put 7 = .ok (.iconst (-1), 1) := by decide +kernel
theorem dX3_put_8 : decode cX3_put 8 = .ok (.ireturn, 1) := by decide +kernel
theorem dX3_put_9 : decode cX3_put 9 = .ok (.aload_n 0, 1) := by decide +kernel
theorem dX3_put_10 : decode cX3_put 10 = .ok (.getfield 21, 3) := by decide +kernel
theorem dX3_put_13 : decode cX3_put 13 = .ok (.aload_n 0, 1) := by decide +kernel
theorem dX3_put_14 : decode cX3_put 14 = .ok (.getfield 25, 3) := by decide +kernel
theorem dX3_put_17 : decode cX3_put 17 = .ok (.invokevirtual 80, 3) := by decide +kernel
theorem dX3_put_20 : decode cX3_put 20 = .ok (.istore_n 2, 1) := by decide +kernel
theorem dX3_put_21 : decode cX3_put 21 = .ok (.aload_n 0, 1) := by decide +kernel
theorem dX3_put_22 : decode cX3_put 22 = .ok (.getfield 21, 3) := by decide +kernel
theorem dX3_put_25 : decode cX3_put 25 = .ok (.iload_n 2, 1) := by decide +kernel
theorem dX3_put_26 : decode cX3_put 26 = .ok (.aload_n 0, 1) := by decide +kernel
theorem dX3_put_27 : decode cX3_put 27 = .ok (.getfield 25, 3) := by decide +kernel
theorem dX3_put_30 : decode cX3_put 30 = .ok (.invokevirtual 84, 3) := by decide +kernel
theorem dX3_put_33 : decode cX3_put 33 = .ok (.ifCond .eq 8, 3) := by decide +kernel
theorem dX3_put_36 : decode cX3_put 36 = .ok (.bipush (-2), 2) := by decide +kernel
theorem dX3_put_38 : decode cX3_put 38 = .ok (.iload_n 2, 1) := by decide +kernel
theorem dX3_put_39 : decode cX3_put 39 = .ok (.isub, 1) := by decide +kernel
theorem dX3_put_40 : decode cX3_put 40 = .ok (.ireturn, 1) := by decide +kernel
theorem dX3_put_41 : decode cX3_put 41 = .ok (.aload_n 0, 1) := by decide +kernel
theorem dX3_put_42 : decode cX3_put 42 = .ok (.getfield 21, 3) := by decide +kernel
theorem dX3_put_45 : decode cX3_put 45 = .ok (.iload_n 2, 1) := by decide +kernel
theorem dX3_put_46 : decode cX3_put 46 = .ok (.aload_n 0, 1) := by decide +kernel
theorem dX3_put_47 : decode cX3_put 47 = .ok (.getfield 25, 3) := by decide +kernel
theorem dX3_put_50 : decode cX3_put 50 = .ok (.iload_n 1, 1) := by decide +kernel
theorem dX3_put_51 : decode cX3_put 51 = .ok (.invokevirtual 88, 3) := by decide +kernel
theorem dX3_put_54 : decode cX3_put 54 = .ok (.ifCond .eq 7, 3) := by decide +kernel
theorem dX3_put_57 : decode cX3_put 57 = .ok (.iload_n 2, 1) := by decide +kernel
theorem dX3_put_58 : decode cX3_put 58 = .ok (.goto 4, 3) := by decide +kernel
theorem dX3_put_61 : decode cX3_put 61 = .ok (.iconst (-1), 1) := by decide +kernel
theorem dX3_put_62 : decode cX3_put 62 = .ok (.ireturn, 1) := by decide +kernel
theorem dX3_shelf_0 : decode cX3_shelf 0 = .ok (.aload_n 0, 1) := by decide +kernel
theorem dX3_shelf_1 : decode cX3_shelf 1 = .ok (.getfield 21, 3) := by decide +kernel
theorem dX3_shelf_4 : decode cX3_shelf 4 = .ok (.iload_n 1, 1) := by decide +kernel
theorem dX3_shelf_5 : decode cX3_shelf 5 = .ok (.invokevirtual 92, 3) := by decide +kernel
theorem dX3_shelf_8 : decode cX3_shelf 8 = .ok (.ireturn, 1) := by decide +kernel
theorem dX3_take_0 : decode cX3_take 0 = .ok (.aload_n 0, 1) := by decide +kernel
theorem dX3_take_1 : decode cX3_take 1 = .ok (.getfield 21, 3) := by decide +kernel
theorem dX3_take_4 : decode cX3_take 4 = .ok (.iload_n 1, 1) := by decide +kernel
theorem dX3_take_5 : decode cX3_take 5 = .ok (.invokevirtual 92, 3) := by decide +kernel
theorem dX3_take_8 : decode cX3_take 8 = .ok (.istore_n 2, 1) := by decide +kernel
theorem dX3_take_9 : decode cX3_take 9 = .ok (.aload_n 0, 1) := by decide +kernel
theorem dX3_take_10 : decode cX3_take 10 = .ok (.getfield 21, 3) := by decide +kernel
theorem dX3_take_13 : decode cX3_take 13 = .ok (.iload_n 1, 1) := by decide +kernel
theorem dX3_take_14 : decode cX3_take 14 = .ok (.invokevirtual 95, 3) := by decide +kernel
theorem dX3_take_17 : decode cX3_take 17 = .ok (.iload_n 2, 1) := by decide +kernel
theorem dX3_take_18 : decode cX3_take 18 = .ok (.ireturn, 1) := by decide +kernel
theorem dX3_compare_0 : decode cX3_compare 0 = .ok (.aload_n 0, 1) := by decide +kernel
theorem dX3_compare_1 : decode cX3_compare 1 = .ok (.getfield 21, 3) := by decide +kernel
theorem dX3_compare_4 : decode cX3_compare 4 = .ok (.iload_n 1, 1) := by decide +kernel
theorem dX3_compare_5 : decode cX3_compare 5 = .ok (.invokevirtual 98, 3) := by decide +kernel
theorem dX3_compare_8 : decode cX3_compare 8 = .ok (.astore_n 3, 1) := by decide +kernel
theorem dX3_compare_9 : decode cX3_compare 9 = .ok (.aload_n 0, 1) := by decide +kernel
theorem dX3_compare_10 : decode cX3_compare 10 = .ok (.getfield 21, 3) := by decide +kernel
theorem dX3_compare_13 : decode cX3_compare 13 = .ok (.iload_n 2, 1) := by decide +kernel
theorem dX3_compare_14 : decode cX3_compare 14 = .ok (.invokevirtual 98, 3) := by decide +kernel
theorem dX3_compare_17 : decode cX3_compare 17 = .ok (.astore 4, 2) := by decide +kernel
theorem dX3_compare_19 : decode cX3_compare 19 = .ok (.aload_n 3, 1) := by decide +kernel
theorem dX3_compare_20 : decode cX3_compare 20 = .ok (.ifnull 8, 3) := by decide +kernel
theorem dX3_compare_23 : decode cX3_compare 23 = .ok (.aload 4, 2) := by decide +kernel
theorem dX3_compare_25 : decode cX3_compare 25 = .ok (.ifnonnull 6, 3) := by decide +kernel
theorem dX3_compare_28 : decode cX3_compare 28 = .ok (.bipush (-2), 2) := by decide +kernel
theorem dX3_compare_30 : decode cX3_compare 30 = .ok (.ireturn, 1) := by decide +kernel
theorem dX3_compare_31 : decode cX3_compare 31 = .ok (.aload_n 3, 1) := by decide +kernel
theorem dX3_compare_32 : decode cX3_compare 32 = .ok (.aload 4, 2) := by decide +kernel
theorem dX3_compare_34 : decode cX3_compare 34 = .ok (.invokestatic 102, 3) := by decide +kernel
theorem dX3_compare_37 : decode cX3_compare 37 = .ok (.ireturn, 1) := by decide +kernel
theorem dX3_before_0 : decode cX3_before 0 = .ok (.aload_n 0, 1) := by decide +kernel
theorem dX3_before_1 : decode cX3_before 1 = .ok (.getfield 25, 3) := by decide +kernel
theorem dX3_before_4 : decode cX3_before 4 = .ok (.ifnonnull 7, 3) := by decide +kernel
theorem dX3_before_7 : decode cX3_before 7 = .ok (.iconst (-1), 1) := by decide +kernel
theorem dX3_before_8 : decode cX3_before 8 = .ok (.goto 14, 3) := by decide +kernel
theorem dX3_before_11 : decode cX3_before 11 = .ok (.aload_n 0, 1) := by decide +kernel
theorem dX3_before_12 : decode cX3_before 12 = .ok (.getfield 21, 3) := by decide +kernel
theorem dX3_before_15 : decode cX3_before 15 = .ok (.aload_n 0, 1) := by decide +kernel
theorem dX3_before_16 : decode cX3_before 16 = .ok (.getfield 25, 3) := by decide +kernel
theorem dX3_before_19 : decode cX3_before 19 = .ok (.invokevirtual 80, 3) := by decide +kernel
theorem dX3_before_22 : decode cX3_before 22 = .ok (.ireturn, 1) := by decide +kernel
theorem dX3_free_0 : decode cX3_free 0 = .ok (.aload_n 0, 1) := by decide +kernel
theorem dX3_free_1 : decode cX3_free 1 = .ok (.getfield 25, 3) := by decide +kernel
theorem dX3_free_4 : decode cX3_free 4 = .ok (.ifnonnull 5, 3) := by decide +kernel
theorem dX3_free_7 : decode cX3_free 7 = .ok (.iconst 0, 1) := by decide +kernel
theorem dX3_free_8 : decode cX3_free 8 = .ok (.ireturn, 1) := by decide +kernel
theorem dX3_free_9 : decode cX3_free 9 = .ok (.iconst 0, 1) := by decide +kernel
theorem dX3_free_10 : decode cX3_free 10 = .ok (.istore_n 1, 1) := by decide +kernel
theorem dX3_free_11 : decode cX3_free 11 = .ok (.iload_n 1, 1) := by decide +kernel
theorem dX3_free_12 : decode cX3_free 12 = .ok (.bipush 6, 2) := by decide +kernel
theorem dX3_free_14 : decode cX3_free 14 = .ok (.aload_n 0, 1) := by decide +kernel
theorem dX3_free_15 : decode cX3_free 15 = .ok (.getfield 25, 3) := by decide +kernel
theorem dX3_free_18 : decode cX3_free 18 = .ok (.getfield 106, 3) := by decide +kernel
theorem dX3_free_21 : decode cX3_free 21 = .ok (.isub, 1) := by decide +kernel
theorem dX3_free_22 : decode cX3_free 22 = .ok (.if_icmp .gt 25, 3) := by decide +kernel
theorem dX3_free_25 : decode cX3_free 25 = .ok (.aload_n 0, 1) := by decide +kernel
theorem dX3_free_26 : decode cX3_free 26 = .ok (.aload_n 0, 1) := by decide +kernel
theorem dX3_free_27 : decode cX3_free 27 = .ok (.getfield 25, 3) := by decide +kernel
theorem dX3_free_30 : decode cX3_free 30 = .ok (.iload_n 1, 1) := by decide +kernel
theorem dX3_free_31 : decode cX3_free 31 = .ok (.invokevirtual 109, 3) := by decide +kernel
theorem dX3_free_34 : decode cX3_free 34 = .ok (.istore_n 2, 1) := by decide +kernel
theorem dX3_free_35 : decode cX3_free 35 = .ok (.iload_n 2, 1) := by decide +kernel
theorem dX3_free_36 : decode cX3_free 36 = .ok (.ifCond .eq 5, 3) := by decide +kernel
theorem dX3_free_39 : decode cX3_free 39 = .ok (.iload_n 2, 1) := by decide +kernel
theorem dX3_free_40 : decode cX3_free 40 = .ok (.ireturn, 1) := by decide +kernel
theorem dX3_free_41 : decode cX3_free 41 = .ok (.iinc 1 1, 3) := by decide +kernel
theorem dX3_free_44 : decode cX3_free 44 = .ok (.goto (-33), 3) := by decide +kernel
theorem dX3_free_47 : decode cX3_free 47 = .ok (.iconst 0, 1) := by decide +kernel
theorem dX3_free_48 : decode cX3_free 48 = .ok (.ireturn, 1) := by decide +kernel
theorem dX3_spine_0 : decode cX3_spine 0 = .ok (.aload_n 0, 1) := by decide +kernel
theorem dX3_spine_1 : decode cX3_spine 1 = .ok (.getfield 25, 3) := by decide +kernel
theorem dX3_spine_4 : decode cX3_spine 4 = .ok (.ifnonnull 7, 3) := by decide +kernel
theorem dX3_spine_7 : decode cX3_spine 7 = .ok (.iconst (-1), 1) := by decide +kernel
theorem dX3_spine_8 : decode cX3_spine 8 = .ok (.goto 11, 3) := by decide +kernel
theorem dX3_spine_11 : decode cX3_spine 11 = .ok (.aload_n 0, 1) := by decide +kernel
theorem dX3_spine_12 : decode cX3_spine 12 = .ok (.getfield 25, 3) := by decide +kernel
theorem dX3_spine_15 : decode cX3_spine 15 = .ok (.iload_n 1, 1) := by decide +kernel
theorem dX3_spine_16 : decode cX3_spine 16 = .ok (.invokevirtual 113, 3) := by decide +kernel
theorem dX3_spine_19 : decode cX3_spine 19 = .ok (.ireturn, 1) := by decide +kernel
theorem dX3_pass_0 : decode cX3_pass 0 = .ok (.aload_n 0, 1) := by decide +kernel
theorem dX3_pass_1 : decode cX3_pass 1 = .ok (.getfield 21, 3) := by decide +kernel
theorem dX3_pass_4 : decode cX3_pass 4 = .ok (.aload_n 0, 1) := by decide +kernel
theorem dX3_pass_5 : decode cX3_pass 5 = .ok (.getfield 21, 3) := by decide +kernel
theorem dX3_pass_8 : decode cX3_pass 8 = .ok (.iload_n 1, 1) := by decide +kernel
theorem dX3_pass_9 : decode cX3_pass 9 = .ok (.invokevirtual 116, 3) := by decide +kernel
theorem dX3_pass_12 : decode cX3_pass 12 = .ok (.invokevirtual 98, 3) := by decide +kernel
theorem dX3_pass_15 : decode cX3_pass 15 = .ok (.astore_n 2, 1) := by decide +kernel
theorem dX3_pass_16 : decode cX3_pass 16 = .ok (.aload_n 2, 1) := by decide +kernel
theorem dX3_pass_17 : decode cX3_pass 17 = .ok (.ifnonnull 5, 3) := by decide +kernel
theorem dX3_pass_20 : decode cX3_pass 20 = .ok (.iconst (-1), 1) := by decide +kernel
theorem dX3_pass_21 : decode cX3_pass 21 = .ok (.ireturn, 1) := by decide +kernel
theorem dX3_pass_22 : decode cX3_pass 22 = .ok (.aload_n 0, 1) := by decide +kernel
theorem dX3_pass_23 : decode cX3_pass 23 = .ok (.getfield 29, 3) := by decide +kernel
theorem dX3_pass_26 : decode cX3_pass 26 = .ok (.ifnull 14, 3) := by decide +kernel
theorem dX3_pass_29 : decode cX3_pass 29 = .ok (.aload_n 0, 1) := by decide +kernel
theorem dX3_pass_30 : decode cX3_pass 30 = .ok (.getfield 29, 3) := by decide +kernel
theorem dX3_pass_33 : decode cX3_pass 33 = .ok (.aload_n 2, 1) := by decide +kernel
theorem dX3_pass_34 : decode cX3_pass 34 = .ok (.invokestatic 102, 3) := by decide +kernel
theorem dX3_pass_37 : decode cX3_pass 37 = .ok (.ifCond .gt 7, 3) := by decide +kernel
theorem dX3_pass_40 : decode cX3_pass 40 = .ok (.iconst 1, 1) := by decide +kernel
theorem dX3_pass_41 : decode cX3_pass 41 = .ok (.goto 4, 3) := by decide +kernel
theorem dX3_pass_44 : decode cX3_pass 44 = .ok (.iconst 0, 1) := by decide +kernel
theorem dX3_pass_45 : decode cX3_pass 45 = .ok (.istore_n 3, 1) := by decide +kernel
theorem dX3_pass_46 : decode cX3_pass 46 = .ok (.aload_n 0, 1) := by decide +kernel
theorem dX3_pass_47 : decode cX3_pass 47 = .ok (.aload_n 2, 1) := by decide +kernel
theorem dX3_pass_48 : decode cX3_pass 48 = .ok (.putfield 29, 3) := by decide +kernel
theorem dX3_pass_51 : decode cX3_pass 51 = .ok (.iload_n 3, 1) := by decide +kernel
theorem dX3_pass_52 : decode cX3_pass 52 = .ok (.ifCond .eq 7, 3) := by decide +kernel
theorem dX3_pass_55 : decode cX3_pass 55 = .ok (.iconst 1, 1) := by decide +kernel
theorem dX3_pass_56 : decode cX3_pass 56 = .ok (.goto 4, 3) := by decide +kernel
theorem dX3_pass_59 : decode cX3_pass 59 = .ok (.iconst 0, 1) := by decide +kernel
theorem dX3_pass_60 : decode cX3_pass 60 = .ok (.ireturn, 1) := by decide +kernel
theorem dX3_freeWithMore_0 : decode cX3_freeWithMore 0 = .ok (.aload_n 1, 1) := by decide +kernel
theorem dX3_freeWithMore_1 : decode cX3_freeWithMore 1 = .ok (.getfield 106, 3) := by decide +kernel
theorem dX3_freeWithMore_4 : decode cX3_freeWithMore 4 = .ok (.iload_n 2, 1) := by decide +kernel
theorem dX3_freeWithMore_5 : decode cX3_freeWithMore 5 = .ok (.iadd, 1) := by decide +kernel
theorem dX3_freeWithMore_6 : decode cX3_freeWithMore 6 = .ok (.istore_n 3, 1) := by decide +kernel
theorem dX3_freeWithMore_7 : decode cX3_freeWithMore 7 = .ok (.bipush 6, 2) := by decide +kernel
theorem dX3_freeWithMore_9 : decode cX3_freeWithMore 9 = .ok (.iload_n 3, 1) := by decide +kernel
theorem dX3_freeWithMore_10 : decode cX3_freeWithMore 10 = .ok (.isub, 1) := by decide +kernel
theorem dX3_freeWithMore_11 : decode cX3_freeWithMore 11 = .ok (.invokestatic 119, 3) := by decide +kernel
theorem dX3_freeWithMore_14 : decode cX3_freeWithMore 14 = .ok (.l2i, 1) := by decide +kernel
theorem dX3_freeWithMore_15 : decode cX3_freeWithMore 15 = .ok (.istore 4, 2) := by decide +kernel
theorem dX3_freeWithMore_17 : decode cX3_freeWithMore 17 = .ok (.iload_n 2, 1) := by decide +kernel
theorem dX3_freeWithMore_18 : decode cX3_freeWithMore 18 = .ok (.invokestatic 119, 3) := by decide +kernel
theorem dX3_freeWithMore_21 : decode cX3_freeWithMore 21 = .ok (.l2i, 1) := by decide +kernel
theorem dX3_freeWithMore_22 : decode cX3_freeWithMore 22 = .ok (.istore 5, 2) := by decide +kernel
theorem dX3_freeWithMore_24 : decode cX3_freeWithMore 24 = .ok (.aload_n 1, 1) := by decide +kernel
theorem dX3_freeWithMore_25 : decode cX3_freeWithMore 25 = .ok (.invokevirtual 123, 3) := by decide +kernel
theorem dX3_freeWithMore_28 : decode cX3_freeWithMore 28 = .ok (.iload 5, 2) := by decide +kernel
theorem dX3_freeWithMore_30 : decode cX3_freeWithMore 30 = .ok (.imul, 1) := by decide +kernel
theorem dX3_freeWithMore_31 : decode cX3_freeWithMore 31 = .ok (.istore 6, 2) := by decide +kernel
theorem dX3_freeWithMore_33 : decode cX3_freeWithMore 33 = .ok (.iload 5, 2) := by decide +kernel
theorem dX3_freeWithMore_35 : decode cX3_freeWithMore 35 = .ok (.bipush 10, 2) := by decide +kernel
theorem dX3_freeWithMore_37 : decode cX3_freeWithMore 37 = .ok (.idiv, 1) := by decide +kernel
theorem dX3_freeWithMore_38 : decode cX3_freeWithMore 38 = .ok (.istore 7, 2) := by decide +kernel
theorem dX3_freeWithMore_40 : decode cX3_freeWithMore 40 = .ok (.iload 7, 2) := by decide +kernel
theorem dX3_freeWithMore_42 : decode cX3_freeWithMore 42 = .ok (.iload 5, 2) := by decide +kernel
theorem dX3_freeWithMore_44 : decode cX3_freeWithMore 44 = .ok (.if_icmp .ge 42, 3) := by decide +kernel
theorem dX3_freeWithMore_47 : decode cX3_freeWithMore 47 = .ok (.iload 7, 2) := by decide +kernel
theorem dX3_freeWithMore_49 : decode cX3_freeWithMore 49 = .ok (.invokestatic 126, 3) := by decide +kernel
theorem dX3_freeWithMore_52 : decode cX3_freeWithMore 52 = .ok (.ifCond .eq 28, 3) := by decide +kernel
theorem dX3_freeWithMore_55 : decode cX3_freeWithMore 55 = .ok (.aload_n 0, 1) := by decide +kernel
theorem dX3_freeWithMore_56 : decode cX3_freeWithMore 56 = .ok (.getfield 21, 3) := by decide +kernel
theorem dX3_freeWithMore_59 : decode cX3_freeWithMore 59 = .ok (.aload_n 1, 1) := by decide +kernel
theorem dX3_freeWithMore_60 : decode cX3_freeWithMore 60 = .ok (.iload 6, 2) := by decide +kernel
theorem dX3_freeWithMore_62 : decode cX3_freeWithMore 62 = .ok (.iload 7, 2) := by decide +kernel
theorem dX3_freeWithMore_64 : decode cX3_freeWithMore 64 = .ok (.iadd, 1) := by decide +kernel
theorem dX3_freeWithMore_65 : decode cX3_freeWithMore 65 = .ok (.iload 4, 2) := by decide +kernel
theorem dX3_freeWithMore_67 : decode cX3_freeWithMore 67 = .ok (.imul, 1) := by decide +kernel
theorem dX3_freeWithMore_68 : decode cX3_freeWithMore 68 = .ok (.invokevirtual 130, 3) := by decide +kernel
theorem dX3_freeWithMore_71 : decode cX3_freeWithMore 71 = .ok (.ifCond .ne 9, 3) := by decide +kernel
theorem dX3_freeWithMore_74 : decode cX3_freeWithMore 74 = .ok (.iload 6, 2) := by decide +kernel
theorem dX3_freeWithMore_76 : decode cX3_freeWithMore 76 = .ok (.iload 7, 2) := by decide +kernel
theorem dX3_freeWithMore_78 : decode cX3_freeWithMore 78 = .ok (.iadd, 1) := by decide +kernel
theorem dX3_freeWithMore_79 : decode cX3_freeWithMore 79 = .ok (.ireturn, 1) := by decide +kernel
theorem dX3_freeWithMore_80 : decode cX3_freeWithMore 80 = .ok (.iinc 7 1, 3) := by decide +kernel
theorem dX3_freeWithMore_83 : decode cX3_freeWithMore 83 = .ok (.goto (-43), 3) := by decide +kernel
theorem dX3_freeWithMore_86 : decode cX3_freeWithMore 86 = .ok (.iconst 0, 1) := by decide +kernel
theorem dX3_freeWithMore_87 : decode cX3_freeWithMore 87 = .ok (.ireturn, 1) := by decide +kernel
theorem dX3_hasNoZero_0 : decode cX3_hasNoZero 0 = .ok (.iload_n 0, 1) := by decide +kernel
theorem dX3_hasNoZero_1 : decode cX3_hasNoZero 1 = .ok (.istore_n 1, 1) := by decide +kernel
theorem dX3_hasNoZero_2 : decode cX3_hasNoZero 2 = .ok (.iconst 0, 1) := by decide +kernel
theorem dX3_hasNoZero_3 : decode cX3_hasNoZero 3 = .ok (.istore_n 2, 1) := by decide +kernel
theorem dX3_hasNoZero_4 : decode cX3_hasNoZero 4 = .ok (.iload_n 2, 1) := by decide +kernel
theorem dX3_hasNoZero_5 : decode cX3_hasNoZero 5 = .ok (.bipush 6, 2) := by decide +kernel
theorem dX3_hasNoZero_7 : decode cX3_hasNoZero 7 = .ok (.if_icmp .ge 27, 3) := by decide +kernel
theorem dX3_hasNoZero_10 : decode cX3_hasNoZero 10 = .ok (.iload_n 1, 1) := by decide +kernel
theorem dX3_hasNoZero_11 : decode cX3_hasNoZero 11 = .ok (.ifCond .le 23, 3) := by decide +kernel
theorem dX3_hasNoZero_14 : decode cX3_hasNoZero 14 = .ok (.iload_n 1, 1) := by decide +kernel
theorem dX3_hasNoZero_15 : decode cX3_hasNoZero 15 = .ok (.bipush 10, 2) := by decide +kernel
theorem dX3_hasNoZero_17 : decode cX3_hasNoZero 17 = .ok (.irem, 1) := by decide +kernel
theorem dX3_hasNoZero_18 : decode cX3_hasNoZero 18 = .ok (.ifCond .ne 5, 3) := by decide +kernel
theorem dX3_hasNoZero_21 : decode cX3_hasNoZero 21 = .ok (.iconst 0, 1) := by decide +kernel
theorem dX3_hasNoZero_22 : decode cX3_hasNoZero 22 = .ok (.ireturn, 1) := by decide +kernel
theorem dX3_hasNoZero_23 : decode cX3_hasNoZero 23 = .ok (.iload_n 1, 1) := by decide +kernel
theorem dX3_hasNoZero_24 : decode cX3_hasNoZero 24 = .ok (.bipush 10, 2) := by decide +kernel
theorem dX3_hasNoZero_26 : decode cX3_hasNoZero 26 = .ok (.idiv, 1) := by decide +kernel
theorem dX3_hasNoZero_27 : decode cX3_hasNoZero 27 = .ok (.istore_n 1, 1) := by decide +kernel
theorem dX3_hasNoZero_28 : decode cX3_hasNoZero 28 = .ok (.iinc 2 1, 3) := by decide +kernel
theorem dX3_hasNoZero_31 : decode cX3_hasNoZero 31 = .ok (.goto (-27), 3) := by decide +kernel
theorem dX3_hasNoZero_34 : decode cX3_hasNoZero 34 = .ok (.iconst 1, 1) := by decide +kernel
theorem dX3_hasNoZero_35 : decode cX3_hasNoZero 35 = .ok (.ireturn, 1) := by decide +kernel
theorem dX3_powerOfTen_0 : decode cX3_powerOfTen 0 = .ok (.lconst 1, 1) := by decide +kernel
theorem dX3_powerOfTen_1 : decode cX3_powerOfTen 1 = .ok (.lstore_n 1, 1) := by decide +kernel
theorem dX3_powerOfTen_2 : decode cX3_powerOfTen 2 = .ok (.iconst 0, 1) := by decide +kernel
theorem dX3_powerOfTen_3 : decode cX3_powerOfTen 3 = .ok (.istore_n 3, 1) := by decide +kernel
theorem dX3_powerOfTen_4 : decode cX3_powerOfTen 4 = .ok (.iload_n 3, 1) := by decide +kernel
theorem dX3_powerOfTen_5 : decode cX3_powerOfTen 5 = .ok (.iload_n 0, 1) := by decide +kernel
theorem dX3_powerOfTen_6 : decode cX3_powerOfTen 6 = .ok (.if_icmp .ge 15, 3) := by decide +kernel
theorem dX3_powerOfTen_9 : decode cX3_powerOfTen 9 = .ok (.lload_n 1, 1) := by decide +kernel
theorem dX3_powerOfTen_10 : decode cX3_powerOfTen 10 = .ok (.ldc2_w 134, 3) := by decide +kernel
theorem dX3_powerOfTen_13 : decode cX3_powerOfTen 13 = .ok (.lmul, 1) := by decide +kernel
theorem dX3_powerOfTen_14 : decode cX3_powerOfTen 14 = .ok (.lstore_n 1, 1) := by decide +kernel
theorem dX3_powerOfTen_15 : decode cX3_powerOfTen 15 = .ok (.iinc 3 1, 3) := by decide +kernel
theorem dX3_powerOfTen_18 : decode cX3_powerOfTen 18 = .ok (.goto (-14), 3) := by decide +kernel
theorem dX3_powerOfTen_21 : decode cX3_powerOfTen 21 = .ok (.lload_n 1, 1) := by decide +kernel
theorem dX3_powerOfTen_22 : decode cX3_powerOfTen 22 = .ok (.lreturn, 1) := by decide +kernel
theorem dX3_order_0 : decode cX3_order 0 = .ok (.aload_n 0, 1) := by decide +kernel
theorem dX3_order_1 : decode cX3_order 1 = .ok (.getfield 136, 3) := by decide +kernel
theorem dX3_order_4 : decode cX3_order 4 = .ok (.i2l, 1) := by decide +kernel
theorem dX3_order_5 : decode cX3_order 5 = .ok (.aload_n 1, 1) := by decide +kernel
theorem dX3_order_6 : decode cX3_order 6 = .ok (.getfield 136, 3) := by decide +kernel
theorem dX3_order_9 : decode cX3_order 9 = .ok (.i2l, 1) := by decide +kernel
theorem dX3_order_10 : decode cX3_order 10 = .ok (.invokestatic 139, 3) := by decide +kernel
theorem dX3_order_13 : decode cX3_order 13 = .ok (.istore_n 2, 1) := by decide +kernel
theorem dX3_order_14 : decode cX3_order 14 = .ok (.iload_n 2, 1) := by decide +kernel
theorem dX3_order_15 : decode cX3_order 15 = .ok (.ifCond .ne 15, 3) := by decide +kernel
theorem dX3_order_18 : decode cX3_order 18 = .ok (.aload_n 0, 1) := by decide +kernel
theorem dX3_order_19 : decode cX3_order 19 = .ok (.getfield 59, 3) := by decide +kernel
theorem dX3_order_22 : decode cX3_order 22 = .ok (.aload_n 1, 1) := by decide +kernel
theorem dX3_order_23 : decode cX3_order 23 = .ok (.getfield 59, 3) := by decide +kernel
theorem dX3_order_26 : decode cX3_order 26 = .ok (.invokestatic 139, 3) := by decide +kernel
theorem dX3_order_29 : decode cX3_order 29 = .ok (.istore_n 2, 1) := by decide +kernel
theorem dX3_order_30 : decode cX3_order 30 = .ok (.iload_n 2, 1) := by decide +kernel
theorem dX3_order_31 : decode cX3_order 31 = .ok (.ifCond .ne 17, 3) := by decide +kernel
theorem dX3_order_34 : decode cX3_order 34 = .ok (.aload_n 0, 1) := by decide +kernel
theorem dX3_order_35 : decode cX3_order 35 = .ok (.getfield 143, 3) := by decide +kernel
theorem dX3_order_38 : decode cX3_order 38 = .ok (.i2l, 1) := by decide +kernel
theorem dX3_order_39 : decode cX3_order 39 = .ok (.aload_n 1, 1) := by decide +kernel
theorem dX3_order_40 : decode cX3_order 40 = .ok (.getfield 143, 3) := by decide +kernel
theorem dX3_order_43 : decode cX3_order 43 = .ok (.i2l, 1) := by decide +kernel
theorem dX3_order_44 : decode cX3_order 44 = .ok (.invokestatic 139, 3) := by decide +kernel
theorem dX3_order_47 : decode cX3_order 47 = .ok (.istore_n 2, 1) := by decide +kernel
theorem dX3_order_48 : decode cX3_order 48 = .ok (.iload_n 2, 1) := by decide +kernel
theorem dX3_order_49 : decode cX3_order 49 = .ok (.ifCond .ne 17, 3) := by decide +kernel
theorem dX3_order_52 : decode cX3_order 52 = .ok (.aload_n 0, 1) := by decide +kernel
theorem dX3_order_53 : decode cX3_order 53 = .ok (.getfield 63, 3) := by decide +kernel
theorem dX3_order_56 : decode cX3_order 56 = .ok (.i2l, 1) := by decide +kernel
theorem dX3_order_57 : decode cX3_order 57 = .ok (.aload_n 1, 1) := by decide +kernel
theorem dX3_order_58 : decode cX3_order 58 = .ok (.getfield 63, 3) := by decide +kernel
theorem dX3_order_61 : decode cX3_order 61 = .ok (.i2l, 1) := by decide +kernel
theorem dX3_order_62 : decode cX3_order 62 = .ok (.invokestatic 139, 3) := by decide +kernel
theorem dX3_order_65 : decode cX3_order 65 = .ok (.istore_n 2, 1) := by decide +kernel
theorem dX3_order_66 : decode cX3_order 66 = .ok (.iload_n 2, 1) := by decide +kernel
theorem dX3_order_67 : decode cX3_order 67 = .ok (.ifCond .ne 17, 3) := by decide +kernel
theorem dX3_order_70 : decode cX3_order 70 = .ok (.aload_n 0, 1) := by decide +kernel
theorem dX3_order_71 : decode cX3_order 71 = .ok (.getfield 67, 3) := by decide +kernel
theorem dX3_order_74 : decode cX3_order 74 = .ok (.i2l, 1) := by decide +kernel
theorem dX3_order_75 : decode cX3_order 75 = .ok (.aload_n 1, 1) := by decide +kernel
theorem dX3_order_76 : decode cX3_order 76 = .ok (.getfield 67, 3) := by decide +kernel
theorem dX3_order_79 : decode cX3_order 79 = .ok (.i2l, 1) := by decide +kernel
theorem dX3_order_80 : decode cX3_order 80 = .ok (.invokestatic 139, 3) := by decide +kernel
theorem dX3_order_83 : decode cX3_order 83 = .ok (.istore_n 2, 1) := by decide +kernel
theorem dX3_order_84 : decode cX3_order 84 = .ok (.iload_n 2, 1) := by decide +kernel
theorem dX3_order_85 : decode cX3_order 85 = .ok (.ifCond .ne 17, 3) := by decide +kernel
theorem dX3_order_88 : decode cX3_order 88 = .ok (.aload_n 0, 1) := by decide +kernel
theorem dX3_order_89 : decode cX3_order 89 = .ok (.getfield 70, 3) := by decide +kernel
theorem dX3_order_92 : decode cX3_order 92 = .ok (.i2l, 1) := by decide +kernel
theorem dX3_order_93 : decode cX3_order 93 = .ok (.aload_n 1, 1) := by decide +kernel
theorem dX3_order_94 : decode cX3_order 94 = .ok (.getfield 70, 3) := by decide +kernel
theorem dX3_order_97 : decode cX3_order 97 = .ok (.i2l, 1) := by decide +kernel
theorem dX3_order_98 : decode cX3_order 98 = .ok (.invokestatic 139, 3) := by decide +kernel
theorem dX3_order_101 : decode cX3_order 101 = .ok (.istore_n 2, 1) := by decide +kernel
theorem dX3_order_102 : decode cX3_order 102 = .ok (.iload_n 2, 1) := by decide +kernel
theorem dX3_order_103 : decode cX3_order 103 = .ok (.ifCond .ne 17, 3) := by decide +kernel
theorem dX3_order_106 : decode cX3_order 106 = .ok (.aload_n 0, 1) := by decide +kernel
theorem dX3_order_107 : decode cX3_order 107 = .ok (.getfield 146, 3) := by decide +kernel
theorem dX3_order_110 : decode cX3_order 110 = .ok (.i2l, 1) := by decide +kernel
theorem dX3_order_111 : decode cX3_order 111 = .ok (.aload_n 1, 1) := by decide +kernel
theorem dX3_order_112 : decode cX3_order 112 = .ok (.getfield 146, 3) := by decide +kernel
theorem dX3_order_115 : decode cX3_order 115 = .ok (.i2l, 1) := by decide +kernel
theorem dX3_order_116 : decode cX3_order 116 = .ok (.invokestatic 139, 3) := by decide +kernel
theorem dX3_order_119 : decode cX3_order 119 = .ok (.istore_n 2, 1) := by decide +kernel
theorem dX3_order_120 : decode cX3_order 120 = .ok (.iload_n 2, 1) := by decide +kernel
theorem dX3_order_121 : decode cX3_order 121 = .ok (.ifCond .ne 17, 3) := by decide +kernel
theorem dX3_order_124 : decode cX3_order 124 = .ok (.aload_n 0, 1) := by decide +kernel
theorem dX3_order_125 : decode cX3_order 125 = .ok (.getfield 149, 3) := by decide +kernel
theorem dX3_order_128 : decode cX3_order 128 = .ok (.aload_n 1, 1) := by decide +kernel
theorem dX3_order_129 : decode cX3_order 129 = .ok (.getfield 149, 3) := by decide +kernel
theorem dX3_order_132 : decode cX3_order 132 = .ok (.invokestatic 139, 3) := by decide +kernel
theorem dX3_order_135 : decode cX3_order 135 = .ok (.goto 4, 3) := by decide +kernel
theorem dX3_order_138 : decode cX3_order 138 = .ok (.iload_n 2, 1) := by decide +kernel
theorem dX3_order_139 : decode cX3_order 139 = .ok (.ireturn, 1) := by decide +kernel
theorem dX3_side_0 : decode cX3_side 0 = .ok (.lload_n 0, 1) := by decide +kernel
theorem dX3_side_1 : decode cX3_side 1 = .ok (.lload_n 2, 1) := by decide +kernel
theorem dX3_side_2 : decode cX3_side 2 = .ok (.lcmp, 1) := by decide +kernel
theorem dX3_side_3 : decode cX3_side 3 = .ok (.ifCond .ne 5, 3) := by decide +kernel
theorem dX3_side_6 : decode cX3_side 6 = .ok (.iconst 0, 1) := by decide +kernel
theorem dX3_side_7 : decode cX3_side 7 = .ok (.ireturn, 1) := by decide +kernel
theorem dX3_side_8 : decode cX3_side 8 = .ok (.lload_n 0, 1) := by decide +kernel
theorem dX3_side_9 : decode cX3_side 9 = .ok (.lload_n 2, 1) := by decide +kernel
theorem dX3_side_10 : decode cX3_side 10 = .ok (.lcmp, 1) := by decide +kernel
theorem dX3_side_11 : decode cX3_side 11 = .ok (.ifCond .ge 7, 3) := by decide +kernel
theorem dX3_side_14 : decode cX3_side 14 = .ok (.iconst (-1), 1) := by decide +kernel
theorem dX3_side_15 : decode cX3_side 15 = .ok (.goto 4, 3) := by decide +kernel
theorem dX3_side_18 : decode cX3_side 18 = .ok (.iconst 1, 1) := by decide +kernel
theorem dX3_side_19 : decode cX3_side 19 = .ok (.ireturn, 1) := by decide +kernel
end
section
theorem dX4_init_0 : decode cX4_init 0 = .ok (.aload_n 0, 1) := by decide +kernel
theorem dX4_init_1 : decode cX4_init 1 = .ok (.invokespecial 1, 3) := by decide +kernel
theorem dX4_init_4 : decode cX4_init 4 = .ok (.aload_n 0, 1) := by decide +kernel
theorem dX4_init_5 : decode cX4_init 5 = .ok (.bipush 60, 2) := by decide +kernel
theorem dX4_init_7 : decode cX4_init 7 = .ok (.newarray .byte, 2) := by decide +kernel
theorem dX4_init_9 : decode cX4_init 9 = .ok (.putfield 7, 3) := by decide +kernel
theorem dX4_init_12 : decode cX4_init 12 = .ok (.aload_n 0, 1) := by decide +kernel
theorem dX4_init_13 : decode cX4_init 13 = .ok (.bipush 40, 2) := by decide +kernel
theorem dX4_init_15 : decode cX4_init 15 = .ok (.newarray .int, 2) := by decide +kernel
theorem dX4_init_17 : decode cX4_init 17 = .ok (.putfield 13, 3) := by decide +kernel
theorem dX4_init_20 : decode cX4_init 20 = .ok (.aload_n 0, 1) := by decide +kernel
theorem dX4_init_21 : decode cX4_init 21 = .ok (.bipush 40, 2) := by decide +kernel
theorem dX4_init_23 : decode cX4_init 23 = .ok (.newarray .int, 2) := by decide +kernel
theorem dX4_init_25 : decode cX4_init 25 = .ok (.putfield 17, 3) := by decide +kernel
theorem dX4_init_28 : decode cX4_init 28 = .ok (.aload_n 0, 1) := by decide +kernel
theorem dX4_init_29 : decode cX4_init 29 = .ok (.sipush 2400, 3) := by decide +kernel
theorem dX4_init_32 : decode cX4_init 32 = .ok (.newarray .int, 2) := by decide +kernel
theorem dX4_init_34 : decode cX4_init 34 = .ok (.putfield 20, 3) := by decide +kernel
theorem dX4_init_37 : decode cX4_init 37 = .ok (.aload_n 0, 1) := by decide +kernel
theorem dX4_init_38 : decode cX4_init 38 = .ok (.bipush 60, 2) := by decide +kernel
theorem dX4_init_40 : decode cX4_init 40 = .ok (.newarray .int, 2) := by decide +kernel
theorem dX4_init_42 : decode cX4_init 42 = .ok (.putfield 23, 3) := by decide +kernel
theorem dX4_init_45 : decode cX4_init 45 = .ok (.aload_n 0, 1) := by decide +kernel
theorem dX4_init_46 : decode cX4_init 46 = .ok (.bipush 40, 2) := by decide +kernel
theorem dX4_init_48 : decode cX4_init 48 = .ok (.newarray .int, 2) := by decide +kernel
theorem dX4_init_50 : decode cX4_init 50 = .ok (.putfield 26, 3) := by decide +kernel
theorem dX4_init_53 : decode cX4_init 53 = .ok (.aload_n 0, 1) := by decide +kernel
theorem dX4_init_54 : decode cX4_init 54 = .ok (.iload_n 1, 1) := by decide +kernel
theorem dX4_init_55 : decode cX4_init 55 = .ok (.iconst 1, 1) := by decide +kernel
theorem dX4_init_56 : decode cX4_init 56 = .ok (.if_icmp .ge 7, 3) := by decide +kernel
theorem dX4_init_59 : decode cX4_init 59 = .ok (.iconst 0, 1) := by decide +kernel
theorem dX4_init_60 : decode cX4_init 60 = .ok (.goto 4, 3) := by decide +kernel
theorem dX4_init_63 : decode cX4_init 63 = .ok (.iconst 1, 1) := by decide +kernel
theorem dX4_init_64 : decode cX4_init 64 = .ok (.putfield 29, 3) := by decide +kernel
theorem dX4_init_67 : decode cX4_init 67 = .ok (.return_, 1) := by decide +kernel
theorem dX4_thrown_0 : decode cX4_thrown 0 = .ok (.aload_n 0, 1) := by decide +kernel
theorem dX4_thrown_1 : decode cX4_thrown 1 = .ok (.getfield 33, 3) := by decide +kernel
theorem dX4_thrown_4 : decode cX4_thrown 4 = .ok (.ireturn, 1) := by decide +kernel
theorem dX4_sign_0 : decode cX4_sign 0 = .ok (.aload_n 0, 1) := by decide +kernel
theorem dX4_sign_1 : decode cX4_sign 1 = .ok (.iconst 0, 1) := by decide +kernel
theorem dX4_sign_2 : decode cX4_sign 2 = .ok (.putfield 33, 3) := by decide +kernel
theorem dX4_sign_5 : decode cX4_sign 5 = .ok (.aload_n 0, 1) := by decide +kernel
theorem dX4_sign_6 : decode cX4_sign 6 = .ok (.getfield 36, 3) := by decide +kernel
theorem dX4_sign_9 : decode cX4_sign 9 = .ok (.bipush 60, 2) := by decide +kernel
theorem dX4_sign_11 : decode cX4_sign 11 = .ok (.if_icmp .ge 24, 3) := by decide +kernel
theorem dX4_sign_14 : decode cX4_sign 14 = .ok (.aload_n 0, 1) := by decide +kernel
theorem dX4_sign_15 : decode cX4_sign 15 = .ok (.getfield 7, 3) := by decide +kernel
theorem dX4_sign_18 : decode cX4_sign 18 = .ok (.aload_n 0, 1) := by decide +kernel
theorem dX4_sign_19 : decode cX4_sign 19 = .ok (.getfield 36, 3) := by decide +kernel
theorem dX4_sign_22 : decode cX4_sign 22 = .ok (.iload_n 1, 1) := by decide +kernel
theorem dX4_sign_23 : decode cX4_sign 23 = .ok (.i2b, 1) := by decide +kernel
theorem dX4_sign_24 : decode cX4_sign 24 = .ok (.bastore, 1) := by decide +kernel
theorem dX4_sign_25 : decode cX4_sign 25 = .ok (.aload_n 0, 1) := by decide +kernel
theorem dX4_sign_26 : decode cX4_sign 26 = .ok (.dup, 1) := by decide +kernel
theorem dX4_sign_27 : decode cX4_sign 27 = .ok (.getfield 36, 3) := by decide +kernel
theorem dX4_sign_30 : decode cX4_sign 30 = .ok (.iconst 1, 1) := by decide +kernel
theorem dX4_sign_31 : decode cX4_sign 31 = .ok (.iadd, 1) := by decide +kernel
theorem dX4_sign_32 : decode cX4_sign 32 = .ok (.putfield 36, 3) := by decide +kernel
theorem dX4_sign_35 : decode cX4_sign 35 = .ok (.return_, 1) := by decide +kernel
theorem dX4_look_0 : decode cX4_look 0 = .ok (.aload_n 0, 1) := by decide +kernel
theorem dX4_look_1 : decode cX4_look 1 = .ok (.getfield 39, 3) := by decide +kernel
theorem dX4_look_4 : decode cX4_look 4 = .ok (.aload_n 0, 1) := by decide +kernel
theorem dX4_look_5 : decode cX4_look 5 = .ok (.getfield 36, 3) := by decide +kernel
theorem dX4_look_8 : decode cX4_look 8 = .ok (.if_icmp .ge 19, 3) := by decide +kernel
theorem dX4_look_11 : decode cX4_look 11 = .ok (.aload_n 0, 1) := by decide +kernel
theorem dX4_look_12 : decode cX4_look 12 = .ok (.getfield 7, 3) := by decide +kernel
theorem dX4_look_15 : decode cX4_look 15 = .ok (.aload_n 0, 1) := by decide +kernel
theorem dX4_look_16 : decode cX4_look 16 = .ok (.getfield 39, 3) := by decide +kernel
theorem dX4_look_19 : decode cX4_look 19 = .ok (.baload, 1) := by decide +kernel
theorem dX4_look_20 : decode cX4_look 20 = .ok (.sipush 255, 3) := by decide +kernel
theorem dX4_look_23 : decode cX4_look 23 = .ok (.iand, 1) := by decide +kernel
theorem dX4_look_24 : decode cX4_look 24 = .ok (.goto 4, 3) := by decide +kernel
theorem dX4_look_27 : decode cX4_look 27 = .ok (.iconst (-1), 1) := by decide +kernel
theorem dX4_look_28 : decode cX4_look 28 = .ok (.ireturn, 1) := by decide +kernel
theorem dX4_bad_0 : decode cX4_bad 0 = .ok (.aload_n 0, 1) := by decide +kernel
theorem dX4_bad_1 : decode cX4_bad 1 = .ok (.iload_n 1, 1) := by decide +kernel
theorem dX4_bad_2 : decode cX4_bad 2 = .ok (.putfield 42, 3) := by decide +kernel
theorem dX4_bad_5 : decode cX4_bad 5 = .ok (.iconst 0, 1) := by decide +kernel
theorem dX4_bad_6 : decode cX4_bad 6 = .ok (.ireturn, 1) := by decide +kernel
theorem dX4_isDigit_0 : decode cX4_isDigit 0 = .ok (.iload_n 0, 1) := by decide +kernel
theorem dX4_isDigit_1 : decode cX4_isDigit 1 = .ok (.bipush 48, 2) := by decide +kernel
theorem dX4_isDigit_3 : decode cX4_isDigit 3 = .ok (.if_icmp .lt 13, 3) := by decide +kernel
theorem dX4_isDigit_6 : decode cX4_isDigit 6 = .ok (.iload_n 0, 1) := by decide +kernel
theorem dX4_isDigit_7 : decode cX4_isDigit 7 = .ok (.bipush 57, 2) := by decide +kernel
theorem dX4_isDigit_9 : decode cX4_isDigit 9 = .ok (.if_icmp .gt 7, 3) := by decide +kernel
theorem dX4_isDigit_12 : decode cX4_isDigit 12 = .ok (.iconst 1, 1) := by decide +kernel
theorem dX4_isDigit_13 : decode cX4_isDigit 13 = .ok (.goto 4, 3) := by decide +kernel
theorem dX4_isDigit_16 : decode cX4_isDigit 16 = .ok (.iconst 0, 1) := by decide +kernel
theorem dX4_isDigit_17 : decode cX4_isDigit 17 = .ok (.ireturn, 1) := by decide +kernel
theorem dX4_isCapital_0 : decode cX4_isCapital 0 = .ok (.iload_n 0, 1) := by decide +kernel
theorem dX4_isCapital_1 : decode cX4_isCapital 1 = .ok (.bipush 65, 2) := by decide +kernel
theorem dX4_isCapital_3 : decode cX4_isCapital 3 = .ok (.if_icmp .lt 13, 3) := by decide +kernel
theorem dX4_isCapital_6 : decode cX4_isCapital 6 = .ok (.iload_n 0, 1) := by decide +kernel
theorem dX4_isCapital_7 : decode cX4_isCapital 7 = .ok (.bipush 90, 2) := by decide +kernel
theorem dX4_isCapital_9 : decode cX4_isCapital 9 = .ok (.if_icmp .gt 7, 3) := by decide +kernel
theorem dX4_isCapital_12 : decode cX4_isCapital 12 = .ok (.iconst 1, 1) := by decide +kernel
theorem dX4_isCapital_13 : decode cX4_isCapital 13 = .ok (.goto 4, 3) := by decide +kernel
theorem dX4_isCapital_16 : decode cX4_isCapital 16 = .ok (.iconst 0, 1) := by decide +kernel
theorem dX4_isCapital_17 : decode cX4_isCapital 17 = .ok (.ireturn, 1) := by decide +kernel
theorem dX4_isSmall_0 : decode cX4_isSmall 0 = .ok (.iload_n 0, 1) := by decide +kernel
theorem dX4_isSmall_1 : decode cX4_isSmall 1 = .ok (.bipush 97, 2) := by decide +kernel
theorem dX4_isSmall_3 : decode cX4_isSmall 3 = .ok (.if_icmp .lt 13, 3) := by decide +kernel
theorem dX4_isSmall_6 : decode cX4_isSmall 6 = .ok (.iload_n 0, 1) := by decide +kernel
theorem dX4_isSmall_7 : decode cX4_isSmall 7 = .ok (.bipush 122, 2) := by decide +kernel
theorem dX4_isSmall_9 : decode cX4_isSmall 9 = .ok (.if_icmp .gt 7, 3) := by decide +kernel
theorem dX4_isSmall_12 : decode cX4_isSmall 12 = .ok (.iconst 1, 1) := by decide +kernel
theorem dX4_isSmall_13 : decode cX4_isSmall 13 = .ok (.goto 4, 3) := by decide +kernel
theorem dX4_isSmall_16 : decode cX4_isSmall 16 = .ok (.iconst 0, 1) := by decide +kernel
theorem dX4_isSmall_17 : decode cX4_isSmall 17 = .ok (.ireturn, 1) := by decide +kernel
theorem dX4_digits_0 : decode cX4_digits 0 = .ok (.iconst 0, 1) := by decide +kernel
theorem dX4_digits_1 : decode cX4_digits 1 = .ok (.istore_n 3, 1) := by decide +kernel
theorem dX4_digits_2 : decode cX4_digits 2 = .ok (.aload_n 0, 1) := by decide +kernel
theorem dX4_digits_3 : decode cX4_digits 3 = .ok (.invokevirtual 45, 3) := by decide +kernel
theorem dX4_digits_6 : decode cX4_digits 6 = .ok (.invokestatic 49, 3) := by decide +kernel
theorem dX4_digits_9 : decode cX4_digits 9 = .ok (.ifCond .eq 48, 3) := by decide +kernel
theorem dX4_digits_12 : decode cX4_digits 12 = .ok (.iload_n 3, 1) := by decide +kernel
theorem dX4_digits_13 : decode cX4_digits 13 = .ok (.iload_n 2, 1) := by decide +kernel
theorem dX4_digits_14 : decode cX4_digits 14 = .ok (.if_icmp .ne 12, 3) := by decide +kernel
theorem dX4_digits_17 : decode cX4_digits 17 = .ok (.aload_n 0, 1) := by decide +kernel
theorem dX4_digits_18 : decode cX4_digits 18 = .ok (.aload_n 0, 1) := by decide +kernel
theorem dX4_digits_19 : decode cX4_digits 19 = .ok (.getfield 39, 3) := by decide +kernel
theorem dX4_digits_22 : decode cX4_digits 22 = .ok (.invokevirtual 53, 3) := by decide +kernel
theorem dX4_digits_25 : decode cX4_digits 25 = .ok (.ireturn, 1) := by decide +kernel
theorem dX4_digits_26 : decode cX4_digits 26 = .ok (.aload_n 0, 1) := by decide +kernel
theorem dX4_digits_27 : decode cX4_digits 27 = .ok (.getfield 13, 3) := by decide +kernel
theorem dX4_digits_30 : decode cX4_digits 30 = .ok (.iload_n 1, 1) := by decide +kernel
theorem dX4_digits_31 : decode cX4_digits 31 = .ok (.iload_n 3, 1) := by decide +kernel
theorem dX4_digits_32 : decode cX4_digits 32 = .ok (.iadd, 1) := by decide +kernel
theorem dX4_digits_33 : decode cX4_digits 33 = .ok (.aload_n 0, 1) := by decide +kernel
theorem dX4_digits_34 : decode cX4_digits 34 = .ok (.invokevirtual 45, 3) := by decide +kernel
theorem dX4_digits_37 : decode cX4_digits 37 = .ok (.bipush 47, 2) := by decide +kernel
theorem dX4_digits_39 : decode cX4_digits 39 = .ok (.isub, 1) := by decide +kernel
theorem dX4_digits_40 : decode cX4_digits 40 = .ok (.iastore, 1) := by decide +kernel
theorem dX4_digits_41 : decode cX4_digits 41 = .ok (.iinc 3 1, 3) := by decide +kernel
theorem dX4_digits_44 : decode cX4_digits 44 = .ok (.aload_n 0, 1) := by decide +kernel
theorem dX4_digits_45 : decode cX4_digits 45 = .ok (.dup, 1) := by decide +kernel
theorem dX4_digits_46 : decode cX4_digits 46 = .ok (.getfield 39, 3) := by decide +kernel
theorem dX4_digits_49 : decode cX4_digits 49 = .ok (.iconst 1, 1) := by decide +kernel
theorem dX4_digits_50 : decode cX4_digits 50 = .ok (.iadd, 1) := by decide +kernel
theorem dX4_digits_51 : decode cX4_digits 51 = .ok (.putfield 39, 3) := by decide +kernel
theorem dX4_digits_54 : decode cX4_digits 54 = .ok (.goto (-52), 3) := by decide +kernel
theorem dX4_digits_57 : decode cX4_digits 57 = .ok (.iload_n 3, 1) := by decide +kernel
theorem dX4_digits_58 : decode cX4_digits 58 = .ok (.ifCond .ne 12, 3) := by decide +kernel
theorem dX4_digits_61 : decode cX4_digits 61 = .ok (.aload_n 0, 1) := by decide +kernel
theorem dX4_digits_62 : decode cX4_digits 62 = .ok (.aload_n 0, 1) := by decide +kernel
theorem dX4_digits_63 : decode cX4_digits 63 = .ok (.getfield 39, 3) := by decide +kernel
theorem dX4_digits_66 : decode cX4_digits 66 = .ok (.invokevirtual 53, 3) := by decide +kernel
theorem dX4_digits_69 : decode cX4_digits 69 = .ok (.ireturn, 1) := by decide +kernel
theorem dX4_digits_70 : decode cX4_digits 70 = .ok (.aload_n 0, 1) := by decide +kernel
theorem dX4_digits_71 : decode cX4_digits 71 = .ok (.getfield 13, 3) := by decide +kernel
theorem dX4_digits_74 : decode cX4_digits 74 = .ok (.iload_n 1, 1) := by decide +kernel
theorem dX4_digits_75 : decode cX4_digits 75 = .ok (.iload_n 3, 1) := by decide +kernel
theorem dX4_digits_76 : decode cX4_digits 76 = .ok (.iadd, 1) := by decide +kernel
theorem dX4_digits_77 : decode cX4_digits 77 = .ok (.iconst 1, 1) := by decide +kernel
theorem dX4_digits_78 : decode cX4_digits 78 = .ok (.isub, 1) := by decide +kernel
theorem dX4_digits_79 : decode cX4_digits 79 = .ok (.iaload, 1) := by decide +kernel
theorem dX4_digits_80 : decode cX4_digits 80 = .ok (.iconst 1, 1) := by decide +kernel
theorem dX4_digits_81 : decode cX4_digits 81 = .ok (.if_icmp .ne 16, 3) := by decide +kernel
theorem dX4_digits_84 : decode cX4_digits 84 = .ok (.aload_n 0, 1) := by decide +kernel
theorem dX4_digits_85 : decode cX4_digits 85 = .ok (.aload_n 0, 1) := by decide +kernel
theorem dX4_digits_86 : decode cX4_digits 86 = .ok (.getfield 39, 3) := by decide +kernel
theorem dX4_digits_89 : decode cX4_digits 89 = .ok (.iconst 1, 1) := by decide +kernel
theorem dX4_digits_90 : decode cX4_digits 90 = .ok (.isub, 1) := by decide +kernel
theorem dX4_digits_91 : decode cX4_digits 91 = .ok (.invokevirtual 53, 3) := by decide +kernel
theorem dX4_digits_94 : decode cX4_digits 94 = .ok (.ifCond .eq 7, 3) := by decide +kernel
theorem dX4_digits_97 : decode cX4_digits 97 = .ok (.iconst 1, 1) := by decide +kernel
theorem dX4_digits_98 : decode cX4_digits 98 = .ok (.goto 4, 3) := by decide +kernel
theorem dX4_digits_101 : decode cX4_digits 101 = .ok (.iconst 0, 1) := by decide +kernel
theorem dX4_digits_102 : decode cX4_digits 102 = .ok (.ireturn, 1) := by decide +kernel
theorem dX4_number_0 : decode cX4_number 0 = .ok (.iconst 0, 1) := by decide +kernel
theorem dX4_number_1 : decode cX4_number 1 = .ok (.istore_n 3, 1) := by decide +kernel
theorem dX4_number_2 : decode cX4_number 2 = .ok (.iconst 0, 1) := by decide +kernel
theorem dX4_number_3 : decode cX4_number 3 = .ok (.istore 4, 2) := by decide +kernel
theorem dX4_number_5 : decode cX4_number 5 = .ok (.aload_n 0, 1) := by decide +kernel
theorem dX4_number_6 : decode cX4_number 6 = .ok (.invokevirtual 45, 3) := by decide +kernel
theorem dX4_number_9 : decode cX4_number 9 = .ok (.invokestatic 49, 3) := by decide +kernel
theorem dX4_number_12 : decode cX4_number 12 = .ok (.ifCond .eq 61, 3) := by decide +kernel
theorem dX4_number_15 : decode cX4_number 15 = .ok (.iload_n 3, 1) := by decide +kernel
theorem dX4_number_16 : decode cX4_number 16 = .ok (.iload_n 2, 1) := by decide +kernel
theorem dX4_number_17 : decode cX4_number 17 = .ok (.if_icmp .eq 16, 3) := by decide +kernel
theorem dX4_number_20 : decode cX4_number 20 = .ok (.iload_n 3, 1) := by decide +kernel
theorem dX4_number_21 : decode cX4_number 21 = .ok (.ifCond .ne 21, 3) := by decide +kernel
theorem dX4_number_24 : decode cX4_number 24 = .ok (.aload_n 0, 1) := by decide +kernel
theorem dX4_number_25 : decode cX4_number 25 = .ok (.invokevirtual 45, 3) := by decide +kernel
theorem dX4_number_28 : decode cX4_number 28 = .ok (.bipush 48, 2) := by decide +kernel
theorem dX4_number_30 : decode cX4_number 30 = .ok (.if_icmp .ne 12, 3) := by decide +kernel
theorem dX4_number_33 : decode cX4_number 33 = .ok (.aload_n 0, 1) := by decide +kernel
theorem dX4_number_34 : decode cX4_number 34 = .ok (.aload_n 0, 1) := by decide +kernel
theorem dX4_number_35 : decode cX4_number 35 = .ok (.getfield 39, 3) := by decide +kernel
theorem dX4_number_38 : decode cX4_number 38 = .ok (.invokevirtual 53, 3) := by decide +kernel
theorem dX4_number_41 : decode cX4_number 41 = .ok (.ireturn, 1) := by decide +kernel
theorem dX4_number_42 : decode cX4_number 42 = .ok (.bipush 10, 2) := by decide +kernel
theorem dX4_number_44 : decode cX4_number 44 = .ok (.iload 4, 2) := by decide +kernel
theorem dX4_number_46 : decode cX4_number 46 = .ok (.imul, 1) := by decide +kernel
theorem dX4_number_47 : decode cX4_number 47 = .ok (.aload_n 0, 1) := by decide +kernel
theorem dX4_number_48 : decode cX4_number 48 = .ok (.invokevirtual 45, 3) := by decide +kernel
theorem dX4_number_51 : decode cX4_number 51 = .ok (.iadd, 1) := by decide +kernel
theorem dX4_number_52 : decode cX4_number 52 = .ok (.bipush 48, 2) := by decide +kernel
theorem dX4_number_54 : decode cX4_number 54 = .ok (.isub, 1) := by decide +kernel
theorem dX4_number_55 : decode cX4_number 55 = .ok (.istore 4, 2) := by decide +kernel
theorem dX4_number_57 : decode cX4_number 57 = .ok (.iinc 3 1, 3) := by decide +kernel
theorem dX4_number_60 : decode cX4_number 60 = .ok (.aload_n 0, 1) := by decide +kernel
theorem dX4_number_61 : decode cX4_number 61 = .ok (.dup, 1) := by decide +kernel
theorem dX4_number_62 : decode cX4_number 62 = .ok (.getfield 39, 3) := by decide +kernel
theorem dX4_number_65 : decode cX4_number 65 = .ok (.iconst 1, 1) := by decide +kernel
theorem dX4_number_66 : decode cX4_number 66 = .ok (.iadd, 1) := by decide +kernel
theorem dX4_number_67 : decode cX4_number 67 = .ok (.putfield 39, 3) := by decide +kernel
theorem dX4_number_70 : decode cX4_number 70 = .ok (.goto (-65), 3) := by decide +kernel
theorem dX4_number_73 : decode cX4_number 73 = .ok (.aload_n 0, 1) := by decide +kernel
theorem dX4_number_74 : decode cX4_number 74 = .ok (.getfield 13, 3) := by decide +kernel
theorem dX4_number_77 : decode cX4_number 77 = .ok (.iload_n 1, 1) := by decide +kernel
theorem dX4_number_78 : decode cX4_number 78 = .ok (.iload 4, 2) := by decide +kernel
theorem dX4_number_80 : decode cX4_number 80 = .ok (.iastore, 1) := by decide +kernel
theorem dX4_number_81 : decode cX4_number 81 = .ok (.iload_n 3, 1) := by decide +kernel
theorem dX4_number_82 : decode cX4_number 82 = .ok (.ifCond .gt 14, 3) := by decide +kernel
theorem dX4_number_85 : decode cX4_number 85 = .ok (.aload_n 0, 1) := by decide +kernel
theorem dX4_number_86 : decode cX4_number 86 = .ok (.aload_n 0, 1) := by decide +kernel
theorem dX4_number_87 : decode cX4_number 87 = .ok (.getfield 39, 3) := by decide +kernel
theorem dX4_number_90 : decode cX4_number 90 = .ok (.invokevirtual 53, 3) := by decide +kernel
theorem dX4_number_93 : decode cX4_number 93 = .ok (.ifCond .eq 7, 3) := by decide +kernel
theorem dX4_number_96 : decode cX4_number 96 = .ok (.iconst 1, 1) := by decide +kernel
theorem dX4_number_97 : decode cX4_number 97 = .ok (.goto 4, 3) := by decide +kernel
theorem dX4_number_100 : decode cX4_number 100 = .ok (.iconst 0, 1) := by decide +kernel
theorem dX4_number_101 : decode cX4_number 101 = .ok (.ireturn, 1) := by decide +kernel
theorem dX4_readClass_0 : decode cX4_readClass 0 = .ok (.aload_n 0, 1) := by decide +kernel
theorem dX4_readClass_1 : decode cX4_readClass 1 = .ok (.getfield 29, 3) := by decide +kernel
theorem dX4_readClass_4 : decode cX4_readClass 4 = .ok (.ifCond .ne 72, 3) := by decide +kernel
theorem dX4_readClass_7 : decode cX4_readClass 7 = .ok (.iconst 0, 1) := by decide +kernel
theorem dX4_readClass_8 : decode cX4_readClass 8 = .ok (.istore_n 1, 1) := by decide +kernel
theorem dX4_readClass_9 : decode cX4_readClass 9 = .ok (.iconst 0, 1) := by decide +kernel
theorem dX4_readClass_10 : decode cX4_readClass 10 = .ok (.istore_n 2, 1) := by decide +kernel
theorem dX4_readClass_11 : decode cX4_readClass 11 = .ok (.iload_n 2, 1) := by decide +kernel
theorem dX4_readClass_12 : decode cX4_readClass 12 = .ok (.iconst 3, 1) := by decide +kernel
theorem dX4_readClass_13 : decode cX4_readClass 13 = .ok (.if_icmp .ge 51, 3) := by decide +kernel
theorem dX4_readClass_16 : decode cX4_readClass 16 = .ok (.aload_n 0, 1) := by decide +kernel
theorem dX4_readClass_17 : decode cX4_readClass 17 = .ok (.invokevirtual 45, 3) := by decide +kernel
theorem dX4_readClass_20 : decode cX4_readClass 20 = .ok (.invokestatic 49, 3) := by decide +kernel
theorem dX4_readClass_23 : decode cX4_readClass 23 = .ok (.ifCond .ne 12, 3) := by decide +kernel
theorem dX4_readClass_26 : decode cX4_readClass 26 = .ok (.aload_n 0, 1) := by decide +kernel
theorem dX4_readClass_27 : decode cX4_readClass 27 = .ok (.aload_n 0, 1) := by decide +kernel
theorem dX4_readClass_28 : decode cX4_readClass 28 = .ok (.getfield 39, 3) := by decide +kernel
theorem dX4_readClass_31 : decode cX4_readClass 31 = .ok (.invokevirtual 53, 3) := by decide +kernel
theorem dX4_readClass_34 : decode cX4_readClass 34 = .ok (.ireturn, 1) := by decide +kernel
theorem dX4_readClass_35 : decode cX4_readClass 35 = .ok (.bipush 10, 2) := by decide +kernel
theorem dX4_readClass_37 : decode cX4_readClass 37 = .ok (.iload_n 1, 1) := by decide +kernel
theorem dX4_readClass_38 : decode cX4_readClass 38 = .ok (.imul, 1) := by decide +kernel
theorem dX4_readClass_39 : decode cX4_readClass 39 = .ok (.aload_n 0, 1) := by decide +kernel
theorem dX4_readClass_40 : decode cX4_readClass 40 = .ok (.invokevirtual 45, 3) := by decide +kernel
theorem dX4_readClass_43 : decode cX4_readClass 43 = .ok (.iadd, 1) := by decide +kernel
theorem dX4_readClass_44 : decode cX4_readClass 44 = .ok (.bipush 48, 2) := by decide +kernel
theorem dX4_readClass_46 : decode cX4_readClass 46 = .ok (.isub, 1) := by decide +kernel
theorem dX4_readClass_47 : decode cX4_readClass 47 = .ok (.istore_n 1, 1) := by decide +kernel
theorem dX4_readClass_48 : decode cX4_readClass 48 = .ok (.aload_n 0, 1) := by decide +kernel
theorem dX4_readClass_49 : decode cX4_readClass 49 = .ok (.dup, 1) := by decide +kernel
theorem dX4_readClass_50 : decode cX4_readClass 50 = .ok (.getfield 39, 3) := by decide +kernel
theorem dX4_readClass_53 : decode cX4_readClass 53 = .ok (.iconst 1, 1) := by decide +kernel
theorem dX4_readClass_54 : decode cX4_readClass 54 = .ok (.iadd, 1) := by decide +kernel
theorem dX4_readClass_55 : decode cX4_readClass 55 = .ok (.putfield 39, 3) := by decide +kernel
theorem dX4_readClass_58 : decode cX4_readClass 58 = .ok (.iinc 2 1, 3) := by decide +kernel
theorem dX4_readClass_61 : decode cX4_readClass 61 = .ok (.goto (-50), 3) := by decide +kernel
theorem dX4_readClass_64 : decode cX4_readClass 64 = .ok (.aload_n 0, 1) := by decide +kernel
theorem dX4_readClass_65 : decode cX4_readClass 65 = .ok (.getfield 13, 3) := by decide +kernel
theorem dX4_readClass_68 : decode cX4_readClass 68 = .ok (.iconst 3, 1) := by decide +kernel
theorem dX4_readClass_69 : decode cX4_readClass 69 = .ok (.iload_n 1, 1) := by decide +kernel
theorem dX4_readClass_70 : decode cX4_readClass 70 = .ok (.iconst 1, 1) := by decide +kernel
theorem dX4_readClass_71 : decode cX4_readClass 71 = .ok (.iadd, 1) := by decide +kernel
theorem dX4_readClass_72 : decode cX4_readClass 72 = .ok (.iastore, 1) := by decide +kernel
theorem dX4_readClass_73 : decode cX4_readClass 73 = .ok (.goto 85, 3) := by decide +kernel
theorem dX4_readClass_76 : decode cX4_readClass 76 = .ok (.iconst 0, 1) := by decide +kernel
theorem dX4_readClass_77 : decode cX4_readClass 77 = .ok (.istore_n 1, 1) := by decide +kernel
theorem dX4_readClass_78 : decode cX4_readClass 78 = .ok (.aload_n 0, 1) := by decide +kernel
theorem dX4_readClass_79 : decode cX4_readClass 79 = .ok (.invokevirtual 45, 3) := by decide +kernel
theorem dX4_readClass_82 : decode cX4_readClass 82 = .ok (.invokestatic 56, 3) := by decide +kernel
theorem dX4_readClass_85 : decode cX4_readClass 85 = .ok (.ifCond .eq 43, 3) := by decide +kernel
theorem dX4_readClass_88 : decode cX4_readClass 88 = .ok (.iload_n 1, 1) := by decide +kernel
theorem dX4_readClass_89 : decode cX4_readClass 89 = .ok (.iconst 3, 1) := by decide +kernel
theorem dX4_readClass_90 : decode cX4_readClass 90 = .ok (.if_icmp .ne 12, 3) := by decide +kernel
theorem dX4_readClass_93 : decode cX4_readClass 93 = .ok (.aload_n 0, 1) := by decide +kernel
theorem dX4_readClass_94 : decode cX4_readClass 94 = .ok (.aload_n 0, 1) := by decide +kernel
theorem dX4_readClass_95 : decode cX4_readClass 95 = .ok (.getfield 39, 3) := by decide +kernel
theorem dX4_readClass_98 : decode cX4_readClass 98 = .ok (.invokevirtual 53, 3) := by decide +kernel
theorem dX4_readClass_101 : decode cX4_readClass 101 = .ok (.ireturn, 1) := by decide +kernel
theorem dX4_readClass_102 : decode cX4_readClass 102 = .ok (.aload_n 0, 1) := by decide +kernel
theorem dX4_readClass_103 : decode cX4_readClass 103 = .ok (.getfield 13, 3) := by decide +kernel
theorem dX4_readClass_106 : decode cX4_readClass 106 = .ok (.iload_n 1, 1) := by decide +kernel
theorem dX4_readClass_107 : decode cX4_readClass 107 = .ok (.aload_n 0, 1) := by decide +kernel
theorem dX4_readClass_108 : decode cX4_readClass 108 = .ok (.invokevirtual 45, 3) := by decide +kernel
theorem dX4_readClass_111 : decode cX4_readClass 111 = .ok (.iastore, 1) := by decide +kernel
theorem dX4_readClass_112 : decode cX4_readClass 112 = .ok (.iinc 1 1, 3) := by decide +kernel
theorem dX4_readClass_115 : decode cX4_readClass 115 = .ok (.aload_n 0, 1) := by decide +kernel
theorem dX4_readClass_116 : decode cX4_readClass 116 = .ok (.dup, 1) := by decide +kernel
theorem dX4_readClass_117 : decode cX4_readClass 117 = .ok (.getfield 39, 3) := by decide +kernel
theorem dX4_readClass_120 : decode cX4_readClass 120 = .ok (.iconst 1, 1) := by decide +kernel
theorem dX4_readClass_121 : decode cX4_readClass 121 = .ok (.iadd, 1) := by decide +kernel
theorem dX4_readClass_122 : decode cX4_readClass 122 = .ok (.putfield 39, 3) := by decide +kernel
theorem dX4_readClass_125 : decode cX4_readClass 125 = .ok (.goto (-47), 3) := by decide +kernel
theorem dX4_readClass_128 : decode cX4_readClass 128 = .ok (.iload_n 1, 1) := by decide +kernel
theorem dX4_readClass_129 : decode cX4_readClass 129 = .ok (.ifCond .eq 12, 3) := by decide +kernel
theorem dX4_readClass_132 : decode cX4_readClass 132 = .ok (.aload_n 0, 1) := by decide +kernel
theorem dX4_readClass_133 : decode cX4_readClass 133 = .ok (.iconst 3, 1) := by decide +kernel
theorem dX4_readClass_134 : decode cX4_readClass 134 = .ok (.iconst 4, 1) := by decide +kernel
theorem dX4_readClass_135 : decode cX4_readClass 135 = .ok (.invokevirtual 59, 3) := by decide +kernel
theorem dX4_readClass_138 : decode cX4_readClass 138 = .ok (.ifCond .ne 20, 3) := by decide +kernel
theorem dX4_readClass_141 : decode cX4_readClass 141 = .ok (.iload_n 1, 1) := by decide +kernel
theorem dX4_readClass_142 : decode cX4_readClass 142 = .ok (.ifCond .le 7, 3) := by decide +kernel
theorem dX4_readClass_145 : decode cX4_readClass 145 = .ok (.iconst 0, 1) := by decide +kernel
theorem dX4_readClass_146 : decode cX4_readClass 146 = .ok (.goto 11, 3) := by decide +kernel
theorem dX4_readClass_149 : decode cX4_readClass 149 = .ok (.aload_n 0, 1) := by decide +kernel
theorem dX4_readClass_150 : decode cX4_readClass 150 = .ok (.aload_n 0, 1) := by decide +kernel
theorem dX4_readClass_151 : decode cX4_readClass 151 = .ok (.getfield 39, 3) := by decide +kernel
theorem dX4_readClass_154 : decode cX4_readClass 154 = .ok (.invokevirtual 53, 3) := by decide +kernel
theorem dX4_readClass_157 : decode cX4_readClass 157 = .ok (.ireturn, 1) := by decide +kernel
theorem dX4_readClass_158 : decode cX4_readClass 158 = .ok (.aload_n 0, 1) := by decide +kernel
theorem dX4_readClass_159 : decode cX4_readClass 159 = .ok (.invokevirtual 45, 3) := by decide +kernel
theorem dX4_readClass_162 : decode cX4_readClass 162 = .ok (.bipush 46, 2) := by decide +kernel
theorem dX4_readClass_164 : decode cX4_readClass 164 = .ok (.if_icmp .ne 36, 3) := by decide +kernel
theorem dX4_readClass_167 : decode cX4_readClass 167 = .ok (.aload_n 0, 1) := by decide +kernel
theorem dX4_readClass_168 : decode cX4_readClass 168 = .ok (.dup, 1) := by decide +kernel
theorem dX4_readClass_169 : decode cX4_readClass 169 = .ok (.getfield 39, 3) := by decide +kernel
theorem dX4_readClass_172 : decode cX4_readClass 172 = .ok (.iconst 1, 1) := by decide +kernel
theorem dX4_readClass_173 : decode cX4_readClass 173 = .ok (.iadd, 1) := by decide +kernel
theorem dX4_readClass_174 : decode cX4_readClass 174 = .ok (.putfield 39, 3) := by decide +kernel
theorem dX4_readClass_177 : decode cX4_readClass 177 = .ok (.aload_n 0, 1) := by decide +kernel
theorem dX4_readClass_178 : decode cX4_readClass 178 = .ok (.iconst 4, 1) := by decide +kernel
theorem dX4_readClass_179 : decode cX4_readClass 179 = .ok (.aload_n 0, 1) := by decide +kernel
theorem dX4_readClass_180 : decode cX4_readClass 180 = .ok (.getfield 29, 3) := by decide +kernel
theorem dX4_readClass_183 : decode cX4_readClass 183 = .ok (.ifCond .ne 8, 3) := by decide +kernel
theorem dX4_readClass_186 : decode cX4_readClass 186 = .ok (.bipush 9, 2) := by decide +kernel
theorem dX4_readClass_188 : decode cX4_readClass 188 = .ok (.goto 4, 3) := by decide +kernel
theorem dX4_readClass_191 : decode cX4_readClass 191 = .ok (.iconst 4, 1) := by decide +kernel
theorem dX4_readClass_192 : decode cX4_readClass 192 = .ok (.invokevirtual 63, 3) := by decide +kernel
theorem dX4_readClass_195 : decode cX4_readClass 195 = .ok (.ifCond .ne 5, 3) := by decide +kernel
theorem dX4_readClass_198 : decode cX4_readClass 198 = .ok (.iconst 0, 1) := by decide +kernel
theorem dX4_readClass_199 : decode cX4_readClass 199 = .ok (.ireturn, 1) := by decide +kernel
theorem dX4_readClass_200 : decode cX4_readClass 200 = .ok (.aload_n 0, 1) := by decide +kernel
theorem dX4_readClass_201 : decode cX4_readClass 201 = .ok (.getfield 13, 3) := by decide +kernel
theorem dX4_readClass_204 : decode cX4_readClass 204 = .ok (.bipush 37, 2) := by decide +kernel
theorem dX4_readClass_206 : decode cX4_readClass 206 = .ok (.aload_n 0, 1) := by decide +kernel
theorem dX4_readClass_207 : decode cX4_readClass 207 = .ok (.getfield 39, 3) := by decide +kernel
theorem dX4_readClass_210 : decode cX4_readClass 210 = .ok (.iastore, 1) := by decide +kernel
theorem dX4_readClass_211 : decode cX4_readClass 211 = .ok (.iconst 1, 1) := by decide +kernel
theorem dX4_readClass_212 : decode cX4_readClass 212 = .ok (.ireturn, 1) := by decide +kernel
theorem dX4_readCutter_0 : decode cX4_readCutter 0 = .ok (.aload_n 0, 1) := by decide +kernel
theorem dX4_readCutter_1 : decode cX4_readCutter 1 = .ok (.invokevirtual 45, 3) := by decide +kernel
theorem dX4_readCutter_4 : decode cX4_readCutter 4 = .ok (.invokestatic 56, 3) := by decide +kernel
theorem dX4_readCutter_7 : decode cX4_readCutter 7 = .ok (.ifCond .ne 12, 3) := by decide +kernel
theorem dX4_readCutter_10 : decode cX4_readCutter 10 = .ok (.aload_n 0, 1) := by decide +kernel
theorem dX4_readCutter_11 : decode cX4_readCutter 11 = .ok (.aload_n 0, 1) := by decide +kernel
theorem dX4_readCutter_12 : decode cX4_readCutter 12 = .ok (.getfield 39, 3) := by decide +kernel
theorem dX4_readCutter_15 : decode cX4_readCutter 15 = .ok (.invokevirtual 53, 3) := by decide +kernel
theorem dX4_readCutter_18 : decode cX4_readCutter 18 = .ok (.ireturn, 1) := by decide +kernel
theorem dX4_readCutter_19 : decode cX4_readCutter 19 = .ok (.aload_n 0, 1) := by decide +kernel
theorem dX4_readCutter_20 : decode cX4_readCutter 20 = .ok (.getfield 13, 3) := by decide +kernel
theorem dX4_readCutter_23 : decode cX4_readCutter 23 = .ok (.bipush 16, 2) := by decide +kernel
theorem dX4_readCutter_25 : decode cX4_readCutter 25 = .ok (.aload_n 0, 1) := by decide +kernel
theorem dX4_readCutter_26 : decode cX4_readCutter 26 = .ok (.invokevirtual 45, 3) := by decide +kernel
theorem dX4_readCutter_29 : decode cX4_readCutter 29 = .ok (.iastore, 1) := by decide +kernel
theorem dX4_readCutter_30 : decode cX4_readCutter 30 = .ok (.aload_n 0, 1) := by decide +kernel
theorem dX4_readCutter_31 : decode cX4_readCutter 31 = .ok (.dup, 1) := by decide +kernel
theorem dX4_readCutter_32 : decode cX4_readCutter 32 = .ok (.getfield 39, 3) := by decide +kernel
theorem dX4_readCutter_35 : decode cX4_readCutter 35 = .ok (.iconst 1, 1) := by decide +kernel
theorem dX4_readCutter_36 : decode cX4_readCutter 36 = .ok (.iadd, 1) := by decide +kernel
theorem dX4_readCutter_37 : decode cX4_readCutter 37 = .ok (.putfield 39, 3) := by decide +kernel
theorem dX4_readCutter_40 : decode cX4_readCutter 40 = .ok (.aload_n 0, 1) := by decide +kernel
theorem dX4_readCutter_41 : decode cX4_readCutter 41 = .ok (.bipush 17, 2) := by decide +kernel
theorem dX4_readCutter_43 : decode cX4_readCutter 43 = .ok (.bipush 6, 2) := by decide +kernel
theorem dX4_readCutter_45 : decode cX4_readCutter 45 = .ok (.invokevirtual 63, 3) := by decide +kernel
theorem dX4_readCutter_48 : decode cX4_readCutter 48 = .ok (.ireturn, 1) := by decide +kernel
theorem dX4_readYear_0 : decode cX4_readYear 0 = .ok (.iconst 0, 1) := by decide +kernel
theorem dX4_readYear_1 : decode cX4_readYear 1 = .ok (.istore_n 1, 1) := by decide +kernel
theorem dX4_readYear_2 : decode cX4_readYear 2 = .ok (.iconst 0, 1) := by decide +kernel
theorem dX4_readYear_3 : decode cX4_readYear 3 = .ok (.istore_n 2, 1) := by decide +kernel
theorem dX4_readYear_4 : decode cX4_readYear 4 = .ok (.iload_n 2, 1) := by decide +kernel
theorem dX4_readYear_5 : decode cX4_readYear 5 = .ok (.iconst 4, 1) := by decide +kernel
theorem dX4_readYear_6 : decode cX4_readYear 6 = .ok (.if_icmp .ge 64, 3) := by decide +kernel
theorem dX4_readYear_9 : decode cX4_readYear 9 = .ok (.aload_n 0, 1) := by decide +kernel
theorem dX4_readYear_10 : decode cX4_readYear 10 = .ok (.invokevirtual 45, 3) := by decide +kernel
theorem dX4_readYear_13 : decode cX4_readYear 13 = .ok (.invokestatic 49, 3) := by decide +kernel
theorem dX4_readYear_16 : decode cX4_readYear 16 = .ok (.ifCond .eq 16, 3) := by decide +kernel
theorem dX4_readYear_19 : decode cX4_readYear 19 = .ok (.iload_n 2, 1) := by decide +kernel
theorem dX4_readYear_20 : decode cX4_readYear 20 = .ok (.ifCond .ne 21, 3) := by decide +kernel
theorem dX4_readYear_23 : decode cX4_readYear 23 = .ok (.aload_n 0, 1) := by decide +kernel
theorem dX4_readYear_24 : decode cX4_readYear 24 = .ok (.invokevirtual 45, 3) := by decide +kernel
theorem dX4_readYear_27 : decode cX4_readYear 27 = .ok (.bipush 48, 2) := by decide +kernel
theorem dX4_readYear_29 : decode cX4_readYear 29 = .ok (.if_icmp .ne 12, 3) := by decide +kernel
theorem dX4_readYear_32 : decode cX4_readYear 32 = .ok (.aload_n 0, 1) := by decide +kernel
theorem dX4_readYear_33 : decode cX4_readYear 33 = .ok (.aload_n 0, 1) := by decide +kernel
theorem dX4_readYear_34 : decode cX4_readYear 34 = .ok (.getfield 39, 3) := by decide +kernel
theorem dX4_readYear_37 : decode cX4_readYear 37 = .ok (.invokevirtual 53, 3) := by decide +kernel
theorem dX4_readYear_40 : decode cX4_readYear 40 = .ok (.ireturn, 1) := by decide +kernel
theorem dX4_readYear_41 : decode cX4_readYear 41 = .ok (.bipush 10, 2) := by decide +kernel
theorem dX4_readYear_43 : decode cX4_readYear 43 = .ok (.iload_n 1, 1) := by decide +kernel
theorem dX4_readYear_44 : decode cX4_readYear 44 = .ok (.imul, 1) := by decide +kernel
theorem dX4_readYear_45 : decode cX4_readYear 45 = .ok (.aload_n 0, 1) := by decide +kernel
theorem dX4_readYear_46 : decode cX4_readYear 46 = .ok (.invokevirtual 45, 3) := by decide +kernel
theorem dX4_readYear_49 : decode cX4_readYear 49 = .ok (.iadd, 1) := by decide +kernel
theorem dX4_readYear_50 : decode cX4_readYear 50 = .ok (.bipush 48, 2) := by decide +kernel
theorem dX4_readYear_52 : decode cX4_readYear 52 = .ok (.isub, 1) := by decide +kernel
theorem dX4_readYear_53 : decode cX4_readYear 53 = .ok (.istore_n 1, 1) := by decide +kernel
theorem dX4_readYear_54 : decode cX4_readYear 54 = .ok (.aload_n 0, 1) := by decide +kernel
theorem dX4_readYear_55 : decode cX4_readYear 55 = .ok (.dup, 1) := by decide +kernel
theorem dX4_readYear_56 : decode cX4_readYear 56 = .ok (.getfield 39, 3) := by decide +kernel
theorem dX4_readYear_59 : decode cX4_readYear 59 = .ok (.iconst 1, 1) := by decide +kernel
theorem dX4_readYear_60 : decode cX4_readYear 60 = .ok (.iadd, 1) := by decide +kernel
theorem dX4_readYear_61 : decode cX4_readYear 61 = .ok (.putfield 39, 3) := by decide +kernel
theorem dX4_readYear_64 : decode cX4_readYear 64 = .ok (.iinc 2 1, 3) := by decide +kernel
theorem dX4_readYear_67 : decode cX4_readYear 67 = .ok (.goto (-63), 3) := by decide +kernel
theorem dX4_readYear_70 : decode cX4_readYear 70 = .ok (.aload_n 0, 1) := by decide +kernel
theorem dX4_readYear_71 : decode cX4_readYear 71 = .ok (.getfield 13, 3) := by decide +kernel
theorem dX4_readYear_74 : decode cX4_readYear 74 = .ok (.bipush 23, 2) := by decide +kernel
theorem dX4_readYear_76 : decode cX4_readYear 76 = .ok (.iload_n 1, 1) := by decide +kernel
theorem dX4_readYear_77 : decode cX4_readYear 77 = .ok (.iastore, 1) := by decide +kernel
theorem dX4_readYear_78 : decode cX4_readYear 78 = .ok (.iconst 1, 1) := by decide +kernel
theorem dX4_readYear_79 : decode cX4_readYear 79 = .ok (.ireturn, 1) := by decide +kernel
theorem dX4_readVolume_0 : decode cX4_readVolume 0 = .ok (.aload_n 0, 1) := by decide +kernel
theorem dX4_readVolume_1 : decode cX4_readVolume 1 = .ok (.dup, 1) := by decide +kernel
theorem dX4_readVolume_2 : decode cX4_readVolume 2 = .ok (.getfield 39, 3) := by decide +kernel
theorem dX4_readVolume_5 : decode cX4_readVolume 5 = .ok (.iconst 2, 1) := by decide +kernel
theorem dX4_readVolume_6 : decode cX4_readVolume 6 = .ok (.iadd, 1) := by decide +kernel
theorem dX4_readVolume_7 : decode cX4_readVolume 7 = .ok (.putfield 39, 3) := by decide +kernel
theorem dX4_readVolume_10 : decode cX4_readVolume 10 = .ok (.aload_n 0, 1) := by decide +kernel
theorem dX4_readVolume_11 : decode cX4_readVolume 11 = .ok (.bipush 24, 2) := by decide +kernel
theorem dX4_readVolume_13 : decode cX4_readVolume 13 = .ok (.iconst 4, 1) := by decide +kernel
theorem dX4_readVolume_14 : decode cX4_readVolume 14 = .ok (.invokevirtual 59, 3) := by decide +kernel
theorem dX4_readVolume_17 : decode cX4_readVolume 17 = .ok (.ifCond .ne 5, 3) := by decide +kernel
theorem dX4_readVolume_20 : decode cX4_readVolume 20 = .ok (.iconst 0, 1) := by decide +kernel
theorem dX4_readVolume_21 : decode cX4_readVolume 21 = .ok (.ireturn, 1) := by decide +kernel
theorem dX4_readVolume_22 : decode cX4_readVolume 22 = .ok (.aload_n 0, 1) := by decide +kernel
theorem dX4_readVolume_23 : decode cX4_readVolume 23 = .ok (.invokevirtual 45, 3) := by decide +kernel
theorem dX4_readVolume_26 : decode cX4_readVolume 26 = .ok (.invokestatic 66, 3) := by decide +kernel
theorem dX4_readVolume_29 : decode cX4_readVolume 29 = .ok (.ifCond .eq 24, 3) := by decide +kernel
theorem dX4_readVolume_32 : decode cX4_readVolume 32 = .ok (.aload_n 0, 1) := by decide +kernel
theorem dX4_readVolume_33 : decode cX4_readVolume 33 = .ok (.getfield 13, 3) := by decide +kernel
theorem dX4_readVolume_36 : decode cX4_readVolume 36 = .ok (.bipush 25, 2) := by decide +kernel
theorem dX4_readVolume_38 : decode cX4_readVolume 38 = .ok (.aload_n 0, 1) := by decide +kernel
theorem dX4_readVolume_39 : decode cX4_readVolume 39 = .ok (.invokevirtual 45, 3) := by decide +kernel
theorem dX4_readVolume_42 : decode cX4_readVolume 42 = .ok (.iastore, 1) := by decide +kernel
theorem dX4_readVolume_43 : decode cX4_readVolume 43 = .ok (.aload_n 0, 1) := by decide +kernel
theorem dX4_readVolume_44 : decode cX4_readVolume 44 = .ok (.dup, 1) := by decide +kernel
theorem dX4_readVolume_45 : decode cX4_readVolume 45 = .ok (.getfield 39, 3) := by decide +kernel
theorem dX4_readVolume_48 : decode cX4_readVolume 48 = .ok (.iconst 1, 1) := by decide +kernel
theorem dX4_readVolume_49 : decode cX4_readVolume 49 = .ok (.iadd, 1) := by decide +kernel
theorem dX4_readVolume_50 : decode cX4_readVolume 50 = .ok (.putfield 39, 3) := by decide +kernel
theorem dX4_readVolume_53 : decode cX4_readVolume 53 = .ok (.iconst 1, 1) := by decide +kernel
theorem dX4_readVolume_54 : decode cX4_readVolume 54 = .ok (.ireturn, 1) := by decide +kernel
theorem dX4_readMark_0 : decode cX4_readMark 0 = .ok (.iconst 0, 1) := by decide +kernel
theorem dX4_readMark_1 : decode cX4_readMark 1 = .ok (.istore_n 1, 1) := by decide +kernel
theorem dX4_readMark_2 : decode cX4_readMark 2 = .ok (.aload_n 0, 1) := by decide +kernel
theorem dX4_readMark_3 : decode cX4_readMark 3 = .ok (.invokevirtual 45, 3) := by decide +kernel
theorem dX4_readMark_6 : decode cX4_readMark 6 = .ok (.invokestatic 66, 3) := by decide +kernel
theorem dX4_readMark_9 : decode cX4_readMark 9 = .ok (.ifCond .eq 47, 3) := by decide +kernel
theorem dX4_readMark_12 : decode cX4_readMark 12 = .ok (.iload_n 1, 1) := by decide +kernel
theorem dX4_readMark_13 : decode cX4_readMark 13 = .ok (.bipush 8, 2) := by decide +kernel
theorem dX4_readMark_15 : decode cX4_readMark 15 = .ok (.if_icmp .ne 12, 3) := by decide +kernel
theorem dX4_readMark_18 : decode cX4_readMark 18 = .ok (.aload_n 0, 1) := by decide +kernel
theorem dX4_readMark_19 : decode cX4_readMark 19 = .ok (.aload_n 0, 1) := by decide +kernel
theorem dX4_readMark_20 : decode cX4_readMark 20 = .ok (.getfield 39, 3) := by decide +kernel
theorem dX4_readMark_23 : decode cX4_readMark 23 = .ok (.invokevirtual 53, 3) := by decide +kernel
theorem dX4_readMark_26 : decode cX4_readMark 26 = .ok (.ireturn, 1) := by decide +kernel
theorem dX4_readMark_27 : decode cX4_readMark 27 = .ok (.aload_n 0, 1) := by decide +kernel
theorem dX4_readMark_28 : decode cX4_readMark 28 = .ok (.getfield 13, 3) := by decide +kernel
theorem dX4_readMark_31 : decode cX4_readMark 31 = .ok (.bipush 26, 2) := by decide +kernel
theorem dX4_readMark_33 : decode cX4_readMark 33 = .ok (.iload_n 1, 1) := by decide +kernel
theorem dX4_readMark_34 : decode cX4_readMark 34 = .ok (.iadd, 1) := by decide +kernel
theorem dX4_readMark_35 : decode cX4_readMark 35 = .ok (.aload_n 0, 1) := by decide +kernel
theorem dX4_readMark_36 : decode cX4_readMark 36 = .ok (.invokevirtual 45, 3) := by decide +kernel
theorem dX4_readMark_39 : decode cX4_readMark 39 = .ok (.iastore, 1) := by decide +kernel
theorem dX4_readMark_40 : decode cX4_readMark 40 = .ok (.iinc 1 1, 3) := by decide +kernel
theorem dX4_readMark_43 : decode cX4_readMark 43 = .ok (.aload_n 0, 1) := by decide +kernel
theorem dX4_readMark_44 : decode cX4_readMark 44 = .ok (.dup, 1) := by decide +kernel
theorem dX4_readMark_45 : decode cX4_readMark 45 = .ok (.getfield 39, 3) := by decide +kernel
theorem dX4_readMark_48 : decode cX4_readMark 48 = .ok (.iconst 1, 1) := by decide +kernel
theorem dX4_readMark_49 : decode cX4_readMark 49 = .ok (.iadd, 1) := by decide +kernel
theorem dX4_readMark_50 : decode cX4_readMark 50 = .ok (.putfield 39, 3) := by decide +kernel
theorem dX4_readMark_53 : decode cX4_readMark 53 = .ok (.goto (-51), 3) := by decide +kernel
theorem dX4_readMark_56 : decode cX4_readMark 56 = .ok (.iconst 1, 1) := by decide +kernel
theorem dX4_readMark_57 : decode cX4_readMark 57 = .ok (.ireturn, 1) := by decide +kernel
theorem dX4_space_0 : decode cX4_space 0 = .ok (.aload_n 0, 1) := by decide +kernel
theorem dX4_space_1 : decode cX4_space 1 = .ok (.invokevirtual 45, 3) := by decide +kernel
theorem dX4_space_4 : decode cX4_space 4 = .ok (.bipush 32, 2) := by decide +kernel
theorem dX4_space_6 : decode cX4_space 6 = .ok (.if_icmp .eq 12, 3) := by decide +kernel
theorem dX4_space_9 : decode cX4_space 9 = .ok (.aload_n 0, 1) := by decide +kernel
theorem dX4_space_10 : decode cX4_space 10 = .ok (.aload_n 0, 1) := by decide +kernel
theorem dX4_space_11 : decode cX4_space 11 = .ok (.getfield 39, 3) := by decide +kernel
theorem dX4_space_14 : decode cX4_space 14 = .ok (.invokevirtual 53, 3) := by decide +kernel
theorem dX4_space_17 : decode cX4_space 17 = .ok (.ireturn, 1) := by decide +kernel
theorem dX4_space_18 : decode cX4_space 18 = .ok (.aload_n 0, 1) := by decide +kernel
theorem dX4_space_19 : decode cX4_space 19 = .ok (.dup, 1) := by decide +kernel
theorem dX4_space_20 : decode cX4_space 20 = .ok (.getfield 39, 3) := by decide +kernel
theorem dX4_space_23 : decode cX4_space 23 = .ok (.iconst 1, 1) := by decide +kernel
theorem dX4_space_24 : decode cX4_space 24 = .ok (.iadd, 1) := by decide +kernel
theorem dX4_space_25 : decode cX4_space 25 = .ok (.putfield 39, 3) := by decide +kernel
theorem dX4_space_28 : decode cX4_space 28 = .ok (.iconst 1, 1) := by decide +kernel
theorem dX4_space_29 : decode cX4_space 29 = .ok (.ireturn, 1) := by decide +kernel
theorem dX4_reads_0 : decode cX4_reads 0 = .ok (.aload_n 0, 1) := by decide +kernel
theorem dX4_reads_1 : decode cX4_reads 1 = .ok (.invokevirtual 69, 3) := by decide +kernel
theorem dX4_reads_4 : decode cX4_reads 4 = .ok (.ifCond .eq 17, 3) := by decide +kernel
theorem dX4_reads_7 : decode cX4_reads 7 = .ok (.aload_n 0, 1) := by decide +kernel
theorem dX4_reads_8 : decode cX4_reads 8 = .ok (.invokevirtual 73, 3) := by decide +kernel
theorem dX4_reads_11 : decode cX4_reads 11 = .ok (.ifCond .eq 10, 3) := by decide +kernel
theorem dX4_reads_14 : decode cX4_reads 14 = .ok (.aload_n 0, 1) := by decide +kernel
theorem dX4_reads_15 : decode cX4_reads 15 = .ok (.invokevirtual 76, 3) := by decide +kernel
theorem dX4_reads_18 : decode cX4_reads 18 = .ok (.ifCond .ne 5, 3) := by decide +kernel
theorem dX4_reads_21 : decode cX4_reads 21 = .ok (.iconst 0, 1) := by decide +kernel
theorem dX4_reads_22 : decode cX4_reads 22 = .ok (.ireturn, 1) := by decide +kernel
theorem dX4_reads_23 : decode cX4_reads 23 = .ok (.aload_n 0, 1) := by decide +kernel
theorem dX4_reads_24 : decode cX4_reads 24 = .ok (.getfield 13, 3) := by decide +kernel
theorem dX4_reads_27 : decode cX4_reads 27 = .ok (.bipush 34, 2) := by decide +kernel
theorem dX4_reads_29 : decode cX4_reads 29 = .ok (.iconst 2, 1) := by decide +kernel
theorem dX4_reads_30 : decode cX4_reads 30 = .ok (.iastore, 1) := by decide +kernel
theorem dX4_reads_31 : decode cX4_reads 31 = .ok (.iconst 0, 1) := by decide +kernel
theorem dX4_reads_32 : decode cX4_reads 32 = .ok (.istore_n 1, 1) := by decide +kernel
theorem dX4_reads_33 : decode cX4_reads 33 = .ok (.aload_n 0, 1) := by decide +kernel
theorem dX4_reads_34 : decode cX4_reads 34 = .ok (.getfield 39, 3) := by decide +kernel
theorem dX4_reads_37 : decode cX4_reads 37 = .ok (.aload_n 0, 1) := by decide +kernel
theorem dX4_reads_38 : decode cX4_reads 38 = .ok (.getfield 36, 3) := by decide +kernel
theorem dX4_reads_41 : decode cX4_reads 41 = .ok (.if_icmp .ge 164, 3) := by decide +kernel
theorem dX4_reads_44 : decode cX4_reads 44 = .ok (.aload_n 0, 1) := by decide +kernel
theorem dX4_reads_45 : decode cX4_reads 45 = .ok (.invokevirtual 73, 3) := by decide +kernel
theorem dX4_reads_48 : decode cX4_reads 48 = .ok (.ifCond .ne 5, 3) := by decide +kernel
theorem dX4_reads_51 : decode cX4_reads 51 = .ok (.iconst 0, 1) := by decide +kernel
theorem dX4_reads_52 : decode cX4_reads 52 = .ok (.ireturn, 1) := by decide +kernel
theorem dX4_reads_53 : decode cX4_reads 53 = .ok (.aload_n 0, 1) := by decide +kernel
theorem dX4_reads_54 : decode cX4_reads 54 = .ok (.invokevirtual 45, 3) := by decide +kernel
theorem dX4_reads_57 : decode cX4_reads 57 = .ok (.istore_n 2, 1) := by decide +kernel
theorem dX4_reads_58 : decode cX4_reads 58 = .ok (.iload_n 2, 1) := by decide +kernel
theorem dX4_reads_59 : decode cX4_reads 59 = .ok (.bipush 118, 2) := by decide +kernel
theorem dX4_reads_61 : decode cX4_reads 61 = .ok (.if_icmp .ne 36, 3) := by decide +kernel
theorem dX4_reads_64 : decode cX4_reads 64 = .ok (.aload_n 0, 1) := by decide +kernel
theorem dX4_reads_65 : decode cX4_reads 65 = .ok (.getfield 39, 3) := by decide +kernel
theorem dX4_reads_68 : decode cX4_reads 68 = .ok (.iconst 1, 1) := by decide +kernel
theorem dX4_reads_69 : decode cX4_reads 69 = .ok (.iadd, 1) := by decide +kernel
theorem dX4_reads_70 : decode cX4_reads 70 = .ok (.aload_n 0, 1) := by decide +kernel
theorem dX4_reads_71 : decode cX4_reads 71 = .ok (.getfield 36, 3) := by decide +kernel
theorem dX4_reads_74 : decode cX4_reads 74 = .ok (.if_icmp .ge 23, 3) := by decide +kernel
theorem dX4_reads_77 : decode cX4_reads 77 = .ok (.aload_n 0, 1) := by decide +kernel
theorem dX4_reads_78 : decode cX4_reads 78 = .ok (.getfield 7, 3) := by decide +kernel
theorem dX4_reads_81 : decode cX4_reads 81 = .ok (.aload_n 0, 1) := by decide +kernel
theorem dX4_reads_82 : decode cX4_reads 82 = .ok (.getfield 39, 3) := by decide +kernel
theorem dX4_reads_85 : decode cX4_reads 85 = .ok (.iconst 1, 1) := by decide +kernel
theorem dX4_reads_86 : decode cX4_reads 86 = .ok (.iadd, 1) := by decide +kernel
theorem dX4_reads_87 : decode cX4_reads 87 = .ok (.baload, 1) := by decide +kernel
theorem dX4_reads_88 : decode cX4_reads 88 = .ok (.bipush 46, 2) := by decide +kernel
theorem dX4_reads_90 : decode cX4_reads 90 = .ok (.if_icmp .ne 7, 3) := by decide +kernel
theorem dX4_reads_93 : decode cX4_reads 93 = .ok (.iconst 1, 1) := by decide +kernel
theorem dX4_reads_94 : decode cX4_reads 94 = .ok (.goto 4, 3) := by decide +kernel
theorem dX4_reads_97 : decode cX4_reads 97 = .ok (.iconst 0, 1) := by decide +kernel
theorem dX4_reads_98 : decode cX4_reads 98 = .ok (.istore_n 3, 1) := by decide +kernel
theorem dX4_reads_99 : decode cX4_reads 99 = .ok (.iload_n 2, 1) := by decide +kernel
theorem dX4_reads_100 : decode cX4_reads 100 = .ok (.invokestatic 49, 3) := by decide +kernel
theorem dX4_reads_103 : decode cX4_reads 103 = .ok (.ifCond .eq 7, 3) := by decide +kernel
theorem dX4_reads_106 : decode cX4_reads 106 = .ok (.iconst 1, 1) := by decide +kernel
theorem dX4_reads_107 : decode cX4_reads 107 = .ok (.goto 23, 3) := by decide +kernel
theorem dX4_reads_110 : decode cX4_reads 110 = .ok (.iload_n 3, 1) := by decide +kernel
theorem dX4_reads_111 : decode cX4_reads 111 = .ok (.ifCond .eq 7, 3) := by decide +kernel
theorem dX4_reads_114 : decode cX4_reads 114 = .ok (.iconst 2, 1) := by decide +kernel
theorem dX4_reads_115 : decode cX4_reads 115 = .ok (.goto 15, 3) := by decide +kernel
theorem dX4_reads_118 : decode cX4_reads 118 = .ok (.iload_n 2, 1) := by decide +kernel
theorem dX4_reads_119 : decode cX4_reads 119 = .ok (.invokestatic 66, 3) := by decide +kernel
theorem dX4_reads_122 : decode cX4_reads 122 = .ok (.ifCond .eq 7, 3) := by decide +kernel
theorem dX4_reads_125 : decode cX4_reads 125 = .ok (.iconst 3, 1) := by decide +kernel
theorem dX4_reads_126 : decode cX4_reads 126 = .ok (.goto 4, 3) := by decide +kernel
theorem dX4_reads_129 : decode cX4_reads 129 = .ok (.iconst 0, 1) := by decide +kernel
theorem dX4_reads_130 : decode cX4_reads 130 = .ok (.istore 4, 2) := by decide +kernel
theorem dX4_reads_132 : decode cX4_reads 132 = .ok (.iload 4, 2) := by decide +kernel
theorem dX4_reads_134 : decode cX4_reads 134 = .ok (.iload_n 1, 1) := by decide +kernel
theorem dX4_reads_135 : decode cX4_reads 135 = .ok (.if_icmp .gt 12, 3) := by decide +kernel
theorem dX4_reads_138 : decode cX4_reads 138 = .ok (.aload_n 0, 1) := by decide +kernel
theorem dX4_reads_139 : decode cX4_reads 139 = .ok (.aload_n 0, 1) := by decide +kernel
theorem dX4_reads_140 : decode cX4_reads 140 = .ok (.getfield 39, 3) := by decide +kernel
theorem dX4_reads_143 : decode cX4_reads 143 = .ok (.invokevirtual 53, 3) := by decide +kernel
theorem dX4_reads_146 : decode cX4_reads 146 = .ok (.ireturn, 1) := by decide +kernel
theorem dX4_reads_147 : decode cX4_reads 147 = .ok (.iload 4, 2) := by decide +kernel
theorem dX4_reads_149 : decode cX4_reads 149 = .ok (.iconst 1, 1) := by decide +kernel
theorem dX4_reads_150 : decode cX4_reads 150 = .ok (.if_icmp .ne 13, 3) := by decide +kernel
theorem dX4_reads_153 : decode cX4_reads 153 = .ok (.aload_n 0, 1) := by decide +kernel
theorem dX4_reads_154 : decode cX4_reads 154 = .ok (.invokevirtual 79, 3) := by decide +kernel
theorem dX4_reads_157 : decode cX4_reads 157 = .ok (.ifCond .ne 31, 3) := by decide +kernel
theorem dX4_reads_160 : decode cX4_reads 160 = .ok (.goto 26, 3) := by decide +kernel
theorem dX4_reads_163 : decode cX4_reads 163 = .ok (.iload 4, 2) := by decide +kernel
theorem dX4_reads_165 : decode cX4_reads 165 = .ok (.iconst 2, 1) := by decide +kernel
theorem dX4_reads_166 : decode cX4_reads 166 = .ok (.if_icmp .ne 13, 3) := by decide +kernel
theorem dX4_reads_169 : decode cX4_reads 169 = .ok (.aload_n 0, 1) := by decide +kernel
theorem dX4_reads_170 : decode cX4_reads 170 = .ok (.invokevirtual 82, 3) := by decide +kernel
theorem dX4_reads_173 : decode cX4_reads 173 = .ok (.ifCond .ne 15, 3) := by decide +kernel
theorem dX4_reads_176 : decode cX4_reads 176 = .ok (.goto 10, 3) := by decide +kernel
theorem dX4_reads_179 : decode cX4_reads 179 = .ok (.aload_n 0, 1) := by decide +kernel
theorem dX4_reads_180 : decode cX4_reads 180 = .ok (.invokevirtual 85, 3) := by decide +kernel
theorem dX4_reads_183 : decode cX4_reads 183 = .ok (.ifCond .ne 5, 3) := by decide +kernel
theorem dX4_reads_186 : decode cX4_reads 186 = .ok (.iconst 0, 1) := by decide +kernel
theorem dX4_reads_187 : decode cX4_reads 187 = .ok (.ireturn, 1) := by decide +kernel
theorem dX4_reads_188 : decode cX4_reads 188 = .ok (.aload_n 0, 1) := by decide +kernel
theorem dX4_reads_189 : decode cX4_reads 189 = .ok (.getfield 13, 3) := by decide +kernel
theorem dX4_reads_192 : decode cX4_reads 192 = .ok (.bipush 34, 2) := by decide +kernel
theorem dX4_reads_194 : decode cX4_reads 194 = .ok (.dup2, 1) := by decide +kernel
theorem dX4_reads_195 : decode cX4_reads 195 = .ok (.iaload, 1) := by decide +kernel
theorem dX4_reads_196 : decode cX4_reads 196 = .ok (.iconst 1, 1) := by decide +kernel
theorem dX4_reads_197 : decode cX4_reads 197 = .ok (.iadd, 1) := by decide +kernel
theorem dX4_reads_198 : decode cX4_reads 198 = .ok (.iastore, 1) := by decide +kernel
theorem dX4_reads_199 : decode cX4_reads 199 = .ok (.iload 4, 2) := by decide +kernel
theorem dX4_reads_201 : decode cX4_reads 201 = .ok (.istore_n 1, 1) := by decide +kernel
theorem dX4_reads_202 : decode cX4_reads 202 = .ok (.goto (-169), 3) := by decide +kernel
theorem dX4_reads_205 : decode cX4_reads 205 = .ok (.iconst 1, 1) := by decide +kernel
theorem dX4_reads_206 : decode cX4_reads 206 = .ok (.ireturn, 1) := by decide +kernel
theorem dX4_read_0 : decode cX4_read 0 = .ok (.aload_n 0, 1) := by decide +kernel
theorem dX4_read_1 : decode cX4_read 1 = .ok (.iconst 0, 1) := by decide +kernel
theorem dX4_read_2 : decode cX4_read 2 = .ok (.putfield 33, 3) := by decide +kernel
theorem dX4_read_5 : decode cX4_read 5 = .ok (.iconst 0, 1) := by decide +kernel
theorem dX4_read_6 : decode cX4_read 6 = .ok (.istore_n 1, 1) := by decide +kernel
theorem dX4_read_7 : decode cX4_read 7 = .ok (.iload_n 1, 1) := by decide +kernel
theorem dX4_read_8 : decode cX4_read 8 = .ok (.bipush 40, 2) := by decide +kernel
theorem dX4_read_10 : decode cX4_read 10 = .ok (.if_icmp .ge 16, 3) := by decide +kernel
theorem dX4_read_13 : decode cX4_read 13 = .ok (.aload_n 0, 1) := by decide +kernel
theorem dX4_read_14 : decode cX4_read 14 = .ok (.getfield 13, 3) := by decide +kernel
theorem dX4_read_17 : decode cX4_read 17 = .ok (.iload_n 1, 1) := by decide +kernel
theorem dX4_read_18 : decode cX4_read 18 = .ok (.iconst 0, 1) := by decide +kernel
theorem dX4_read_19 : decode cX4_read 19 = .ok (.iastore, 1) := by decide +kernel
theorem dX4_read_20 : decode cX4_read 20 = .ok (.iinc 1 1, 3) := by decide +kernel
theorem dX4_read_23 : decode cX4_read 23 = .ok (.goto (-16), 3) := by decide +kernel
theorem dX4_read_26 : decode cX4_read 26 = .ok (.aload_n 0, 1) := by decide +kernel
theorem dX4_read_27 : decode cX4_read 27 = .ok (.iconst 0, 1) := by decide +kernel
theorem dX4_read_28 : decode cX4_read 28 = .ok (.putfield 39, 3) := by decide +kernel
theorem dX4_read_31 : decode cX4_read 31 = .ok (.aload_n 0, 1) := by decide +kernel
theorem dX4_read_32 : decode cX4_read 32 = .ok (.invokevirtual 88, 3) := by decide +kernel
theorem dX4_read_35 : decode cX4_read 35 = .ok (.istore_n 1, 1) := by decide +kernel
theorem dX4_read_36 : decode cX4_read 36 = .ok (.aload_n 0, 1) := by decide +kernel
theorem dX4_read_37 : decode cX4_read 37 = .ok (.iconst 0, 1) := by decide +kernel
theorem dX4_read_38 : decode cX4_read 38 = .ok (.putfield 36, 3) := by decide +kernel
theorem dX4_read_41 : decode cX4_read 41 = .ok (.iload_n 1, 1) := by decide +kernel
theorem dX4_read_42 : decode cX4_read 42 = .ok (.ifCond .ne 10, 3) := by decide +kernel
theorem dX4_read_45 : decode cX4_read 45 = .ok (.iconst (-1), 1) := by decide +kernel
theorem dX4_read_46 : decode cX4_read 46 = .ok (.aload_n 0, 1) := by decide +kernel
theorem dX4_read_47 : decode cX4_read 47 = .ok (.getfield 42, 3) := by decide +kernel
theorem dX4_read_50 : decode cX4_read 50 = .ok (.isub, 1) := by decide +kernel
theorem dX4_read_51 : decode cX4_read 51 = .ok (.ireturn, 1) := by decide +kernel
theorem dX4_read_52 : decode cX4_read 52 = .ok (.iconst 0, 1) := by decide +kernel
theorem dX4_read_53 : decode cX4_read 53 = .ok (.istore_n 2, 1) := by decide +kernel
theorem dX4_read_54 : decode cX4_read 54 = .ok (.iload_n 2, 1) := by decide +kernel
theorem dX4_read_55 : decode cX4_read 55 = .ok (.bipush 40, 2) := by decide +kernel
theorem dX4_read_57 : decode cX4_read 57 = .ok (.if_icmp .ge 21, 3) := by decide +kernel
theorem dX4_read_60 : decode cX4_read 60 = .ok (.aload_n 0, 1) := by decide +kernel
theorem dX4_read_61 : decode cX4_read 61 = .ok (.getfield 17, 3) := by decide +kernel
theorem dX4_read_64 : decode cX4_read 64 = .ok (.iload_n 2, 1) := by decide +kernel
theorem dX4_read_65 : decode cX4_read 65 = .ok (.aload_n 0, 1) := by decide +kernel
theorem dX4_read_66 : decode cX4_read 66 = .ok (.getfield 13, 3) := by decide +kernel
theorem dX4_read_69 : decode cX4_read 69 = .ok (.iload_n 2, 1) := by decide +kernel
theorem dX4_read_70 : decode cX4_read 70 = .ok (.iaload, 1) := by decide +kernel
theorem dX4_read_71 : decode cX4_read 71 = .ok (.iastore, 1) := by decide +kernel
theorem dX4_read_72 : decode cX4_read 72 = .ok (.iinc 2 1, 3) := by decide +kernel
theorem dX4_read_75 : decode cX4_read 75 = .ok (.goto (-21), 3) := by decide +kernel
theorem dX4_read_78 : decode cX4_read 78 = .ok (.aload_n 0, 1) := by decide +kernel
theorem dX4_read_79 : decode cX4_read 79 = .ok (.iconst 1, 1) := by decide +kernel
theorem dX4_read_80 : decode cX4_read 80 = .ok (.putfield 91, 3) := by decide +kernel
theorem dX4_read_83 : decode cX4_read 83 = .ok (.aload_n 0, 1) := by decide +kernel
theorem dX4_read_84 : decode cX4_read 84 = .ok (.getfield 13, 3) := by decide +kernel
theorem dX4_read_87 : decode cX4_read 87 = .ok (.bipush 34, 2) := by decide +kernel
theorem dX4_read_89 : decode cX4_read 89 = .ok (.iaload, 1) := by decide +kernel
theorem dX4_read_90 : decode cX4_read 90 = .ok (.ireturn, 1) := by decide +kernel
theorem dX4_value_0 : decode cX4_value 0 = .ok (.lconst 0, 1) := by decide +kernel
theorem dX4_value_1 : decode cX4_value 1 = .ok (.lstore_n 3, 1) := by decide +kernel
theorem dX4_value_2 : decode cX4_value 2 = .ok (.iconst 0, 1) := by decide +kernel
theorem dX4_value_3 : decode cX4_value 3 = .ok (.istore 5, 2) := by decide +kernel
theorem dX4_value_5 : decode cX4_value 5 = .ok (.iload 5, 2) := by decide +kernel
theorem dX4_value_7 : decode cX4_value 7 = .ok (.iload_n 2, 1) := by decide +kernel
theorem dX4_value_8 : decode cX4_value 8 = .ok (.if_icmp .ge 38, 3) := by decide +kernel
theorem dX4_value_11 : decode cX4_value 11 = .ok (.ldc2_w 95, 3) := by decide +kernel
theorem dX4_value_14 : decode cX4_value 14 = .ok (.lload_n 3, 1) := by decide +kernel
theorem dX4_value_15 : decode cX4_value 15 = .ok (.lmul, 1) := by decide +kernel
theorem dX4_value_16 : decode cX4_value 16 = .ok (.aload_n 0, 1) := by decide +kernel
theorem dX4_value_17 : decode cX4_value 17 = .ok (.iload_n 1, 1) := by decide +kernel
theorem dX4_value_18 : decode cX4_value 18 = .ok (.iload 5, 2) := by decide +kernel
theorem dX4_value_20 : decode cX4_value 20 = .ok (.iadd, 1) := by decide +kernel
theorem dX4_value_21 : decode cX4_value 21 = .ok (.iaload, 1) := by decide +kernel
theorem dX4_value_22 : decode cX4_value 22 = .ok (.ifCond .le 14, 3) := by decide +kernel
theorem dX4_value_25 : decode cX4_value 25 = .ok (.aload_n 0, 1) := by decide +kernel
theorem dX4_value_26 : decode cX4_value 26 = .ok (.iload_n 1, 1) := by decide +kernel
theorem dX4_value_27 : decode cX4_value 27 = .ok (.iload 5, 2) := by decide +kernel
theorem dX4_value_29 : decode cX4_value 29 = .ok (.iadd, 1) := by decide +kernel
theorem dX4_value_30 : decode cX4_value 30 = .ok (.iaload, 1) := by decide +kernel
theorem dX4_value_31 : decode cX4_value 31 = .ok (.iconst 1, 1) := by decide +kernel
theorem dX4_value_32 : decode cX4_value 32 = .ok (.isub, 1) := by decide +kernel
theorem dX4_value_33 : decode cX4_value 33 = .ok (.goto 4, 3) := by decide +kernel
theorem dX4_value_36 : decode cX4_value 36 = .ok (.iconst 0, 1) := by decide +kernel
theorem dX4_value_37 : decode cX4_value 37 = .ok (.i2l, 1) := by decide +kernel
theorem dX4_value_38 : decode cX4_value 38 = .ok (.ladd, 1) := by decide +kernel
theorem dX4_value_39 : decode cX4_value 39 = .ok (.lstore_n 3, 1) := by decide +kernel
theorem dX4_value_40 : decode cX4_value 40 = .ok (.iinc 5 1, 3) := by decide +kernel
theorem dX4_value_43 : decode cX4_value 43 = .ok (.goto (-38), 3) := by decide +kernel
theorem dX4_value_46 : decode cX4_value 46 = .ok (.lload_n 3, 1) := by decide +kernel
theorem dX4_value_47 : decode cX4_value 47 = .ok (.lreturn, 1) := by decide +kernel
theorem dX4_marks_0 : decode cX4_marks 0 = .ok (.iconst 0, 1) := by decide +kernel
theorem dX4_marks_1 : decode cX4_marks 1 = .ok (.istore_n 1, 1) := by decide +kernel
theorem dX4_marks_2 : decode cX4_marks 2 = .ok (.iload_n 1, 1) := by decide +kernel
theorem dX4_marks_3 : decode cX4_marks 3 = .ok (.bipush 8, 2) := by decide +kernel
theorem dX4_marks_5 : decode cX4_marks 5 = .ok (.if_icmp .ge 21, 3) := by decide +kernel
theorem dX4_marks_8 : decode cX4_marks 8 = .ok (.aload_n 0, 1) := by decide +kernel
theorem dX4_marks_9 : decode cX4_marks 9 = .ok (.getfield 17, 3) := by decide +kernel
theorem dX4_marks_12 : decode cX4_marks 12 = .ok (.bipush 26, 2) := by decide +kernel
theorem dX4_marks_14 : decode cX4_marks 14 = .ok (.iload_n 1, 1) := by decide +kernel
theorem dX4_marks_15 : decode cX4_marks 15 = .ok (.iadd, 1) := by decide +kernel
theorem dX4_marks_16 : decode cX4_marks 16 = .ok (.iaload, 1) := by decide +kernel
theorem dX4_marks_17 : decode cX4_marks 17 = .ok (.ifCond .le 9, 3) := by decide +kernel
theorem dX4_marks_20 : decode cX4_marks 20 = .ok (.iinc 1 1, 3) := by decide +kernel
theorem dX4_marks_23 : decode cX4_marks 23 = .ok (.goto (-21), 3) := by decide +kernel
theorem dX4_marks_26 : decode cX4_marks 26 = .ok (.iload_n 1, 1) := by decide +kernel
theorem dX4_marks_27 : decode cX4_marks 27 = .ok (.ireturn, 1) := by decide +kernel
theorem dX4_part_0 : decode cX4_part 0 = .ok (.aload_n 0, 1) := by decide +kernel
theorem dX4_part_1 : decode cX4_part 1 = .ok (.iconst 0, 1) := by decide +kernel
theorem dX4_part_2 : decode cX4_part 2 = .ok (.putfield 33, 3) := by decide +kernel
theorem dX4_part_5 : decode cX4_part 5 = .ok (.aload_n 0, 1) := by decide +kernel
theorem dX4_part_6 : decode cX4_part 6 = .ok (.getfield 91, 3) := by decide +kernel
theorem dX4_part_9 : decode cX4_part 9 = .ok (.ifCond .eq 12, 3) := by decide +kernel
theorem dX4_part_12 : decode cX4_part 12 = .ok (.iload_n 1, 1) := by decide +kernel
theorem dX4_part_13 : decode cX4_part 13 = .ok (.ifCond .lt 8, 3) := by decide +kernel
theorem dX4_part_16 : decode cX4_part 16 = .ok (.iload_n 1, 1) := by decide +kernel
theorem dX4_part_17 : decode cX4_part 17 = .ok (.iconst 4, 1) := by decide +kernel
theorem dX4_part_18 : decode cX4_part 18 = .ok (.if_icmp .le 10, 3) := by decide +kernel
theorem dX4_part_21 : decode cX4_part 21 = .ok (.aload_n 0, 1) := by decide +kernel
theorem dX4_part_22 : decode cX4_part 22 = .ok (.iconst 1, 1) := by decide +kernel
theorem dX4_part_23 : decode cX4_part 23 = .ok (.putfield 33, 3) := by decide +kernel
theorem dX4_part_26 : decode cX4_part 26 = .ok (.lconst 0, 1) := by decide +kernel
theorem dX4_part_27 : decode cX4_part 27 = .ok (.lreturn, 1) := by decide +kernel
theorem dX4_part_28 : decode cX4_part 28 = .ok (.iload_n 1, 1) := by decide +kernel
theorem dX4_part_29 : decode cX4_part 29 = .ok (.tableswitch 117 0 3 #[31, 87, 99, 108], 31) := by decide +kernel
theorem dX4_part_60 : decode cX4_part 60 = .ok (.aload_n 0, 1) := by decide +kernel
theorem dX4_part_61 : decode cX4_part 61 = .ok (.getfield 29, 3) := by decide +kernel
theorem dX4_part_64 : decode cX4_part 64 = .ok (.ifCond .ne 30, 3) := by decide +kernel
theorem dX4_part_67 : decode cX4_part 67 = .ok (.aload_n 0, 1) := by decide +kernel
theorem dX4_part_68 : decode cX4_part 68 = .ok (.getfield 17, 3) := by decide +kernel
theorem dX4_part_71 : decode cX4_part 71 = .ok (.iconst 3, 1) := by decide +kernel
theorem dX4_part_72 : decode cX4_part 72 = .ok (.iaload, 1) := by decide +kernel
theorem dX4_part_73 : decode cX4_part 73 = .ok (.iconst 1, 1) := by decide +kernel
theorem dX4_part_74 : decode cX4_part 74 = .ok (.isub, 1) := by decide +kernel
theorem dX4_part_75 : decode cX4_part 75 = .ok (.i2l, 1) := by decide +kernel
theorem dX4_part_76 : decode cX4_part 76 = .ok (.ldc2_w 97, 3) := by decide +kernel
theorem dX4_part_79 : decode cX4_part 79 = .ok (.lmul, 1) := by decide +kernel
theorem dX4_part_80 : decode cX4_part 80 = .ok (.aload_n 0, 1) := by decide +kernel
theorem dX4_part_81 : decode cX4_part 81 = .ok (.getfield 17, 3) := by decide +kernel
theorem dX4_part_84 : decode cX4_part 84 = .ok (.iconst 4, 1) := by decide +kernel
theorem dX4_part_85 : decode cX4_part 85 = .ok (.bipush 9, 2) := by decide +kernel
theorem dX4_part_87 : decode cX4_part 87 = .ok (.invokestatic 99, 3) := by decide +kernel
theorem dX4_part_90 : decode cX4_part 90 = .ok (.ladd, 1) := by decide +kernel
theorem dX4_part_91 : decode cX4_part 91 = .ok (.goto 24, 3) := by decide +kernel
theorem dX4_part_94 : decode cX4_part 94 = .ok (.aload_n 0, 1) := by decide +kernel
theorem dX4_part_95 : decode cX4_part 95 = .ok (.getfield 17, 3) := by decide +kernel
theorem dX4_part_98 : decode cX4_part 98 = .ok (.iconst 3, 1) := by decide +kernel
theorem dX4_part_99 : decode cX4_part 99 = .ok (.iaload, 1) := by decide +kernel
theorem dX4_part_100 : decode cX4_part 100 = .ok (.i2l, 1) := by decide +kernel
theorem dX4_part_101 : decode cX4_part 101 = .ok (.ldc2_w 103, 3) := by decide +kernel
theorem dX4_part_104 : decode cX4_part 104 = .ok (.lmul, 1) := by decide +kernel
theorem dX4_part_105 : decode cX4_part 105 = .ok (.aload_n 0, 1) := by decide +kernel
theorem dX4_part_106 : decode cX4_part 106 = .ok (.getfield 17, 3) := by decide +kernel
theorem dX4_part_109 : decode cX4_part 109 = .ok (.iconst 4, 1) := by decide +kernel
theorem dX4_part_110 : decode cX4_part 110 = .ok (.iconst 4, 1) := by decide +kernel
theorem dX4_part_111 : decode cX4_part 111 = .ok (.invokestatic 99, 3) := by decide +kernel
theorem dX4_part_114 : decode cX4_part 114 = .ok (.ladd, 1) := by decide +kernel
theorem dX4_part_115 : decode cX4_part 115 = .ok (.lreturn, 1) := by decide +kernel
theorem dX4_part_116 : decode cX4_part 116 = .ok (.aload_n 0, 1) := by decide +kernel
theorem dX4_part_117 : decode cX4_part 117 = .ok (.getfield 17, 3) := by decide +kernel
theorem dX4_part_120 : decode cX4_part 120 = .ok (.bipush 17, 2) := by decide +kernel
theorem dX4_part_122 : decode cX4_part 122 = .ok (.bipush 6, 2) := by decide +kernel
theorem dX4_part_124 : decode cX4_part 124 = .ok (.invokestatic 99, 3) := by decide +kernel
theorem dX4_part_127 : decode cX4_part 127 = .ok (.lreturn, 1) := by decide +kernel
theorem dX4_part_128 : decode cX4_part 128 = .ok (.aload_n 0, 1) := by decide +kernel
theorem dX4_part_129 : decode cX4_part 129 = .ok (.getfield 17, 3) := by decide +kernel
theorem dX4_part_132 : decode cX4_part 132 = .ok (.bipush 23, 2) := by decide +kernel
theorem dX4_part_134 : decode cX4_part 134 = .ok (.iaload, 1) := by decide +kernel
theorem dX4_part_135 : decode cX4_part 135 = .ok (.i2l, 1) := by decide +kernel
theorem dX4_part_136 : decode cX4_part 136 = .ok (.lreturn, 1) := by decide +kernel
theorem dX4_part_137 : decode cX4_part 137 = .ok (.aload_n 0, 1) := by decide +kernel
theorem dX4_part_138 : decode cX4_part 138 = .ok (.getfield 17, 3) := by decide +kernel
theorem dX4_part_141 : decode cX4_part 141 = .ok (.bipush 24, 2) := by decide +kernel
theorem dX4_part_143 : decode cX4_part 143 = .ok (.iaload, 1) := by decide +kernel
theorem dX4_part_144 : decode cX4_part 144 = .ok (.i2l, 1) := by decide +kernel
theorem dX4_part_145 : decode cX4_part 145 = .ok (.lreturn, 1) := by decide +kernel
theorem dX4_part_146 : decode cX4_part 146 = .ok (.aload_n 0, 1) := by decide +kernel
theorem dX4_part_147 : decode cX4_part 147 = .ok (.invokevirtual 105, 3) := by decide +kernel
theorem dX4_part_150 : decode cX4_part 150 = .ok (.i2l, 1) := by decide +kernel
theorem dX4_part_151 : decode cX4_part 151 = .ok (.lreturn, 1) := by decide +kernel
theorem dX4_letters_0 : decode cX4_letters 0 = .ok (.iconst 0, 1) := by decide +kernel
theorem dX4_letters_1 : decode cX4_letters 1 = .ok (.istore_n 1, 1) := by decide +kernel
theorem dX4_letters_2 : decode cX4_letters 2 = .ok (.iload_n 1, 1) := by decide +kernel
theorem dX4_letters_3 : decode cX4_letters 3 = .ok (.iconst 3, 1) := by decide +kernel
theorem dX4_letters_4 : decode cX4_letters 4 = .ok (.if_icmp .ge 18, 3) := by decide +kernel
theorem dX4_letters_7 : decode cX4_letters 7 = .ok (.aload_n 0, 1) := by decide +kernel
theorem dX4_letters_8 : decode cX4_letters 8 = .ok (.getfield 17, 3) := by decide +kernel
theorem dX4_letters_11 : decode cX4_letters 11 = .ok (.iload_n 1, 1) := by decide +kernel
theorem dX4_letters_12 : decode cX4_letters 12 = .ok (.iaload, 1) := by decide +kernel
theorem dX4_letters_13 : decode cX4_letters 13 = .ok (.ifCond .le 9, 3) := by decide +kernel
theorem dX4_letters_16 : decode cX4_letters 16 = .ok (.iinc 1 1, 3) := by decide +kernel
theorem dX4_letters_19 : decode cX4_letters 19 = .ok (.goto (-17), 3) := by decide +kernel
theorem dX4_letters_22 : decode cX4_letters 22 = .ok (.iload_n 1, 1) := by decide +kernel
theorem dX4_letters_23 : decode cX4_letters 23 = .ok (.ireturn, 1) := by decide +kernel
theorem dX4_letter_0 : decode cX4_letter 0 = .ok (.aload_n 0, 1) := by decide +kernel
theorem dX4_letter_1 : decode cX4_letter 1 = .ok (.iconst 0, 1) := by decide +kernel
theorem dX4_letter_2 : decode cX4_letter 2 = .ok (.putfield 33, 3) := by decide +kernel
theorem dX4_letter_5 : decode cX4_letter 5 = .ok (.aload_n 0, 1) := by decide +kernel
theorem dX4_letter_6 : decode cX4_letter 6 = .ok (.invokevirtual 108, 3) := by decide +kernel
theorem dX4_letter_9 : decode cX4_letter 9 = .ok (.istore_n 2, 1) := by decide +kernel
theorem dX4_letter_10 : decode cX4_letter 10 = .ok (.aload_n 0, 1) := by decide +kernel
end
section
theorem dX4_letter_11 : decode cX4_letter 11 = .ok (.getfield 91, 3) := by decide +kernel
theorem dX4_letter_14 : decode cX4_letter 14 = .ok (.ifCond .eq 12, 3) := by decide +kernel
theorem dX4_letter_17 : decode cX4_letter 17 = .ok (.iload_n 1, 1) := by decide +kernel
theorem dX4_letter_18 : decode cX4_letter 18 = .ok (.ifCond .lt 8, 3) := by decide +kernel
theorem dX4_letter_21 : decode cX4_letter 21 = .ok (.iload_n 1, 1) := by decide +kernel
theorem dX4_letter_22 : decode cX4_letter 22 = .ok (.iload_n 2, 1) := by decide +kernel
theorem dX4_letter_23 : decode cX4_letter 23 = .ok (.if_icmp .le 7, 3) := by decide +kernel
theorem dX4_letter_26 : decode cX4_letter 26 = .ok (.iconst 0, 1) := by decide +kernel
theorem dX4_letter_27 : decode cX4_letter 27 = .ok (.goto 24, 3) := by decide +kernel
theorem dX4_letter_30 : decode cX4_letter 30 = .ok (.iload_n 1, 1) := by decide +kernel
theorem dX4_letter_31 : decode cX4_letter 31 = .ok (.iload_n 2, 1) := by decide +kernel
theorem dX4_letter_32 : decode cX4_letter 32 = .ok (.if_icmp .ne 13, 3) := by decide +kernel
theorem dX4_letter_35 : decode cX4_letter 35 = .ok (.aload_n 0, 1) := by decide +kernel
theorem dX4_letter_36 : decode cX4_letter 36 = .ok (.getfield 17, 3) := by decide +kernel
theorem dX4_letter_39 : decode cX4_letter 39 = .ok (.bipush 16, 2) := by decide +kernel
theorem dX4_letter_41 : decode cX4_letter 41 = .ok (.iaload, 1) := by decide +kernel
theorem dX4_letter_42 : decode cX4_letter 42 = .ok (.goto 9, 3) := by decide +kernel
theorem dX4_letter_45 : decode cX4_letter 45 = .ok (.aload_n 0, 1) := by decide +kernel
theorem dX4_letter_46 : decode cX4_letter 46 = .ok (.getfield 17, 3) := by decide +kernel
theorem dX4_letter_49 : decode cX4_letter 49 = .ok (.iload_n 1, 1) := by decide +kernel
theorem dX4_letter_50 : decode cX4_letter 50 = .ok (.iaload, 1) := by decide +kernel
theorem dX4_letter_51 : decode cX4_letter 51 = .ok (.ireturn, 1) := by decide +kernel
theorem dX4_decimals_0 : decode cX4_decimals 0 = .ok (.iload_n 0, 1) := by decide +kernel
theorem dX4_decimals_1 : decode cX4_decimals 1 = .ok (.sipush 999, 3) := by decide +kernel
theorem dX4_decimals_4 : decode cX4_decimals 4 = .ok (.if_icmp .le 7, 3) := by decide +kernel
theorem dX4_decimals_7 : decode cX4_decimals 7 = .ok (.iconst 4, 1) := by decide +kernel
theorem dX4_decimals_8 : decode cX4_decimals 8 = .ok (.goto 24, 3) := by decide +kernel
theorem dX4_decimals_11 : decode cX4_decimals 11 = .ok (.iload_n 0, 1) := by decide +kernel
theorem dX4_decimals_12 : decode cX4_decimals 12 = .ok (.bipush 99, 2) := by decide +kernel
theorem dX4_decimals_14 : decode cX4_decimals 14 = .ok (.if_icmp .le 7, 3) := by decide +kernel
theorem dX4_decimals_17 : decode cX4_decimals 17 = .ok (.iconst 3, 1) := by decide +kernel
theorem dX4_decimals_18 : decode cX4_decimals 18 = .ok (.goto 14, 3) := by decide +kernel
theorem dX4_decimals_21 : decode cX4_decimals 21 = .ok (.iload_n 0, 1) := by decide +kernel
theorem dX4_decimals_22 : decode cX4_decimals 22 = .ok (.bipush 9, 2) := by decide +kernel
theorem dX4_decimals_24 : decode cX4_decimals 24 = .ok (.if_icmp .le 7, 3) := by decide +kernel
theorem dX4_decimals_27 : decode cX4_decimals 27 = .ok (.iconst 2, 1) := by decide +kernel
theorem dX4_decimals_28 : decode cX4_decimals 28 = .ok (.goto 4, 3) := by decide +kernel
theorem dX4_decimals_31 : decode cX4_decimals 31 = .ok (.iconst 1, 1) := by decide +kernel
theorem dX4_decimals_32 : decode cX4_decimals 32 = .ok (.ireturn, 1) := by decide +kernel
theorem dX4_cutterSize_0 : decode cX4_cutterSize 0 = .ok (.iconst 0, 1) := by decide +kernel
theorem dX4_cutterSize_1 : decode cX4_cutterSize 1 = .ok (.istore_n 1, 1) := by decide +kernel
theorem dX4_cutterSize_2 : decode cX4_cutterSize 2 = .ok (.iload_n 1, 1) := by decide +kernel
theorem dX4_cutterSize_3 : decode cX4_cutterSize 3 = .ok (.bipush 6, 2) := by decide +kernel
theorem dX4_cutterSize_5 : decode cX4_cutterSize 5 = .ok (.if_icmp .ge 21, 3) := by decide +kernel
theorem dX4_cutterSize_8 : decode cX4_cutterSize 8 = .ok (.aload_n 0, 1) := by decide +kernel
theorem dX4_cutterSize_9 : decode cX4_cutterSize 9 = .ok (.getfield 17, 3) := by decide +kernel
theorem dX4_cutterSize_12 : decode cX4_cutterSize 12 = .ok (.bipush 17, 2) := by decide +kernel
theorem dX4_cutterSize_14 : decode cX4_cutterSize 14 = .ok (.iload_n 1, 1) := by decide +kernel
theorem dX4_cutterSize_15 : decode cX4_cutterSize 15 = .ok (.iadd, 1) := by decide +kernel
theorem dX4_cutterSize_16 : decode cX4_cutterSize 16 = .ok (.iaload, 1) := by decide +kernel
theorem dX4_cutterSize_17 : decode cX4_cutterSize 17 = .ok (.ifCond .le 9, 3) := by decide +kernel
theorem dX4_cutterSize_20 : decode cX4_cutterSize 20 = .ok (.iinc 1 1, 3) := by decide +kernel
theorem dX4_cutterSize_23 : decode cX4_cutterSize 23 = .ok (.goto (-21), 3) := by decide +kernel
theorem dX4_cutterSize_26 : decode cX4_cutterSize 26 = .ok (.iload_n 1, 1) := by decide +kernel
theorem dX4_cutterSize_27 : decode cX4_cutterSize 27 = .ok (.ireturn, 1) := by decide +kernel
theorem dX4_spine_0 : decode cX4_spine 0 = .ok (.aload_n 0, 1) := by decide +kernel
theorem dX4_spine_1 : decode cX4_spine 1 = .ok (.iconst 0, 1) := by decide +kernel
theorem dX4_spine_2 : decode cX4_spine 2 = .ok (.putfield 33, 3) := by decide +kernel
theorem dX4_spine_5 : decode cX4_spine 5 = .ok (.aload_n 0, 1) := by decide +kernel
theorem dX4_spine_6 : decode cX4_spine 6 = .ok (.getfield 91, 3) := by decide +kernel
theorem dX4_spine_9 : decode cX4_spine 9 = .ok (.ifCond .eq 7, 3) := by decide +kernel
theorem dX4_spine_12 : decode cX4_spine 12 = .ok (.iload_n 1, 1) := by decide +kernel
theorem dX4_spine_13 : decode cX4_spine 13 = .ok (.ifCond .ge 5, 3) := by decide +kernel
theorem dX4_spine_16 : decode cX4_spine 16 = .ok (.iconst (-1), 1) := by decide +kernel
theorem dX4_spine_17 : decode cX4_spine 17 = .ok (.ireturn, 1) := by decide +kernel
theorem dX4_spine_18 : decode cX4_spine 18 = .ok (.iload_n 1, 1) := by decide +kernel
theorem dX4_spine_19 : decode cX4_spine 19 = .ok (.istore_n 2, 1) := by decide +kernel
theorem dX4_spine_20 : decode cX4_spine 20 = .ok (.aload_n 0, 1) := by decide +kernel
theorem dX4_spine_21 : decode cX4_spine 21 = .ok (.getfield 29, 3) := by decide +kernel
theorem dX4_spine_24 : decode cX4_spine 24 = .ok (.iconst 1, 1) := by decide +kernel
theorem dX4_spine_25 : decode cX4_spine 25 = .ok (.if_icmp .ne 15, 3) := by decide +kernel
theorem dX4_spine_28 : decode cX4_spine 28 = .ok (.iload_n 2, 1) := by decide +kernel
theorem dX4_spine_29 : decode cX4_spine 29 = .ok (.ifCond .ne 8, 3) := by decide +kernel
theorem dX4_spine_32 : decode cX4_spine 32 = .ok (.aload_n 0, 1) := by decide +kernel
theorem dX4_spine_33 : decode cX4_spine 33 = .ok (.invokevirtual 108, 3) := by decide +kernel
theorem dX4_spine_36 : decode cX4_spine 36 = .ok (.ireturn, 1) := by decide +kernel
theorem dX4_spine_37 : decode cX4_spine 37 = .ok (.iinc 2 (-1), 3) := by decide +kernel
theorem dX4_spine_40 : decode cX4_spine 40 = .ok (.iload_n 2, 1) := by decide +kernel
theorem dX4_spine_41 : decode cX4_spine 41 = .ok (.ifCond .ne 16, 3) := by decide +kernel
theorem dX4_spine_44 : decode cX4_spine 44 = .ok (.aload_n 0, 1) := by decide +kernel
theorem dX4_spine_45 : decode cX4_spine 45 = .ok (.getfield 17, 3) := by decide +kernel
theorem dX4_spine_48 : decode cX4_spine 48 = .ok (.bipush 37, 2) := by decide +kernel
theorem dX4_spine_50 : decode cX4_spine 50 = .ok (.iaload, 1) := by decide +kernel
theorem dX4_spine_51 : decode cX4_spine 51 = .ok (.aload_n 0, 1) := by decide +kernel
theorem dX4_spine_52 : decode cX4_spine 52 = .ok (.invokevirtual 108, 3) := by decide +kernel
theorem dX4_spine_55 : decode cX4_spine 55 = .ok (.isub, 1) := by decide +kernel
theorem dX4_spine_56 : decode cX4_spine 56 = .ok (.ireturn, 1) := by decide +kernel
theorem dX4_spine_57 : decode cX4_spine 57 = .ok (.iload_n 2, 1) := by decide +kernel
theorem dX4_spine_58 : decode cX4_spine 58 = .ok (.iconst 1, 1) := by decide +kernel
theorem dX4_spine_59 : decode cX4_spine 59 = .ok (.if_icmp .ne 10, 3) := by decide +kernel
theorem dX4_spine_62 : decode cX4_spine 62 = .ok (.iconst 1, 1) := by decide +kernel
theorem dX4_spine_63 : decode cX4_spine 63 = .ok (.aload_n 0, 1) := by decide +kernel
theorem dX4_spine_64 : decode cX4_spine 64 = .ok (.invokevirtual 111, 3) := by decide +kernel
theorem dX4_spine_67 : decode cX4_spine 67 = .ok (.iadd, 1) := by decide +kernel
theorem dX4_spine_68 : decode cX4_spine 68 = .ok (.ireturn, 1) := by decide +kernel
theorem dX4_spine_69 : decode cX4_spine 69 = .ok (.iinc 2 (-2), 3) := by decide +kernel
theorem dX4_spine_72 : decode cX4_spine 72 = .ok (.aload_n 0, 1) := by decide +kernel
theorem dX4_spine_73 : decode cX4_spine 73 = .ok (.getfield 17, 3) := by decide +kernel
theorem dX4_spine_76 : decode cX4_spine 76 = .ok (.bipush 23, 2) := by decide +kernel
theorem dX4_spine_78 : decode cX4_spine 78 = .ok (.iaload, 1) := by decide +kernel
theorem dX4_spine_79 : decode cX4_spine 79 = .ok (.ifCond .le 12, 3) := by decide +kernel
theorem dX4_spine_82 : decode cX4_spine 82 = .ok (.iload_n 2, 1) := by decide +kernel
theorem dX4_spine_83 : decode cX4_spine 83 = .ok (.ifCond .ne 5, 3) := by decide +kernel
theorem dX4_spine_86 : decode cX4_spine 86 = .ok (.iconst 4, 1) := by decide +kernel
theorem dX4_spine_87 : decode cX4_spine 87 = .ok (.ireturn, 1) := by decide +kernel
theorem dX4_spine_88 : decode cX4_spine 88 = .ok (.iinc 2 (-1), 3) := by decide +kernel
theorem dX4_spine_91 : decode cX4_spine 91 = .ok (.aload_n 0, 1) := by decide +kernel
theorem dX4_spine_92 : decode cX4_spine 92 = .ok (.getfield 17, 3) := by decide +kernel
theorem dX4_spine_95 : decode cX4_spine 95 = .ok (.bipush 24, 2) := by decide +kernel
theorem dX4_spine_97 : decode cX4_spine 97 = .ok (.iaload, 1) := by decide +kernel
theorem dX4_spine_98 : decode cX4_spine 98 = .ok (.ifCond .le 39, 3) := by decide +kernel
theorem dX4_spine_101 : decode cX4_spine 101 = .ok (.iload_n 2, 1) := by decide +kernel
theorem dX4_spine_102 : decode cX4_spine 102 = .ok (.ifCond .ne 32, 3) := by decide +kernel
theorem dX4_spine_105 : decode cX4_spine 105 = .ok (.iconst 2, 1) := by decide +kernel
theorem dX4_spine_106 : decode cX4_spine 106 = .ok (.aload_n 0, 1) := by decide +kernel
theorem dX4_spine_107 : decode cX4_spine 107 = .ok (.getfield 17, 3) := by decide +kernel
theorem dX4_spine_110 : decode cX4_spine 110 = .ok (.bipush 24, 2) := by decide +kernel
theorem dX4_spine_112 : decode cX4_spine 112 = .ok (.iaload, 1) := by decide +kernel
theorem dX4_spine_113 : decode cX4_spine 113 = .ok (.invokestatic 114, 3) := by decide +kernel
theorem dX4_spine_116 : decode cX4_spine 116 = .ok (.iadd, 1) := by decide +kernel
theorem dX4_spine_117 : decode cX4_spine 117 = .ok (.aload_n 0, 1) := by decide +kernel
theorem dX4_spine_118 : decode cX4_spine 118 = .ok (.getfield 17, 3) := by decide +kernel
theorem dX4_spine_121 : decode cX4_spine 121 = .ok (.bipush 25, 2) := by decide +kernel
theorem dX4_spine_123 : decode cX4_spine 123 = .ok (.iaload, 1) := by decide +kernel
theorem dX4_spine_124 : decode cX4_spine 124 = .ok (.ifCond .le 7, 3) := by decide +kernel
theorem dX4_spine_127 : decode cX4_spine 127 = .ok (.iconst 1, 1) := by decide +kernel
theorem dX4_spine_128 : decode cX4_spine 128 = .ok (.goto 4, 3) := by decide +kernel
theorem dX4_spine_131 : decode cX4_spine 131 = .ok (.iconst 0, 1) := by decide +kernel
theorem dX4_spine_132 : decode cX4_spine 132 = .ok (.iadd, 1) := by decide +kernel
theorem dX4_spine_133 : decode cX4_spine 133 = .ok (.ireturn, 1) := by decide +kernel
theorem dX4_spine_134 : decode cX4_spine 134 = .ok (.iinc 2 (-1), 3) := by decide +kernel
theorem dX4_spine_137 : decode cX4_spine 137 = .ok (.aload_n 0, 1) := by decide +kernel
theorem dX4_spine_138 : decode cX4_spine 138 = .ok (.getfield 17, 3) := by decide +kernel
theorem dX4_spine_141 : decode cX4_spine 141 = .ok (.bipush 26, 2) := by decide +kernel
theorem dX4_spine_143 : decode cX4_spine 143 = .ok (.iaload, 1) := by decide +kernel
theorem dX4_spine_144 : decode cX4_spine 144 = .ok (.ifCond .le 14, 3) := by decide +kernel
theorem dX4_spine_147 : decode cX4_spine 147 = .ok (.iload_n 2, 1) := by decide +kernel
theorem dX4_spine_148 : decode cX4_spine 148 = .ok (.ifCond .ne 10, 3) := by decide +kernel
theorem dX4_spine_151 : decode cX4_spine 151 = .ok (.aload_n 0, 1) := by decide +kernel
theorem dX4_spine_152 : decode cX4_spine 152 = .ok (.invokevirtual 105, 3) := by decide +kernel
theorem dX4_spine_155 : decode cX4_spine 155 = .ok (.goto 4, 3) := by decide +kernel
theorem dX4_spine_158 : decode cX4_spine 158 = .ok (.iconst (-1), 1) := by decide +kernel
theorem dX4_spine_159 : decode cX4_spine 159 = .ok (.ireturn, 1) := by decide +kernel
theorem dX4_order_0 : decode cX4_order 0 = .ok (.iconst 0, 1) := by decide +kernel
theorem dX4_order_1 : decode cX4_order 1 = .ok (.istore 4, 2) := by decide +kernel
theorem dX4_order_3 : decode cX4_order 3 = .ok (.iload 4, 2) := by decide +kernel
theorem dX4_order_5 : decode cX4_order 5 = .ok (.iload_n 3, 1) := by decide +kernel
theorem dX4_order_6 : decode cX4_order 6 = .ok (.if_icmp .ge 61, 3) := by decide +kernel
theorem dX4_order_9 : decode cX4_order 9 = .ok (.iload_n 2, 1) := by decide +kernel
theorem dX4_order_10 : decode cX4_order 10 = .ok (.ifCond .ge 13, 3) := by decide +kernel
theorem dX4_order_13 : decode cX4_order 13 = .ok (.aload_n 0, 1) := by decide +kernel
theorem dX4_order_14 : decode cX4_order 14 = .ok (.getfield 26, 3) := by decide +kernel
theorem dX4_order_17 : decode cX4_order 17 = .ok (.iload 4, 2) := by decide +kernel
theorem dX4_order_19 : decode cX4_order 19 = .ok (.iaload, 1) := by decide +kernel
theorem dX4_order_20 : decode cX4_order 20 = .ok (.goto 15, 3) := by decide +kernel
theorem dX4_order_23 : decode cX4_order 23 = .ok (.aload_n 0, 1) := by decide +kernel
theorem dX4_order_24 : decode cX4_order 24 = .ok (.getfield 20, 3) := by decide +kernel
theorem dX4_order_27 : decode cX4_order 27 = .ok (.bipush 40, 2) := by decide +kernel
theorem dX4_order_29 : decode cX4_order 29 = .ok (.iload_n 2, 1) := by decide +kernel
theorem dX4_order_30 : decode cX4_order 30 = .ok (.imul, 1) := by decide +kernel
theorem dX4_order_31 : decode cX4_order 31 = .ok (.iload 4, 2) := by decide +kernel
theorem dX4_order_33 : decode cX4_order 33 = .ok (.iadd, 1) := by decide +kernel
theorem dX4_order_34 : decode cX4_order 34 = .ok (.iaload, 1) := by decide +kernel
theorem dX4_order_35 : decode cX4_order 35 = .ok (.istore 5, 2) := by decide +kernel
theorem dX4_order_37 : decode cX4_order 37 = .ok (.aload_n 1, 1) := by decide +kernel
theorem dX4_order_38 : decode cX4_order 38 = .ok (.iload 4, 2) := by decide +kernel
theorem dX4_order_40 : decode cX4_order 40 = .ok (.iaload, 1) := by decide +kernel
theorem dX4_order_41 : decode cX4_order 41 = .ok (.iload 5, 2) := by decide +kernel
theorem dX4_order_43 : decode cX4_order 43 = .ok (.if_icmp .eq 18, 3) := by decide +kernel
theorem dX4_order_46 : decode cX4_order 46 = .ok (.aload_n 1, 1) := by decide +kernel
theorem dX4_order_47 : decode cX4_order 47 = .ok (.iload 4, 2) := by decide +kernel
theorem dX4_order_49 : decode cX4_order 49 = .ok (.iaload, 1) := by decide +kernel
theorem dX4_order_50 : decode cX4_order 50 = .ok (.iload 5, 2) := by decide +kernel
theorem dX4_order_52 : decode cX4_order 52 = .ok (.if_icmp .ge 7, 3) := by decide +kernel
theorem dX4_order_55 : decode cX4_order 55 = .ok (.iconst (-1), 1) := by decide +kernel
theorem dX4_order_56 : decode cX4_order 56 = .ok (.goto 4, 3) := by decide +kernel
theorem dX4_order_59 : decode cX4_order 59 = .ok (.iconst 1, 1) := by decide +kernel
theorem dX4_order_60 : decode cX4_order 60 = .ok (.ireturn, 1) := by decide +kernel
theorem dX4_order_61 : decode cX4_order 61 = .ok (.iinc 4 1, 3) := by decide +kernel
theorem dX4_order_64 : decode cX4_order 64 = .ok (.goto (-61), 3) := by decide +kernel
theorem dX4_order_67 : decode cX4_order 67 = .ok (.iconst 0, 1) := by decide +kernel
theorem dX4_order_68 : decode cX4_order 68 = .ok (.ireturn, 1) := by decide +kernel
theorem dX4_placeOf_0 : decode cX4_placeOf 0 = .ok (.iconst 0, 1) := by decide +kernel
theorem dX4_placeOf_1 : decode cX4_placeOf 1 = .ok (.istore_n 1, 1) := by decide +kernel
theorem dX4_placeOf_2 : decode cX4_placeOf 2 = .ok (.iload_n 1, 1) := by decide +kernel
theorem dX4_placeOf_3 : decode cX4_placeOf 3 = .ok (.aload_n 0, 1) := by decide +kernel
theorem dX4_placeOf_4 : decode cX4_placeOf 4 = .ok (.getfield 118, 3) := by decide +kernel
theorem dX4_placeOf_7 : decode cX4_placeOf 7 = .ok (.if_icmp .ge 23, 3) := by decide +kernel
theorem dX4_placeOf_10 : decode cX4_placeOf 10 = .ok (.aload_n 0, 1) := by decide +kernel
theorem dX4_placeOf_11 : decode cX4_placeOf 11 = .ok (.aload_n 0, 1) := by decide +kernel
theorem dX4_placeOf_12 : decode cX4_placeOf 12 = .ok (.getfield 17, 3) := by decide +kernel
theorem dX4_placeOf_15 : decode cX4_placeOf 15 = .ok (.iload_n 1, 1) := by decide +kernel
theorem dX4_placeOf_16 : decode cX4_placeOf 16 = .ok (.bipush 34, 2) := by decide +kernel
theorem dX4_placeOf_18 : decode cX4_placeOf 18 = .ok (.invokevirtual 121, 3) := by decide +kernel
theorem dX4_placeOf_21 : decode cX4_placeOf 21 = .ok (.ifCond .le 9, 3) := by decide +kernel
theorem dX4_placeOf_24 : decode cX4_placeOf 24 = .ok (.iinc 1 1, 3) := by decide +kernel
theorem dX4_placeOf_27 : decode cX4_placeOf 27 = .ok (.goto (-25), 3) := by decide +kernel
theorem dX4_placeOf_30 : decode cX4_placeOf 30 = .ok (.iload_n 1, 1) := by decide +kernel
theorem dX4_placeOf_31 : decode cX4_placeOf 31 = .ok (.ireturn, 1) := by decide +kernel
theorem dX4_put_0 : decode cX4_put 0 = .ok (.aload_n 0, 1) := by decide +kernel
theorem dX4_put_1 : decode cX4_put 1 = .ok (.iconst 0, 1) := by decide +kernel
theorem dX4_put_2 : decode cX4_put 2 = .ok (.putfield 33, 3) := by decide +kernel
theorem dX4_put_5 : decode cX4_put 5 = .ok (.aload_n 0, 1) := by decide +kernel
theorem dX4_put_6 : decode cX4_put 6 = .ok (.getfield 91, 3) := by decide +kernel
theorem dX4_put_9 : decode cX4_put 9 = .ok (.ifCond .ne 5, 3) := by decide +kernel
theorem dX4_put_12 : decode cX4_put 12 = .ok (.iconst (-1), 1) := by decide +kernel
theorem dX4_put_13 : decode cX4_put 13 = .ok (.ireturn, 1) := by decide +kernel
theorem dX4_put_14 : decode cX4_put 14 = .ok (.aload_n 0, 1) := by decide +kernel
theorem dX4_put_15 : decode cX4_put 15 = .ok (.invokevirtual 125, 3) := by decide +kernel
theorem dX4_put_18 : decode cX4_put 18 = .ok (.istore_n 2, 1) := by decide +kernel
theorem dX4_put_19 : decode cX4_put 19 = .ok (.iload_n 2, 1) := by decide +kernel
theorem dX4_put_20 : decode cX4_put 20 = .ok (.aload_n 0, 1) := by decide +kernel
theorem dX4_put_21 : decode cX4_put 21 = .ok (.getfield 118, 3) := by decide +kernel
theorem dX4_put_24 : decode cX4_put 24 = .ok (.if_icmp .ge 22, 3) := by decide +kernel
theorem dX4_put_27 : decode cX4_put 27 = .ok (.aload_n 0, 1) := by decide +kernel
theorem dX4_put_28 : decode cX4_put 28 = .ok (.aload_n 0, 1) := by decide +kernel
theorem dX4_put_29 : decode cX4_put 29 = .ok (.getfield 17, 3) := by decide +kernel
theorem dX4_put_32 : decode cX4_put 32 = .ok (.iload_n 2, 1) := by decide +kernel
theorem dX4_put_33 : decode cX4_put 33 = .ok (.bipush 34, 2) := by decide +kernel
theorem dX4_put_35 : decode cX4_put 35 = .ok (.invokevirtual 121, 3) := by decide +kernel
theorem dX4_put_38 : decode cX4_put 38 = .ok (.ifCond .ne 8, 3) := by decide +kernel
theorem dX4_put_41 : decode cX4_put 41 = .ok (.bipush (-2), 2) := by decide +kernel
theorem dX4_put_43 : decode cX4_put 43 = .ok (.iload_n 2, 1) := by decide +kernel
theorem dX4_put_44 : decode cX4_put 44 = .ok (.isub, 1) := by decide +kernel
theorem dX4_put_45 : decode cX4_put 45 = .ok (.ireturn, 1) := by decide +kernel
theorem dX4_put_46 : decode cX4_put 46 = .ok (.aload_n 0, 1) := by decide +kernel
theorem dX4_put_47 : decode cX4_put 47 = .ok (.getfield 118, 3) := by decide +kernel
theorem dX4_put_50 : decode cX4_put 50 = .ok (.bipush 60, 2) := by decide +kernel
theorem dX4_put_52 : decode cX4_put 52 = .ok (.if_icmp .ne 5, 3) := by decide +kernel
theorem dX4_put_55 : decode cX4_put 55 = .ok (.iconst (-1), 1) := by decide +kernel
theorem dX4_put_56 : decode cX4_put 56 = .ok (.ireturn, 1) := by decide +kernel
theorem dX4_put_57 : decode cX4_put 57 = .ok (.aload_n 0, 1) := by decide +kernel
theorem dX4_put_58 : decode cX4_put 58 = .ok (.getfield 118, 3) := by decide +kernel
theorem dX4_put_61 : decode cX4_put 61 = .ok (.istore_n 3, 1) := by decide +kernel
theorem dX4_put_62 : decode cX4_put 62 = .ok (.iload_n 3, 1) := by decide +kernel
theorem dX4_put_63 : decode cX4_put 63 = .ok (.iload_n 2, 1) := by decide +kernel
theorem dX4_put_64 : decode cX4_put 64 = .ok (.if_icmp .le 66, 3) := by decide +kernel
theorem dX4_put_67 : decode cX4_put 67 = .ok (.iconst 0, 1) := by decide +kernel
theorem dX4_put_68 : decode cX4_put 68 = .ok (.istore 4, 2) := by decide +kernel
theorem dX4_put_70 : decode cX4_put 70 = .ok (.iload 4, 2) := by decide +kernel
theorem dX4_put_72 : decode cX4_put 72 = .ok (.bipush 40, 2) := by decide +kernel
theorem dX4_put_74 : decode cX4_put 74 = .ok (.if_icmp .ge 36, 3) := by decide +kernel
theorem dX4_put_77 : decode cX4_put 77 = .ok (.aload_n 0, 1) := by decide +kernel
theorem dX4_put_78 : decode cX4_put 78 = .ok (.getfield 20, 3) := by decide +kernel
theorem dX4_put_81 : decode cX4_put 81 = .ok (.bipush 40, 2) := by decide +kernel
theorem dX4_put_83 : decode cX4_put 83 = .ok (.iload_n 3, 1) := by decide +kernel
theorem dX4_put_84 : decode cX4_put 84 = .ok (.imul, 1) := by decide +kernel
theorem dX4_put_85 : decode cX4_put 85 = .ok (.iload 4, 2) := by decide +kernel
theorem dX4_put_87 : decode cX4_put 87 = .ok (.iadd, 1) := by decide +kernel
theorem dX4_put_88 : decode cX4_put 88 = .ok (.aload_n 0, 1) := by decide +kernel
theorem dX4_put_89 : decode cX4_put 89 = .ok (.getfield 20, 3) := by decide +kernel
theorem dX4_put_92 : decode cX4_put 92 = .ok (.bipush 40, 2) := by decide +kernel
theorem dX4_put_94 : decode cX4_put 94 = .ok (.iload_n 3, 1) := by decide +kernel
theorem dX4_put_95 : decode cX4_put 95 = .ok (.imul, 1) := by decide +kernel
theorem dX4_put_96 : decode cX4_put 96 = .ok (.bipush 40, 2) := by decide +kernel
theorem dX4_put_98 : decode cX4_put 98 = .ok (.isub, 1) := by decide +kernel
theorem dX4_put_99 : decode cX4_put 99 = .ok (.iload 4, 2) := by decide +kernel
theorem dX4_put_101 : decode cX4_put 101 = .ok (.iadd, 1) := by decide +kernel
theorem dX4_put_102 : decode cX4_put 102 = .ok (.iaload, 1) := by decide +kernel
theorem dX4_put_103 : decode cX4_put 103 = .ok (.iastore, 1) := by decide +kernel
theorem dX4_put_104 : decode cX4_put 104 = .ok (.iinc 4 1, 3) := by decide +kernel
theorem dX4_put_107 : decode cX4_put 107 = .ok (.goto (-37), 3) := by decide +kernel
theorem dX4_put_110 : decode cX4_put 110 = .ok (.aload_n 0, 1) := by decide +kernel
theorem dX4_put_111 : decode cX4_put 111 = .ok (.getfield 23, 3) := by decide +kernel
theorem dX4_put_114 : decode cX4_put 114 = .ok (.iload_n 3, 1) := by decide +kernel
theorem dX4_put_115 : decode cX4_put 115 = .ok (.aload_n 0, 1) := by decide +kernel
theorem dX4_put_116 : decode cX4_put 116 = .ok (.getfield 23, 3) := by decide +kernel
theorem dX4_put_119 : decode cX4_put 119 = .ok (.iload_n 3, 1) := by decide +kernel
theorem dX4_put_120 : decode cX4_put 120 = .ok (.iconst 1, 1) := by decide +kernel
theorem dX4_put_121 : decode cX4_put 121 = .ok (.isub, 1) := by decide +kernel
theorem dX4_put_122 : decode cX4_put 122 = .ok (.iaload, 1) := by decide +kernel
theorem dX4_put_123 : decode cX4_put 123 = .ok (.iastore, 1) := by decide +kernel
theorem dX4_put_124 : decode cX4_put 124 = .ok (.iinc 3 (-1), 3) := by decide +kernel
theorem dX4_put_127 : decode cX4_put 127 = .ok (.goto (-65), 3) := by decide +kernel
theorem dX4_put_130 : decode cX4_put 130 = .ok (.iconst 0, 1) := by decide +kernel
theorem dX4_put_131 : decode cX4_put 131 = .ok (.istore_n 3, 1) := by decide +kernel
theorem dX4_put_132 : decode cX4_put 132 = .ok (.iload_n 3, 1) := by decide +kernel
theorem dX4_put_133 : decode cX4_put 133 = .ok (.bipush 40, 2) := by decide +kernel
theorem dX4_put_135 : decode cX4_put 135 = .ok (.if_icmp .ge 26, 3) := by decide +kernel
theorem dX4_put_138 : decode cX4_put 138 = .ok (.aload_n 0, 1) := by decide +kernel
theorem dX4_put_139 : decode cX4_put 139 = .ok (.getfield 20, 3) := by decide +kernel
theorem dX4_put_142 : decode cX4_put 142 = .ok (.bipush 40, 2) := by decide +kernel
theorem dX4_put_144 : decode cX4_put 144 = .ok (.iload_n 2, 1) := by decide +kernel
theorem dX4_put_145 : decode cX4_put 145 = .ok (.imul, 1) := by decide +kernel
theorem dX4_put_146 : decode cX4_put 146 = .ok (.iload_n 3, 1) := by decide +kernel
theorem dX4_put_147 : decode cX4_put 147 = .ok (.iadd, 1) := by decide +kernel
theorem dX4_put_148 : decode cX4_put 148 = .ok (.aload_n 0, 1) := by decide +kernel
theorem dX4_put_149 : decode cX4_put 149 = .ok (.getfield 17, 3) := by decide +kernel
theorem dX4_put_152 : decode cX4_put 152 = .ok (.iload_n 3, 1) := by decide +kernel
theorem dX4_put_153 : decode cX4_put 153 = .ok (.iaload, 1) := by decide +kernel
theorem dX4_put_154 : decode cX4_put 154 = .ok (.iastore, 1) := by decide +kernel
theorem dX4_put_155 : decode cX4_put 155 = .ok (.iinc 3 1, 3) := by decide +kernel
theorem dX4_put_158 : decode cX4_put 158 = .ok (.goto (-26), 3) := by decide +kernel
theorem dX4_put_161 : decode cX4_put 161 = .ok (.aload_n 0, 1) := by decide +kernel
theorem dX4_put_162 : decode cX4_put 162 = .ok (.getfield 23, 3) := by decide +kernel
theorem dX4_put_165 : decode cX4_put 165 = .ok (.iload_n 2, 1) := by decide +kernel
theorem dX4_put_166 : decode cX4_put 166 = .ok (.iload_n 1, 1) := by decide +kernel
theorem dX4_put_167 : decode cX4_put 167 = .ok (.iastore, 1) := by decide +kernel
theorem dX4_put_168 : decode cX4_put 168 = .ok (.aload_n 0, 1) := by decide +kernel
theorem dX4_put_169 : decode cX4_put 169 = .ok (.dup, 1) := by decide +kernel
theorem dX4_put_170 : decode cX4_put 170 = .ok (.getfield 118, 3) := by decide +kernel
theorem dX4_put_173 : decode cX4_put 173 = .ok (.iconst 1, 1) := by decide +kernel
theorem dX4_put_174 : decode cX4_put 174 = .ok (.iadd, 1) := by decide +kernel
theorem dX4_put_175 : decode cX4_put 175 = .ok (.putfield 118, 3) := by decide +kernel
theorem dX4_put_178 : decode cX4_put 178 = .ok (.iload_n 2, 1) := by decide +kernel
theorem dX4_put_179 : decode cX4_put 179 = .ok (.ireturn, 1) := by decide +kernel
theorem dX4_shelf_0 : decode cX4_shelf 0 = .ok (.aload_n 0, 1) := by decide +kernel
theorem dX4_shelf_1 : decode cX4_shelf 1 = .ok (.iconst 0, 1) := by decide +kernel
theorem dX4_shelf_2 : decode cX4_shelf 2 = .ok (.putfield 33, 3) := by decide +kernel
theorem dX4_shelf_5 : decode cX4_shelf 5 = .ok (.iload_n 1, 1) := by decide +kernel
theorem dX4_shelf_6 : decode cX4_shelf 6 = .ok (.ifCond .lt 11, 3) := by decide +kernel
theorem dX4_shelf_9 : decode cX4_shelf 9 = .ok (.iload_n 1, 1) := by decide +kernel
theorem dX4_shelf_10 : decode cX4_shelf 10 = .ok (.aload_n 0, 1) := by decide +kernel
theorem dX4_shelf_11 : decode cX4_shelf 11 = .ok (.getfield 118, 3) := by decide +kernel
theorem dX4_shelf_14 : decode cX4_shelf 14 = .ok (.if_icmp .lt 7, 3) := by decide +kernel
theorem dX4_shelf_17 : decode cX4_shelf 17 = .ok (.iconst (-1), 1) := by decide +kernel
theorem dX4_shelf_18 : decode cX4_shelf 18 = .ok (.goto 9, 3) := by decide +kernel
theorem dX4_shelf_21 : decode cX4_shelf 21 = .ok (.aload_n 0, 1) := by decide +kernel
theorem dX4_shelf_22 : decode cX4_shelf 22 = .ok (.getfield 23, 3) := by decide +kernel
theorem dX4_shelf_25 : decode cX4_shelf 25 = .ok (.iload_n 1, 1) := by decide +kernel
theorem dX4_shelf_26 : decode cX4_shelf 26 = .ok (.iaload, 1) := by decide +kernel
theorem dX4_shelf_27 : decode cX4_shelf 27 = .ok (.ireturn, 1) := by decide +kernel
theorem dX4_take_0 : decode cX4_take 0 = .ok (.aload_n 0, 1) := by decide +kernel
theorem dX4_take_1 : decode cX4_take 1 = .ok (.iconst 0, 1) := by decide +kernel
theorem dX4_take_2 : decode cX4_take 2 = .ok (.putfield 33, 3) := by decide +kernel
theorem dX4_take_5 : decode cX4_take 5 = .ok (.iload_n 1, 1) := by decide +kernel
theorem dX4_take_6 : decode cX4_take 6 = .ok (.ifCond .lt 11, 3) := by decide +kernel
theorem dX4_take_9 : decode cX4_take 9 = .ok (.iload_n 1, 1) := by decide +kernel
theorem dX4_take_10 : decode cX4_take 10 = .ok (.aload_n 0, 1) := by decide +kernel
theorem dX4_take_11 : decode cX4_take 11 = .ok (.getfield 118, 3) := by decide +kernel
theorem dX4_take_14 : decode cX4_take 14 = .ok (.if_icmp .lt 5, 3) := by decide +kernel
theorem dX4_take_17 : decode cX4_take 17 = .ok (.iconst (-1), 1) := by decide +kernel
theorem dX4_take_18 : decode cX4_take 18 = .ok (.ireturn, 1) := by decide +kernel
theorem dX4_take_19 : decode cX4_take 19 = .ok (.aload_n 0, 1) := by decide +kernel
theorem dX4_take_20 : decode cX4_take 20 = .ok (.getfield 23, 3) := by decide +kernel
theorem dX4_take_23 : decode cX4_take 23 = .ok (.iload_n 1, 1) := by decide +kernel
theorem dX4_take_24 : decode cX4_take 24 = .ok (.iaload, 1) := by decide +kernel
theorem dX4_take_25 : decode cX4_take 25 = .ok (.istore_n 2, 1) := by decide +kernel
theorem dX4_take_26 : decode cX4_take 26 = .ok (.aload_n 0, 1) := by decide +kernel
theorem dX4_take_27 : decode cX4_take 27 = .ok (.dup, 1) := by decide +kernel
theorem dX4_take_28 : decode cX4_take 28 = .ok (.getfield 118, 3) := by decide +kernel
theorem dX4_take_31 : decode cX4_take 31 = .ok (.iconst 1, 1) := by decide +kernel
theorem dX4_take_32 : decode cX4_take 32 = .ok (.isub, 1) := by decide +kernel
theorem dX4_take_33 : decode cX4_take 33 = .ok (.putfield 118, 3) := by decide +kernel
theorem dX4_take_36 : decode cX4_take 36 = .ok (.iload_n 1, 1) := by decide +kernel
theorem dX4_take_37 : decode cX4_take 37 = .ok (.istore_n 3, 1) := by decide +kernel
theorem dX4_take_38 : decode cX4_take 38 = .ok (.iload_n 3, 1) := by decide +kernel
theorem dX4_take_39 : decode cX4_take 39 = .ok (.aload_n 0, 1) := by decide +kernel
theorem dX4_take_40 : decode cX4_take 40 = .ok (.getfield 118, 3) := by decide +kernel
theorem dX4_take_43 : decode cX4_take 43 = .ok (.if_icmp .ge 66, 3) := by decide +kernel
theorem dX4_take_46 : decode cX4_take 46 = .ok (.iconst 0, 1) := by decide +kernel
theorem dX4_take_47 : decode cX4_take 47 = .ok (.istore 4, 2) := by decide +kernel
theorem dX4_take_49 : decode cX4_take 49 = .ok (.iload 4, 2) := by decide +kernel
theorem dX4_take_51 : decode cX4_take 51 = .ok (.bipush 40, 2) := by decide +kernel
theorem dX4_take_53 : decode cX4_take 53 = .ok (.if_icmp .ge 36, 3) := by decide +kernel
theorem dX4_take_56 : decode cX4_take 56 = .ok (.aload_n 0, 1) := by decide +kernel
theorem dX4_take_57 : decode cX4_take 57 = .ok (.getfield 20, 3) := by decide +kernel
theorem dX4_take_60 : decode cX4_take 60 = .ok (.bipush 40, 2) := by decide +kernel
theorem dX4_take_62 : decode cX4_take 62 = .ok (.iload_n 3, 1) := by decide +kernel
theorem dX4_take_63 : decode cX4_take 63 = .ok (.imul, 1) := by decide +kernel
theorem dX4_take_64 : decode cX4_take 64 = .ok (.iload 4, 2) := by decide +kernel
theorem dX4_take_66 : decode cX4_take 66 = .ok (.iadd, 1) := by decide +kernel
theorem dX4_take_67 : decode cX4_take 67 = .ok (.aload_n 0, 1) := by decide +kernel
theorem dX4_take_68 : decode cX4_take 68 = .ok (.getfield 20, 3) := by decide +kernel
theorem dX4_take_71 : decode cX4_take 71 = .ok (.bipush 40, 2) := by decide +kernel
theorem dX4_take_73 : decode cX4_take 73 = .ok (.iload_n 3, 1) := by decide +kernel
theorem dX4_take_74 : decode cX4_take 74 = .ok (.imul, 1) := by decide +kernel
theorem dX4_take_75 : decode cX4_take 75 = .ok (.bipush 40, 2) := by decide +kernel
theorem dX4_take_77 : decode cX4_take 77 = .ok (.iadd, 1) := by decide +kernel
theorem dX4_take_78 : decode cX4_take 78 = .ok (.iload 4, 2) := by decide +kernel
theorem dX4_take_80 : decode cX4_take 80 = .ok (.iadd, 1) := by decide +kernel
theorem dX4_take_81 : decode cX4_take 81 = .ok (.iaload, 1) := by decide +kernel
theorem dX4_take_82 : decode cX4_take 82 = .ok (.iastore, 1) := by decide +kernel
theorem dX4_take_83 : decode cX4_take 83 = .ok (.iinc 4 1, 3) := by decide +kernel
theorem dX4_take_86 : decode cX4_take 86 = .ok (.goto (-37), 3) := by decide +kernel
theorem dX4_take_89 : decode cX4_take 89 = .ok (.aload_n 0, 1) := by decide +kernel
theorem dX4_take_90 : decode cX4_take 90 = .ok (.getfield 23, 3) := by decide +kernel
theorem dX4_take_93 : decode cX4_take 93 = .ok (.iload_n 3, 1) := by decide +kernel
theorem dX4_take_94 : decode cX4_take 94 = .ok (.aload_n 0, 1) := by decide +kernel
theorem dX4_take_95 : decode cX4_take 95 = .ok (.getfield 23, 3) := by decide +kernel
theorem dX4_take_98 : decode cX4_take 98 = .ok (.iload_n 3, 1) := by decide +kernel
theorem dX4_take_99 : decode cX4_take 99 = .ok (.iconst 1, 1) := by decide +kernel
theorem dX4_take_100 : decode cX4_take 100 = .ok (.iadd, 1) := by decide +kernel
theorem dX4_take_101 : decode cX4_take 101 = .ok (.iaload, 1) := by decide +kernel
theorem dX4_take_102 : decode cX4_take 102 = .ok (.iastore, 1) := by decide +kernel
theorem dX4_take_103 : decode cX4_take 103 = .ok (.iinc 3 1, 3) := by decide +kernel
theorem dX4_take_106 : decode cX4_take 106 = .ok (.goto (-68), 3) := by decide +kernel
theorem dX4_take_109 : decode cX4_take 109 = .ok (.iload_n 2, 1) := by decide +kernel
theorem dX4_take_110 : decode cX4_take 110 = .ok (.ireturn, 1) := by decide +kernel
theorem dX4_compare_0 : decode cX4_compare 0 = .ok (.aload_n 0, 1) := by decide +kernel
theorem dX4_compare_1 : decode cX4_compare 1 = .ok (.iconst 0, 1) := by decide +kernel
theorem dX4_compare_2 : decode cX4_compare 2 = .ok (.putfield 33, 3) := by decide +kernel
theorem dX4_compare_5 : decode cX4_compare 5 = .ok (.iload_n 1, 1) := by decide +kernel
theorem dX4_compare_6 : decode cX4_compare 6 = .ok (.ifCond .lt 23, 3) := by decide +kernel
theorem dX4_compare_9 : decode cX4_compare 9 = .ok (.iload_n 2, 1) := by decide +kernel
theorem dX4_compare_10 : decode cX4_compare 10 = .ok (.ifCond .lt 19, 3) := by decide +kernel
theorem dX4_compare_13 : decode cX4_compare 13 = .ok (.iload_n 1, 1) := by decide +kernel
theorem dX4_compare_14 : decode cX4_compare 14 = .ok (.aload_n 0, 1) := by decide +kernel
theorem dX4_compare_15 : decode cX4_compare 15 = .ok (.getfield 118, 3) := by decide +kernel
theorem dX4_compare_18 : decode cX4_compare 18 = .ok (.if_icmp .ge 11, 3) := by decide +kernel
theorem dX4_compare_21 : decode cX4_compare 21 = .ok (.iload_n 2, 1) := by decide +kernel
theorem dX4_compare_22 : decode cX4_compare 22 = .ok (.aload_n 0, 1) := by decide +kernel
theorem dX4_compare_23 : decode cX4_compare 23 = .ok (.getfield 118, 3) := by decide +kernel
theorem dX4_compare_26 : decode cX4_compare 26 = .ok (.if_icmp .lt 6, 3) := by decide +kernel
theorem dX4_compare_29 : decode cX4_compare 29 = .ok (.bipush (-2), 2) := by decide +kernel
theorem dX4_compare_31 : decode cX4_compare 31 = .ok (.ireturn, 1) := by decide +kernel
theorem dX4_compare_32 : decode cX4_compare 32 = .ok (.iload_n 1, 1) := by decide +kernel
theorem dX4_compare_33 : decode cX4_compare 33 = .ok (.iload_n 2, 1) := by decide +kernel
theorem dX4_compare_34 : decode cX4_compare 34 = .ok (.if_icmp .ge 7, 3) := by decide +kernel
theorem dX4_compare_37 : decode cX4_compare 37 = .ok (.iconst (-1), 1) := by decide +kernel
theorem dX4_compare_38 : decode cX4_compare 38 = .ok (.goto 13, 3) := by decide +kernel
theorem dX4_compare_41 : decode cX4_compare 41 = .ok (.iload_n 1, 1) := by decide +kernel
theorem dX4_compare_42 : decode cX4_compare 42 = .ok (.iload_n 2, 1) := by decide +kernel
theorem dX4_compare_43 : decode cX4_compare 43 = .ok (.if_icmp .le 7, 3) := by decide +kernel
theorem dX4_compare_46 : decode cX4_compare 46 = .ok (.iconst 1, 1) := by decide +kernel
theorem dX4_compare_47 : decode cX4_compare 47 = .ok (.goto 4, 3) := by decide +kernel
theorem dX4_compare_50 : decode cX4_compare 50 = .ok (.iconst 0, 1) := by decide +kernel
theorem dX4_compare_51 : decode cX4_compare 51 = .ok (.ireturn, 1) := by decide +kernel
theorem dX4_before_0 : decode cX4_before 0 = .ok (.aload_n 0, 1) := by decide +kernel
theorem dX4_before_1 : decode cX4_before 1 = .ok (.iconst 0, 1) := by decide +kernel
theorem dX4_before_2 : decode cX4_before 2 = .ok (.putfield 33, 3) := by decide +kernel
theorem dX4_before_5 : decode cX4_before 5 = .ok (.aload_n 0, 1) := by decide +kernel
theorem dX4_before_6 : decode cX4_before 6 = .ok (.getfield 91, 3) := by decide +kernel
theorem dX4_before_9 : decode cX4_before 9 = .ok (.ifCond .eq 10, 3) := by decide +kernel
theorem dX4_before_12 : decode cX4_before 12 = .ok (.aload_n 0, 1) := by decide +kernel
theorem dX4_before_13 : decode cX4_before 13 = .ok (.invokevirtual 125, 3) := by decide +kernel
theorem dX4_before_16 : decode cX4_before 16 = .ok (.goto 4, 3) := by decide +kernel
theorem dX4_before_19 : decode cX4_before 19 = .ok (.iconst (-1), 1) := by decide +kernel
theorem dX4_before_20 : decode cX4_before 20 = .ok (.ireturn, 1) := by decide +kernel
theorem dX4_isTaken_0 : decode cX4_isTaken 0 = .ok (.iconst 0, 1) := by decide +kernel
theorem dX4_isTaken_1 : decode cX4_isTaken 1 = .ok (.istore_n 1, 1) := by decide +kernel
theorem dX4_isTaken_2 : decode cX4_isTaken 2 = .ok (.iload_n 1, 1) := by decide +kernel
theorem dX4_isTaken_3 : decode cX4_isTaken 3 = .ok (.aload_n 0, 1) := by decide +kernel
theorem dX4_isTaken_4 : decode cX4_isTaken 4 = .ok (.getfield 118, 3) := by decide +kernel
theorem dX4_isTaken_7 : decode cX4_isTaken 7 = .ok (.if_icmp .ge 80, 3) := by decide +kernel
theorem dX4_isTaken_10 : decode cX4_isTaken 10 = .ok (.iconst 1, 1) := by decide +kernel
theorem dX4_isTaken_11 : decode cX4_isTaken 11 = .ok (.istore_n 2, 1) := by decide +kernel
theorem dX4_isTaken_12 : decode cX4_isTaken 12 = .ok (.iconst 0, 1) := by decide +kernel
theorem dX4_isTaken_13 : decode cX4_isTaken 13 = .ok (.istore_n 3, 1) := by decide +kernel
theorem dX4_isTaken_14 : decode cX4_isTaken 14 = .ok (.iload_n 3, 1) := by decide +kernel
theorem dX4_isTaken_15 : decode cX4_isTaken 15 = .ok (.bipush 23, 2) := by decide +kernel
theorem dX4_isTaken_17 : decode cX4_isTaken 17 = .ok (.if_icmp .ge 58, 3) := by decide +kernel
theorem dX4_isTaken_20 : decode cX4_isTaken 20 = .ok (.iload_n 3, 1) := by decide +kernel
theorem dX4_isTaken_21 : decode cX4_isTaken 21 = .ok (.bipush 17, 2) := by decide +kernel
theorem dX4_isTaken_23 : decode cX4_isTaken 23 = .ok (.if_icmp .ge 12, 3) := by decide +kernel
theorem dX4_isTaken_26 : decode cX4_isTaken 26 = .ok (.aload_n 0, 1) := by decide +kernel
theorem dX4_isTaken_27 : decode cX4_isTaken 27 = .ok (.getfield 17, 3) := by decide +kernel
theorem dX4_isTaken_30 : decode cX4_isTaken 30 = .ok (.iload_n 3, 1) := by decide +kernel
theorem dX4_isTaken_31 : decode cX4_isTaken 31 = .ok (.iaload, 1) := by decide +kernel
theorem dX4_isTaken_32 : decode cX4_isTaken 32 = .ok (.goto 9, 3) := by decide +kernel
theorem dX4_isTaken_35 : decode cX4_isTaken 35 = .ok (.aload_n 0, 1) := by decide +kernel
theorem dX4_isTaken_36 : decode cX4_isTaken 36 = .ok (.getfield 13, 3) := by decide +kernel
theorem dX4_isTaken_39 : decode cX4_isTaken 39 = .ok (.iload_n 3, 1) := by decide +kernel
theorem dX4_isTaken_40 : decode cX4_isTaken 40 = .ok (.iaload, 1) := by decide +kernel
theorem dX4_isTaken_41 : decode cX4_isTaken 41 = .ok (.istore 4, 2) := by decide +kernel
theorem dX4_isTaken_43 : decode cX4_isTaken 43 = .ok (.iload_n 2, 1) := by decide +kernel
theorem dX4_isTaken_44 : decode cX4_isTaken 44 = .ok (.ifCond .eq 23, 3) := by decide +kernel
theorem dX4_isTaken_47 : decode cX4_isTaken 47 = .ok (.aload_n 0, 1) := by decide +kernel
theorem dX4_isTaken_48 : decode cX4_isTaken 48 = .ok (.getfield 20, 3) := by decide +kernel
theorem dX4_isTaken_51 : decode cX4_isTaken 51 = .ok (.bipush 40, 2) := by decide +kernel
theorem dX4_isTaken_53 : decode cX4_isTaken 53 = .ok (.iload_n 1, 1) := by decide +kernel
theorem dX4_isTaken_54 : decode cX4_isTaken 54 = .ok (.imul, 1) := by decide +kernel
theorem dX4_isTaken_55 : decode cX4_isTaken 55 = .ok (.iload_n 3, 1) := by decide +kernel
theorem dX4_isTaken_56 : decode cX4_isTaken 56 = .ok (.iadd, 1) := by decide +kernel
theorem dX4_isTaken_57 : decode cX4_isTaken 57 = .ok (.iaload, 1) := by decide +kernel
theorem dX4_isTaken_58 : decode cX4_isTaken 58 = .ok (.iload 4, 2) := by decide +kernel
theorem dX4_isTaken_60 : decode cX4_isTaken 60 = .ok (.if_icmp .ne 7, 3) := by decide +kernel
theorem dX4_isTaken_63 : decode cX4_isTaken 63 = .ok (.iconst 1, 1) := by decide +kernel
theorem dX4_isTaken_64 : decode cX4_isTaken 64 = .ok (.goto 4, 3) := by decide +kernel
theorem dX4_isTaken_67 : decode cX4_isTaken 67 = .ok (.iconst 0, 1) := by decide +kernel
theorem dX4_isTaken_68 : decode cX4_isTaken 68 = .ok (.istore_n 2, 1) := by decide +kernel
theorem dX4_isTaken_69 : decode cX4_isTaken 69 = .ok (.iinc 3 1, 3) := by decide +kernel
theorem dX4_isTaken_72 : decode cX4_isTaken 72 = .ok (.goto (-58), 3) := by decide +kernel
theorem dX4_isTaken_75 : decode cX4_isTaken 75 = .ok (.iload_n 2, 1) := by decide +kernel
theorem dX4_isTaken_76 : decode cX4_isTaken 76 = .ok (.ifCond .eq 5, 3) := by decide +kernel
theorem dX4_isTaken_79 : decode cX4_isTaken 79 = .ok (.iconst 1, 1) := by decide +kernel
theorem dX4_isTaken_80 : decode cX4_isTaken 80 = .ok (.ireturn, 1) := by decide +kernel
theorem dX4_isTaken_81 : decode cX4_isTaken 81 = .ok (.iinc 1 1, 3) := by decide +kernel
theorem dX4_isTaken_84 : decode cX4_isTaken 84 = .ok (.goto (-82), 3) := by decide +kernel
theorem dX4_isTaken_87 : decode cX4_isTaken 87 = .ok (.iconst 0, 1) := by decide +kernel
theorem dX4_isTaken_88 : decode cX4_isTaken 88 = .ok (.ireturn, 1) := by decide +kernel
theorem dX4_free_0 : decode cX4_free 0 = .ok (.aload_n 0, 1) := by decide +kernel
theorem dX4_free_1 : decode cX4_free 1 = .ok (.iconst 0, 1) := by decide +kernel
theorem dX4_free_2 : decode cX4_free 2 = .ok (.putfield 33, 3) := by decide +kernel
theorem dX4_free_5 : decode cX4_free 5 = .ok (.aload_n 0, 1) := by decide +kernel
theorem dX4_free_6 : decode cX4_free 6 = .ok (.getfield 91, 3) := by decide +kernel
theorem dX4_free_9 : decode cX4_free 9 = .ok (.ifCond .ne 5, 3) := by decide +kernel
theorem dX4_free_12 : decode cX4_free 12 = .ok (.iconst 0, 1) := by decide +kernel
theorem dX4_free_13 : decode cX4_free 13 = .ok (.ireturn, 1) := by decide +kernel
theorem dX4_free_14 : decode cX4_free 14 = .ok (.aload_n 0, 1) := by decide +kernel
theorem dX4_free_15 : decode cX4_free 15 = .ok (.invokevirtual 111, 3) := by decide +kernel
theorem dX4_free_18 : decode cX4_free 18 = .ok (.istore_n 1, 1) := by decide +kernel
theorem dX4_free_19 : decode cX4_free 19 = .ok (.iconst 1, 1) := by decide +kernel
theorem dX4_free_20 : decode cX4_free 20 = .ok (.istore_n 2, 1) := by decide +kernel
theorem dX4_free_21 : decode cX4_free 21 = .ok (.iconst 0, 1) := by decide +kernel
theorem dX4_free_22 : decode cX4_free 22 = .ok (.istore_n 3, 1) := by decide +kernel
theorem dX4_free_23 : decode cX4_free 23 = .ok (.iload_n 1, 1) := by decide +kernel
theorem dX4_free_24 : decode cX4_free 24 = .ok (.iload_n 3, 1) := by decide +kernel
theorem dX4_free_25 : decode cX4_free 25 = .ok (.iadd, 1) := by decide +kernel
theorem dX4_free_26 : decode cX4_free 26 = .ok (.bipush 6, 2) := by decide +kernel
theorem dX4_free_28 : decode cX4_free 28 = .ok (.if_icmp .gt 180, 3) := by decide +kernel
theorem dX4_free_31 : decode cX4_free 31 = .ok (.iconst 0, 1) := by decide +kernel
theorem dX4_free_32 : decode cX4_free 32 = .ok (.istore 4, 2) := by decide +kernel
theorem dX4_free_34 : decode cX4_free 34 = .ok (.iload 4, 2) := by decide +kernel
theorem dX4_free_36 : decode cX4_free 36 = .ok (.iload_n 2, 1) := by decide +kernel
theorem dX4_free_37 : decode cX4_free 37 = .ok (.if_icmp .ge 160, 3) := by decide +kernel
theorem dX4_free_40 : decode cX4_free 40 = .ok (.iload 4, 2) := by decide +kernel
theorem dX4_free_42 : decode cX4_free 42 = .ok (.istore 5, 2) := by decide +kernel
theorem dX4_free_44 : decode cX4_free 44 = .ok (.iconst 5, 1) := by decide +kernel
theorem dX4_free_45 : decode cX4_free 45 = .ok (.istore 6, 2) := by decide +kernel
theorem dX4_free_47 : decode cX4_free 47 = .ok (.iload 6, 2) := by decide +kernel
theorem dX4_free_49 : decode cX4_free 49 = .ok (.ifCond .lt 92, 3) := by decide +kernel
theorem dX4_free_52 : decode cX4_free 52 = .ok (.iload 6, 2) := by decide +kernel
theorem dX4_free_54 : decode cX4_free 54 = .ok (.iload_n 1, 1) := by decide +kernel
theorem dX4_free_55 : decode cX4_free 55 = .ok (.if_icmp .lt 15, 3) := by decide +kernel
theorem dX4_free_58 : decode cX4_free 58 = .ok (.iload 6, 2) := by decide +kernel
theorem dX4_free_60 : decode cX4_free 60 = .ok (.iload_n 1, 1) := by decide +kernel
theorem dX4_free_61 : decode cX4_free 61 = .ok (.iload_n 3, 1) := by decide +kernel
theorem dX4_free_62 : decode cX4_free 62 = .ok (.iadd, 1) := by decide +kernel
theorem dX4_free_63 : decode cX4_free 63 = .ok (.if_icmp .ge 7, 3) := by decide +kernel
theorem dX4_free_66 : decode cX4_free 66 = .ok (.iconst 1, 1) := by decide +kernel
theorem dX4_free_67 : decode cX4_free 67 = .ok (.goto 4, 3) := by decide +kernel
theorem dX4_free_70 : decode cX4_free 70 = .ok (.iconst 0, 1) := by decide +kernel
theorem dX4_free_71 : decode cX4_free 71 = .ok (.istore 7, 2) := by decide +kernel
theorem dX4_free_73 : decode cX4_free 73 = .ok (.aload_n 0, 1) := by decide +kernel
theorem dX4_free_74 : decode cX4_free 74 = .ok (.getfield 13, 3) := by decide +kernel
theorem dX4_free_77 : decode cX4_free 77 = .ok (.bipush 17, 2) := by decide +kernel
theorem dX4_free_79 : decode cX4_free 79 = .ok (.iload 6, 2) := by decide +kernel
theorem dX4_free_81 : decode cX4_free 81 = .ok (.iadd, 1) := by decide +kernel
theorem dX4_free_82 : decode cX4_free 82 = .ok (.iload 6, 2) := by decide +kernel
theorem dX4_free_84 : decode cX4_free 84 = .ok (.iload_n 1, 1) := by decide +kernel
theorem dX4_free_85 : decode cX4_free 85 = .ok (.if_icmp .ge 16, 3) := by decide +kernel
theorem dX4_free_88 : decode cX4_free 88 = .ok (.aload_n 0, 1) := by decide +kernel
theorem dX4_free_89 : decode cX4_free 89 = .ok (.getfield 17, 3) := by decide +kernel
theorem dX4_free_92 : decode cX4_free 92 = .ok (.bipush 17, 2) := by decide +kernel
theorem dX4_free_94 : decode cX4_free 94 = .ok (.iload 6, 2) := by decide +kernel
theorem dX4_free_96 : decode cX4_free 96 = .ok (.iadd, 1) := by decide +kernel
theorem dX4_free_97 : decode cX4_free 97 = .ok (.iaload, 1) := by decide +kernel
theorem dX4_free_98 : decode cX4_free 98 = .ok (.goto 19, 3) := by decide +kernel
theorem dX4_free_101 : decode cX4_free 101 = .ok (.iload 7, 2) := by decide +kernel
theorem dX4_free_103 : decode cX4_free 103 = .ok (.ifCond .eq 13, 3) := by decide +kernel
theorem dX4_free_106 : decode cX4_free 106 = .ok (.iload 5, 2) := by decide +kernel
theorem dX4_free_108 : decode cX4_free 108 = .ok (.bipush 9, 2) := by decide +kernel
theorem dX4_free_110 : decode cX4_free 110 = .ok (.irem, 1) := by decide +kernel
theorem dX4_free_111 : decode cX4_free 111 = .ok (.iconst 2, 1) := by decide +kernel
theorem dX4_free_112 : decode cX4_free 112 = .ok (.iadd, 1) := by decide +kernel
theorem dX4_free_113 : decode cX4_free 113 = .ok (.goto 4, 3) := by decide +kernel
theorem dX4_free_116 : decode cX4_free 116 = .ok (.iconst 0, 1) := by decide +kernel
theorem dX4_free_117 : decode cX4_free 117 = .ok (.iastore, 1) := by decide +kernel
theorem dX4_free_118 : decode cX4_free 118 = .ok (.iload 7, 2) := by decide +kernel
theorem dX4_free_120 : decode cX4_free 120 = .ok (.ifCond .eq 11, 3) := by decide +kernel
theorem dX4_free_123 : decode cX4_free 123 = .ok (.iload 5, 2) := by decide +kernel
theorem dX4_free_125 : decode cX4_free 125 = .ok (.bipush 9, 2) := by decide +kernel
theorem dX4_free_127 : decode cX4_free 127 = .ok (.idiv, 1) := by decide +kernel
theorem dX4_free_128 : decode cX4_free 128 = .ok (.goto 5, 3) := by decide +kernel
theorem dX4_free_131 : decode cX4_free 131 = .ok (.iload 5, 2) := by decide +kernel
theorem dX4_free_133 : decode cX4_free 133 = .ok (.istore 5, 2) := by decide +kernel
theorem dX4_free_135 : decode cX4_free 135 = .ok (.iinc 6 (-1), 3) := by decide +kernel
theorem dX4_free_138 : decode cX4_free 138 = .ok (.goto (-91), 3) := by decide +kernel
theorem dX4_free_141 : decode cX4_free 141 = .ok (.aload_n 0, 1) := by decide +kernel
theorem dX4_free_142 : decode cX4_free 142 = .ok (.invokevirtual 128, 3) := by decide +kernel
theorem dX4_free_145 : decode cX4_free 145 = .ok (.ifCond .ne 46, 3) := by decide +kernel
theorem dX4_free_148 : decode cX4_free 148 = .ok (.iconst 0, 1) := by decide +kernel
theorem dX4_free_149 : decode cX4_free 149 = .ok (.istore 6, 2) := by decide +kernel
theorem dX4_free_151 : decode cX4_free 151 = .ok (.iconst 0, 1) := by decide +kernel
theorem dX4_free_152 : decode cX4_free 152 = .ok (.istore 7, 2) := by decide +kernel
theorem dX4_free_154 : decode cX4_free 154 = .ok (.iload 7, 2) := by decide +kernel
theorem dX4_free_156 : decode cX4_free 156 = .ok (.iload_n 1, 1) := by decide +kernel
theorem dX4_free_157 : decode cX4_free 157 = .ok (.iload_n 3, 1) := by decide +kernel
theorem dX4_free_158 : decode cX4_free 158 = .ok (.iadd, 1) := by decide +kernel
theorem dX4_free_159 : decode cX4_free 159 = .ok (.if_icmp .ge 29, 3) := by decide +kernel
theorem dX4_free_162 : decode cX4_free 162 = .ok (.bipush 10, 2) := by decide +kernel
theorem dX4_free_164 : decode cX4_free 164 = .ok (.iload 6, 2) := by decide +kernel
theorem dX4_free_166 : decode cX4_free 166 = .ok (.imul, 1) := by decide +kernel
theorem dX4_free_167 : decode cX4_free 167 = .ok (.aload_n 0, 1) := by decide +kernel
theorem dX4_free_168 : decode cX4_free 168 = .ok (.getfield 13, 3) := by decide +kernel
theorem dX4_free_171 : decode cX4_free 171 = .ok (.bipush 17, 2) := by decide +kernel
theorem dX4_free_173 : decode cX4_free 173 = .ok (.iload 7, 2) := by decide +kernel
theorem dX4_free_175 : decode cX4_free 175 = .ok (.iadd, 1) := by decide +kernel
theorem dX4_free_176 : decode cX4_free 176 = .ok (.iaload, 1) := by decide +kernel
theorem dX4_free_177 : decode cX4_free 177 = .ok (.iadd, 1) := by decide +kernel
theorem dX4_free_178 : decode cX4_free 178 = .ok (.iconst 1, 1) := by decide +kernel
theorem dX4_free_179 : decode cX4_free 179 = .ok (.isub, 1) := by decide +kernel
theorem dX4_free_180 : decode cX4_free 180 = .ok (.istore 6, 2) := by decide +kernel
theorem dX4_free_182 : decode cX4_free 182 = .ok (.iinc 7 1, 3) := by decide +kernel
theorem dX4_free_185 : decode cX4_free 185 = .ok (.goto (-31), 3) := by decide +kernel
theorem dX4_free_188 : decode cX4_free 188 = .ok (.iload 6, 2) := by decide +kernel
theorem dX4_free_190 : decode cX4_free 190 = .ok (.ireturn, 1) := by decide +kernel
theorem dX4_free_191 : decode cX4_free 191 = .ok (.iinc 4 1, 3) := by decide +kernel
theorem dX4_free_194 : decode cX4_free 194 = .ok (.goto (-160), 3) := by decide +kernel
theorem dX4_free_197 : decode cX4_free 197 = .ok (.bipush 9, 2) := by decide +kernel
theorem dX4_free_199 : decode cX4_free 199 = .ok (.iload_n 2, 1) := by decide +kernel
theorem dX4_free_200 : decode cX4_free 200 = .ok (.imul, 1) := by decide +kernel
theorem dX4_free_201 : decode cX4_free 201 = .ok (.istore_n 2, 1) := by decide +kernel
theorem dX4_free_202 : decode cX4_free 202 = .ok (.iinc 3 1, 3) := by decide +kernel
theorem dX4_free_205 : decode cX4_free 205 = .ok (.goto (-182), 3) := by decide +kernel
theorem dX4_free_208 : decode cX4_free 208 = .ok (.iconst 0, 1) := by decide +kernel
theorem dX4_free_209 : decode cX4_free 209 = .ok (.ireturn, 1) := by decide +kernel
theorem dX4_pass_0 : decode cX4_pass 0 = .ok (.aload_n 0, 1) := by decide +kernel
theorem dX4_pass_1 : decode cX4_pass 1 = .ok (.iconst 0, 1) := by decide +kernel
theorem dX4_pass_2 : decode cX4_pass 2 = .ok (.putfield 33, 3) := by decide +kernel
theorem dX4_pass_5 : decode cX4_pass 5 = .ok (.iconst 0, 1) := by decide +kernel
theorem dX4_pass_6 : decode cX4_pass 6 = .ok (.istore_n 2, 1) := by decide +kernel
theorem dX4_pass_7 : decode cX4_pass 7 = .ok (.iload_n 2, 1) := by decide +kernel
theorem dX4_pass_8 : decode cX4_pass 8 = .ok (.aload_n 0, 1) := by decide +kernel
theorem dX4_pass_9 : decode cX4_pass 9 = .ok (.getfield 118, 3) := by decide +kernel
theorem dX4_pass_12 : decode cX4_pass 12 = .ok (.if_icmp .ge 140, 3) := by decide +kernel
theorem dX4_pass_15 : decode cX4_pass 15 = .ok (.aload_n 0, 1) := by decide +kernel
theorem dX4_pass_16 : decode cX4_pass 16 = .ok (.getfield 23, 3) := by decide +kernel
theorem dX4_pass_19 : decode cX4_pass 19 = .ok (.iload_n 2, 1) := by decide +kernel
theorem dX4_pass_20 : decode cX4_pass 20 = .ok (.iaload, 1) := by decide +kernel
theorem dX4_pass_21 : decode cX4_pass 21 = .ok (.iload_n 1, 1) := by decide +kernel
theorem dX4_pass_22 : decode cX4_pass 22 = .ok (.if_icmp .ne 124, 3) := by decide +kernel
theorem dX4_pass_25 : decode cX4_pass 25 = .ok (.iconst 1, 1) := by decide +kernel
theorem dX4_pass_26 : decode cX4_pass 26 = .ok (.istore_n 3, 1) := by decide +kernel
theorem dX4_pass_27 : decode cX4_pass 27 = .ok (.iconst 0, 1) := by decide +kernel
theorem dX4_pass_28 : decode cX4_pass 28 = .ok (.istore 4, 2) := by decide +kernel
theorem dX4_pass_30 : decode cX4_pass 30 = .ok (.iload 4, 2) := by decide +kernel
theorem dX4_pass_32 : decode cX4_pass 32 = .ok (.bipush 34, 2) := by decide +kernel
theorem dX4_pass_34 : decode cX4_pass 34 = .ok (.if_icmp .ge 70, 3) := by decide +kernel
theorem dX4_pass_37 : decode cX4_pass 37 = .ok (.aload_n 0, 1) := by decide +kernel
theorem dX4_pass_38 : decode cX4_pass 38 = .ok (.getfield 131, 3) := by decide +kernel
theorem dX4_pass_41 : decode cX4_pass 41 = .ok (.ifCond .eq 63, 3) := by decide +kernel
theorem dX4_pass_44 : decode cX4_pass 44 = .ok (.aload_n 0, 1) := by decide +kernel
theorem dX4_pass_45 : decode cX4_pass 45 = .ok (.getfield 20, 3) := by decide +kernel
theorem dX4_pass_48 : decode cX4_pass 48 = .ok (.bipush 40, 2) := by decide +kernel
theorem dX4_pass_50 : decode cX4_pass 50 = .ok (.iload_n 2, 1) := by decide +kernel
theorem dX4_pass_51 : decode cX4_pass 51 = .ok (.imul, 1) := by decide +kernel
theorem dX4_pass_52 : decode cX4_pass 52 = .ok (.iload 4, 2) := by decide +kernel
theorem dX4_pass_54 : decode cX4_pass 54 = .ok (.iadd, 1) := by decide +kernel
theorem dX4_pass_55 : decode cX4_pass 55 = .ok (.iaload, 1) := by decide +kernel
theorem dX4_pass_56 : decode cX4_pass 56 = .ok (.aload_n 0, 1) := by decide +kernel
theorem dX4_pass_57 : decode cX4_pass 57 = .ok (.getfield 26, 3) := by decide +kernel
theorem dX4_pass_60 : decode cX4_pass 60 = .ok (.iload 4, 2) := by decide +kernel
theorem dX4_pass_62 : decode cX4_pass 62 = .ok (.iaload, 1) := by decide +kernel
theorem dX4_pass_63 : decode cX4_pass 63 = .ok (.if_icmp .eq 35, 3) := by decide +kernel
theorem dX4_pass_66 : decode cX4_pass 66 = .ok (.aload_n 0, 1) := by decide +kernel
theorem dX4_pass_67 : decode cX4_pass 67 = .ok (.getfield 20, 3) := by decide +kernel
theorem dX4_pass_70 : decode cX4_pass 70 = .ok (.bipush 40, 2) := by decide +kernel
theorem dX4_pass_72 : decode cX4_pass 72 = .ok (.iload_n 2, 1) := by decide +kernel
theorem dX4_pass_73 : decode cX4_pass 73 = .ok (.imul, 1) := by decide +kernel
theorem dX4_pass_74 : decode cX4_pass 74 = .ok (.iload 4, 2) := by decide +kernel
theorem dX4_pass_76 : decode cX4_pass 76 = .ok (.iadd, 1) := by decide +kernel
theorem dX4_pass_77 : decode cX4_pass 77 = .ok (.iaload, 1) := by decide +kernel
theorem dX4_pass_78 : decode cX4_pass 78 = .ok (.aload_n 0, 1) := by decide +kernel
theorem dX4_pass_79 : decode cX4_pass 79 = .ok (.getfield 26, 3) := by decide +kernel
theorem dX4_pass_82 : decode cX4_pass 82 = .ok (.iload 4, 2) := by decide +kernel
theorem dX4_pass_84 : decode cX4_pass 84 = .ok (.iaload, 1) := by decide +kernel
theorem dX4_pass_85 : decode cX4_pass 85 = .ok (.if_icmp .le 7, 3) := by decide +kernel
theorem dX4_pass_88 : decode cX4_pass 88 = .ok (.iconst 1, 1) := by decide +kernel
theorem dX4_pass_89 : decode cX4_pass 89 = .ok (.goto 4, 3) := by decide +kernel
theorem dX4_pass_92 : decode cX4_pass 92 = .ok (.iconst 0, 1) := by decide +kernel
theorem dX4_pass_93 : decode cX4_pass 93 = .ok (.istore_n 3, 1) := by decide +kernel
theorem dX4_pass_94 : decode cX4_pass 94 = .ok (.bipush 34, 2) := by decide +kernel
theorem dX4_pass_96 : decode cX4_pass 96 = .ok (.istore 4, 2) := by decide +kernel
theorem dX4_pass_98 : decode cX4_pass 98 = .ok (.iinc 4 1, 3) := by decide +kernel
theorem dX4_pass_101 : decode cX4_pass 101 = .ok (.goto (-71), 3) := by decide +kernel
theorem dX4_pass_104 : decode cX4_pass 104 = .ok (.iconst 0, 1) := by decide +kernel
theorem dX4_pass_105 : decode cX4_pass 105 = .ok (.istore 4, 2) := by decide +kernel
theorem dX4_pass_107 : decode cX4_pass 107 = .ok (.iload 4, 2) := by decide +kernel
theorem dX4_pass_109 : decode cX4_pass 109 = .ok (.bipush 40, 2) := by decide +kernel
theorem dX4_pass_111 : decode cX4_pass 111 = .ok (.if_icmp .ge 28, 3) := by decide +kernel
theorem dX4_pass_114 : decode cX4_pass 114 = .ok (.aload_n 0, 1) := by decide +kernel
theorem dX4_pass_115 : decode cX4_pass 115 = .ok (.getfield 26, 3) := by decide +kernel
theorem dX4_pass_118 : decode cX4_pass 118 = .ok (.iload 4, 2) := by decide +kernel
theorem dX4_pass_120 : decode cX4_pass 120 = .ok (.aload_n 0, 1) := by decide +kernel
theorem dX4_pass_121 : decode cX4_pass 121 = .ok (.getfield 20, 3) := by decide +kernel
theorem dX4_pass_124 : decode cX4_pass 124 = .ok (.bipush 40, 2) := by decide +kernel
theorem dX4_pass_126 : decode cX4_pass 126 = .ok (.iload_n 2, 1) := by decide +kernel
theorem dX4_pass_127 : decode cX4_pass 127 = .ok (.imul, 1) := by decide +kernel
theorem dX4_pass_128 : decode cX4_pass 128 = .ok (.iload 4, 2) := by decide +kernel
theorem dX4_pass_130 : decode cX4_pass 130 = .ok (.iadd, 1) := by decide +kernel
theorem dX4_pass_131 : decode cX4_pass 131 = .ok (.iaload, 1) := by decide +kernel
theorem dX4_pass_132 : decode cX4_pass 132 = .ok (.iastore, 1) := by decide +kernel
theorem dX4_pass_133 : decode cX4_pass 133 = .ok (.iinc 4 1, 3) := by decide +kernel
theorem dX4_pass_136 : decode cX4_pass 136 = .ok (.goto (-29), 3) := by decide +kernel
theorem dX4_pass_139 : decode cX4_pass 139 = .ok (.aload_n 0, 1) := by decide +kernel
theorem dX4_pass_140 : decode cX4_pass 140 = .ok (.iconst 1, 1) := by decide +kernel
theorem dX4_pass_141 : decode cX4_pass 141 = .ok (.putfield 131, 3) := by decide +kernel
theorem dX4_pass_144 : decode cX4_pass 144 = .ok (.iload_n 3, 1) := by decide +kernel
theorem dX4_pass_145 : decode cX4_pass 145 = .ok (.ireturn, 1) := by decide +kernel
theorem dX4_pass_146 : decode cX4_pass 146 = .ok (.iinc 2 1, 3) := by decide +kernel
theorem dX4_pass_149 : decode cX4_pass 149 = .ok (.goto (-142), 3) := by decide +kernel
theorem dX4_pass_152 : decode cX4_pass 152 = .ok (.iconst (-1), 1) := by decide +kernel
theorem dX4_pass_153 : decode cX4_pass 153 = .ok (.ireturn, 1) := by decide +kernel
end
section
abbrev qE : Type := (Nat × vp_A) ⊕ (Nat × List Value)
abbrev qH : Type := Nat → Option qE
abbrev qG : Type := Launch × Nat × va_G × (Nat → ClassId)
abbrev qM : Type := MethodName × ByteArray × Nat × Option FieldType × Room
abbrev qM.y (M : qM) : MethodName := M.1
abbrev qM.code (M : qM) : ByteArray := M.2.1
abbrev qM.maxL (M : qM) : Nat := M.2.2.1
abbrev qM.ret (M : qM) : Option FieldType := M.2.2.2.1
abbrev qM.room (M : qM) : Room := M.2.2.2.2
/-- kinds of arrays: ints, bytes, longs, call numbers -/
def qty (t : Nat) : FieldType := match t with
  | 0 => .int
  | 1 => .byte
  | 2 => .long
  | _ => .object RX0
def qcell (G : qG) (e : qE) : va_E := match e with
  | .inl x => .inl (G.2.2.2 x.1, x.2)
  | .inr o => .inr o
/-- the heap holds the known cells -/
def qRep (G : qG) (h : qH) (H : Heap) : Prop := ∀ (a : Nat) (e : qE), h a = some e → va_at G.2.2.1 vwCl (a, qcell G e) H
def qNestQ : Cond → Bool
  | .fieldLinkNest _ _ _ _ _ _ => true
  | .methodLinkNest _ _ _ _ => true
  | .arrayOver (.object _) => true
  | _ => false
/-- the tables' words that every method carries; those of nest mates -/
def qT : List Cond := lw_tbl.filter goodWord
def qN : List Cond := lw_tbl.filter qNestQ
theorem qT_in {w : Cond} (h : w ∈ lw_tbl) (hg : goodWord w = true) : w ∈ qT := List.mem_filter.mpr ⟨h, hg⟩
theorem qN_in {w : Cond} (h : w ∈ lw_tbl) (hg : qNestQ w = true) : w ∈ qN := List.mem_filter.mpr ⟨h, hg⟩
theorem qT_good {w : Cond} (h : w ∈ qT) : (w.onTables && w.keeps) = true ∨ ∃ ty, w = .arrayClass ty := good_of_word (List.mem_filter.mp h).2
def qK (G : qG) (U : State) : Prop := va_K G.2.2.1 vwCl [] U ∧ (∀ t : Nat, ArrOfT U (G.2.2.2 t) (qty t) ∧ va_RA U (G.2.2.2 t) (qty t)) ∧ ∀ w ∈ qN, va_Nw w U
theorem qK.warm {G : qG} {s U : State} (hW : s.WarmedH U.vm) (h : qK G s) : qK G U := by
  obtain ⟨h1, h2, h3⟩ := h
  refine ⟨va_K.moved hW.alike h1, fun t => ⟨arrOfT_moved hW.alike (h2 t).1, (h2 t).2.moved hW.alike⟩, fun w hw => ?_⟩
  have hz := h3 w hw
  have hq := (List.mem_filter.mp hw).2
  cases w with
  | arrayOver ty => cases ty <;> first | exact va_AO.moved hW.alike hz | exact absurd hq (by simp [qNestQ])
  | _ => first | exact va_Nw.warmF hW hz | exact va_Nw.warmM hW hz | exact absurd hq (by simp [qNestQ])
theorem qK.call {G : qG} {U : State} (g : JFrame) (mk : MethodId) (a : Array Value) (h : qK G U) : qK G (U.calling g mk a) := by
  obtain ⟨h1, h2, h3⟩ := h
  refine ⟨va_K.moved (u := U) (U := U.calling g mk a) (Vm.Alike.refl U.vm) h1, fun t => ⟨arrOfT_moved (u := U) (E := U.calling g mk a) (Vm.Alike.refl U.vm) (h2 t).1, (h2 t).2.moved (U := U.calling g mk a) (Vm.Alike.refl U.vm)⟩, fun w hw => ?_⟩
  have hz := h3 w hw
  have hq := (List.mem_filter.mp hw).2
  cases w with
  | arrayOver ty => cases ty <;> first | exact va_AO.moved (u := U) (U := U.calling g mk a) (Vm.Alike.refl U.vm) hz | exact absurd hq (by simp [qNestQ])
  | _ => first | exact va_Nw.same (u := U) (U := U.calling g mk a) rfl rfl hz | exact absurd hq (by simp [qNestQ])
def qPc (G : qG) (av : List Value) (h : qH) : Array Value → State → Prop := fun v U => v = av.toArray ∧ qRep G h U.heap ∧ qK G U ∧ G.2.1 ≤ U.heap.size
def qQc (G : qG) (Q : Option Value → qH → Prop) : Array Value → State → Outcome → State → Prop := fun _ st o t =>
  ∃ (r : Option Value) (h' : qH), o = .returned r ∧ Q r h' ∧ qRep G h' t.heap ∧ st.heap.size ≤ t.heap.size ∧ ∀ q : Nat, q < G.2.1 → t.heap[q]? = st.heap[q]?
def qWs (M : qM) : List Cond := Cond.code M.1 M.2.1 M.2.2.1 M.2.2.2.1 :: qT
/-- a method's contract: from the arguments av and the known cells h it returns, with Q of the answer and the known cells then -/
def qMet (G : qG) (M : qM) (av : List Value) (h : qH) (Q : Option Value → qH → Prop) : Prop :=
  Met G.1 M.1 (qWs M) M.2.2.2.2 (qPc G av h) (qQc G Q) M.2.2.2.2.cells M.2.2.2.2.slots (fun q => G.2.1 ≤ q)
theorem qPc.blind {G : qG} {av : List Value} {h : qH} : FrameBlind (qPc G av h) := fun a U g mk q => ⟨q.1, q.2.1, q.2.2.1.call g mk a, q.2.2.2⟩
-- locals
def qL (ls : Array Slot) (n : Nat) (L : List (Option Value)) : Prop := ls.size = n ∧ lv_wf ls ∧ ∀ (i : Nat) (v : Value), L[i]? = some (some v) → ls[i]? = some (.val v)
def qPs : Nat → List (Option Value) → List (Nat × Value)
  | _, [] => []
  | k, none :: t => qPs (k + 1) t
  | k, some v :: t => (k, v) :: qPs (k + 1) t
theorem qPs_mem : ∀ (L : List (Option Value)) (k i : Nat) (v : Value), (i, v) ∈ qPs k L ↔ k ≤ i ∧ L[i - k]? = some (some v)
  | [], k, i, v => by simp [qPs]
  | none :: t, k, i, v => by
    rw [qPs, qPs_mem t (k + 1) i v]
    constructor
    · rintro ⟨h1, h2⟩
      refine ⟨by omega, ?_⟩
      rw [show i - k = (i - (k + 1)) + 1 by omega, List.getElem?_cons_succ]
      exact h2
    · rintro ⟨h1, h2⟩
      by_cases hk : i = k
      · subst hk; simp at h2
      · refine ⟨by omega, ?_⟩
        rw [show i - k = (i - (k + 1)) + 1 by omega, List.getElem?_cons_succ] at h2
        exact h2
  | some w :: t, k, i, v => by
    rw [qPs, List.mem_cons, qPs_mem t (k + 1) i v]
    constructor
    · rintro (h | ⟨h1, h2⟩)
      · cases h; simp
      · refine ⟨by omega, ?_⟩
        rw [show i - k = (i - (k + 1)) + 1 by omega, List.getElem?_cons_succ]
        exact h2
    · rintro ⟨h1, h2⟩
      by_cases hk : i = k
      · subst hk; simp at h2; subst h2; exact Or.inl rfl
      · refine Or.inr ⟨by omega, ?_⟩
        rw [show i - k = (i - (k + 1)) + 1 by omega, List.getElem?_cons_succ] at h2
        exact h2
theorem qL.has {ls : Array Slot} {n : Nat} {L : List (Option Value)} (h : qL ls n L) : lv_has ls n (qPs 0 L) := ⟨h.1, h.2.1, fun q hq => by
  obtain ⟨i, v⟩ := q
  exact h.2.2 i v (by simpa using ((qPs_mem L 0 i v).mp hq).2)⟩
def qClr (L : List (Option Value)) (i : Nat) : List (Option Value) := match i with
  | 0 => L
  | k + 1 => match L[k]? with
    | some (some (.long _)) => L.set k none
    | some (some (.double _)) => L.set k none
    | _ => L
def qS1 (L : List (Option Value)) (i : Nat) (v : Value) : List (Option Value) := (qClr L i).set i (some v)
def qS2 (L : List (Option Value)) (i : Nat) (v : Value) : List (Option Value) := ((qClr L i).set i (some v)).set (i + 1) none
theorem qClr_at {L : List (Option Value)} {i j : Nat} {w : Value} (h : (qClr L i)[j]? = some (some w)) : L[j]? = some (some w) ∧ ¬ (j + 1 = i ∧ w.category = 2) := by
  cases i with
  | zero => exact ⟨h, fun q => absurd q.1 (by omega)⟩
  | succ k =>
    have keep : ∀ L' : List (Option Value), L' = L.set k none → L'[j]? = some (some w) → L[j]? = some (some w) ∧ ¬ (j + 1 = k + 1 ∧ w.category = 2) := by
      intro L' e hj
      subst e
      by_cases hjk : j = k
      · subst hjk
        have hl : j < L.length := by
          have := (List.getElem?_eq_some_iff.mp hj).1
          simpa using this
        rw [List.getElem?_set_self hl] at hj
        cases hj
      · rw [List.getElem?_set_ne (Ne.symm hjk)] at hj
        exact ⟨hj, fun q => hjk (by omega)⟩
    have same : (∀ x, L[k]? ≠ some (some (.long x))) → (∀ x, L[k]? ≠ some (some (.double x))) → L[j]? = some (some w) → L[j]? = some (some w) ∧ ¬ (j + 1 = k + 1 ∧ w.category = 2) := by
      intro n1 n2 hj
      refine ⟨hj, fun q => ?_⟩
      have hjk : j = k := by omega
      subst hjk
      cases w with
      | long x => exact n1 x hj
      | double x => exact n2 x hj
      | _ => simp [Value.category] at q
    unfold qClr at h
    dsimp only at h
    split at h
    · exact keep _ rfl h
    · exact keep _ rfl h
    · next n1 n2 => exact same (fun x q => n1 x q) (fun x q => n2 x q) h
theorem qS1_of {ls' : Array Slot} {n i : Nat} {L : List (Option Value)} {v : Value} (h : lv_has ls' n ((i, v) :: (qPs 0 L).filter (fun q => !(q.1 == i) && !(q.1 + 1 == i && q.2.category == 2)))) : qL ls' n (qS1 L i v) := by
  refine ⟨h.1, h.2.1, fun j w hj => ?_⟩
  unfold qS1 at hj
  by_cases hji : j = i
  · subst hji
    have hl : j < (qClr L j).length := by
      have := (List.getElem?_eq_some_iff.mp hj).1
      simpa using this
    rw [List.getElem?_set_self hl] at hj
    cases hj
    exact h.2.2 (j, v) List.mem_cons_self
  · rw [List.getElem?_set_ne (Ne.symm hji)] at hj
    obtain ⟨h1, h2⟩ := qClr_at hj
    refine h.2.2 (j, w) (List.mem_cons_of_mem _ (List.mem_filter.mpr ⟨(qPs_mem L 0 j w).mpr ⟨Nat.zero_le _, by simpa using h1⟩, ?_⟩))
    by_cases hc : j + 1 = i
    · have h3 : ¬ w.category = 2 := fun q => h2 ⟨hc, q⟩
      simp [hji, h3]
    · simp [hji, hc]
theorem qS2_of {ls' : Array Slot} {n i : Nat} {L : List (Option Value)} {v : Value} (h : lv_has ls' n ((i, v) :: (qPs 0 L).filter (fun q => !(q.1 == i) && (!(q.1 == i + 1) && !(q.1 + 1 == i && q.2.category == 2))))) : qL ls' n (qS2 L i v) := by
  refine ⟨h.1, h.2.1, fun j w hj => ?_⟩
  unfold qS2 at hj
  by_cases hj1 : j = i + 1
  · subst hj1
    have hl : i + 1 < ((qClr L i).set i (some v)).length := by
      have := (List.getElem?_eq_some_iff.mp hj).1
      simpa using this
    rw [List.getElem?_set_self hl] at hj
    cases hj
  · rw [List.getElem?_set_ne (Ne.symm hj1)] at hj
    by_cases hji : j = i
    · subst hji
      have hl : j < (qClr L j).length := by
        have := (List.getElem?_eq_some_iff.mp hj).1
        simpa using this
      rw [List.getElem?_set_self hl] at hj
      cases hj
      exact h.2.2 (j, v) List.mem_cons_self
    · rw [List.getElem?_set_ne (Ne.symm hji)] at hj
      obtain ⟨h1, h2⟩ := qClr_at hj
      refine h.2.2 (j, w) (List.mem_cons_of_mem _ (List.mem_filter.mpr ⟨(qPs_mem L 0 j w).mpr ⟨Nat.zero_le _, by simpa using h1⟩, ?_⟩))
      by_cases hc : j + 1 = i
      · have h3 : ¬ w.category = 2 := fun q => h2 ⟨hc, q⟩
        simp [hji, hj1, h3]
      · simp [hji, hj1, hc]
theorem qL.int {ls : Array Slot} {n i : Nat} {L : List (Option Value)} {x : Int32} (h : qL ls n L) (hi : L[i]? = some (some (.int x))) : ∃ k : Nat, (qPs 0 L)[k]? = some (i, .int x) :=
  List.getElem?_of_mem ((qPs_mem L 0 i (.int x)).mpr ⟨Nat.zero_le _, by simpa using hi⟩)
def qArgs : List Value → List (Option Value)
  | [] => []
  | v :: vs => if v.category = 2 then some v :: none :: qArgs vs else some v :: qArgs vs
theorem qArgs_mem : ∀ (vs : List Value) (k i : Nat) (v : Value), (qArgs vs)[i]? = some (some v) → (k + i, v) ∈ lv_args k vs
  | [], k, i, v, h => by simp [qArgs] at h
  | u :: vs, k, i, v, h => by
    by_cases hc : u.category = 2
    · simp only [qArgs, lv_args, hc, if_true] at h ⊢
      match i, h with
      | 0, h => simp at h; subst h; exact List.mem_cons_self
      | 1, h => simp at h
      | i + 2, h =>
        simp only [List.getElem?_cons_succ] at h
        have := qArgs_mem vs (k + 2) i v h
        rw [show k + (i + 2) = k + 2 + i by omega]
        exact List.mem_cons_of_mem _ this
    · simp only [qArgs, lv_args, hc, if_false] at h ⊢
      match i, h with
      | 0, h => simp at h; subst h; exact List.mem_cons_self
      | i + 1, h =>
        simp only [List.getElem?_cons_succ] at h
        have := qArgs_mem vs (k + 1) i v h
        rw [show k + (i + 1) = k + 1 + i by omega]
        exact List.mem_cons_of_mem _ this
/-- what holds of the machine in a walk of M -/
def qC (G : qG) (M : qM) (p : Program) (s : State) (m : MethodId) (args : Array Value) (meth : Method) (c : Code) : Prop :=
  p.tables.exec = Jvm.exec ∧ c.code = M.2.1 ∧ c.maxLocals = M.2.2.1 ∧ meth.sig.returnType = M.2.2.2.1 ∧ meth.locks = false ∧ s.vm.findClass M.1.cls = some m.cls ∧ (∀ w ∈ qT, w.before args s = true) ∧ qK G s ∧ meth.name = M.1.name ∧ G.2.1 ≤ s.heap.size
abbrev qZ : Type := List Frame → Array Value → State → State → Prop
abbrev qX : Type := Array Value → State → Prop
/-- THE JUDGEMENT: at pc with locals L, stack st, known cells h, cn cells and sn slots made so far, M comes to Z -/
def QP (G : qG) (M : qM) (E : qX) (Z : qZ) (pc : Nat) (L : List (Option Value)) (st : List Value) (h : qH) (cn sn : Nat) : Prop :=
  ∀ (p : Program) (e : Env) (s : State) (m : MethodId) (args : Array Value) (below : List Frame) (meth : Method) (c : Code), qC G M p s m args meth c → E args s →
    ∀ (H : Heap) (ls : Array Slot) (locs : List Loc), qRep G h H → qL ls M.2.2.1 L → va_S (fun q : Nat => G.2.1 ≤ q) s.heap H locs →
      W p G.1 e M.2.2.2.2 s m args below meth c H locs cn sn (Z below args s) (F0 m pc ls st)
def qMZ (G : qG) (M : qM) (Q : Option Value → qH → Prop) : qZ := fun below args s => MQ below (qQc G Q) args s M.2.2.2.2.cells M.2.2.2.2.slots (fun q => G.2.1 ≤ q)
def qTr : qX := fun _ _ => True
theorem qMet.of {G : qG} {M : qM} {av : List Value} {h : qH} {Q : Option Value → qH → Prop} {L : List (Option Value)} (hy : plainName M.1.cls = true) (hn : (lg_sl av).length ≤ M.2.2.1) (hL : qArgs av ++ List.replicate (M.2.2.1 - (lg_sl av).length) none = L)
    (k : QP G M qTr (qMZ G M Q) 0 L [] h 0 0) : qMet G M av h Q := by
  refine Met.ofW (cc := M.2.1) (maxL := M.2.2.1) (ret := M.2.2.2.1) hy rfl ?_
  intro p e s m args below meth c s₁ B hml hv
  obtain ⟨rfl, hR, hK, hN⟩ := hv
  have hts := atoms_spec (ws := qWs M) B.pre
  have hl := lv_entry av (n := M.2.2.1) hn
  rw [lg_entry_eq]
  refine k p e s m _ below meth c ⟨B.exec, B.bytes, hml, B.returns, B.notSynchronized, findClass_of_methodNamed B.named, fun w hw => hts w (List.mem_cons_of_mem _ hw), hK, (name_of_methodNamed B.named B.method).1, hN⟩ trivial s.heap _ [] hR ⟨hl.1, hl.2.1, fun i v hi => ?_⟩ va_S.rf
  rw [← hL] at hi
  by_cases hlt : i < (qArgs av).length
  · rw [List.getElem?_append_left hlt] at hi
    have := hl.2.2 _ (qArgs_mem av 0 i v hi)
    rwa [Nat.zero_add] at this
  · rw [List.getElem?_append_right (by omega)] at hi
    have := List.eq_of_mem_replicate (List.mem_of_getElem? hi)
    cases this
theorem qMet.mono {G : qG} {M : qM} {av : List Value} {h : qH} {Q Q' : Option Value → qH → Prop} (hm : qMet G M av h Q) (hq : ∀ r h', Q r h' → Q' r h') : qMet G M av h Q' := by
  intro p e a1 a2 a3 s m args below hf hfit hap hpre
  obtain ⟨k, o, h1, h2, h3, ⟨⟨r, h', e1, e2, e3⟩, h5⟩⟩ := hm p e a1 a2 a3 s m args below hf hfit hap hpre
  exact ⟨k, o, h1, h2, h3, ⟨⟨r, h', e1, hq _ _ e2, e3⟩, h5⟩⟩
def qUp (h : qH) (a : Nat) (e : qE) : qH := fun q => if q = a then some e else h q
theorem qUp_self (h : qH) (a : Nat) (e : qE) : qUp h a e a = some e := if_pos rfl
theorem qUp_ne {h : qH} {a b : Nat} {e : qE} (hb : b ≠ a) : qUp h a e b = h b := if_neg hb
theorem qRep.up {G : qG} {h : qH} {H H1 : Heap} {a : Nat} {e : qE} (hR : qRep G h H) (ha : va_at G.2.2.1 vwCl (a, qcell G e) H1) (ho : ∀ q : Nat, q ≠ a → H1[q]? = H[q]?) : qRep G (qUp h a e) H1 := by
  intro b x hb
  by_cases hba : b = a
  · subst hba
    rw [qUp_self] at hb
    cases hb
    exact ha
  · rw [qUp_ne hba] at hb
    exact (hR b x hb).kept (ho b hba)
theorem qRep.push {G : qG} {h : qH} {H H1 : Heap} {e : qE} (hR : qRep G h H) (ha : va_at G.2.2.1 vwCl (H.size, qcell G e) H1) (ho : ∀ q : Nat, q < H.size → H1[q]? = H[q]?) : qRep G (qUp h H.size e) H1 := by
  intro b x hb
  by_cases hba : b = H.size
  · subst hba
    rw [qUp_self] at hb
    cases hb
    exact ha
  · rw [qUp_ne hba] at hb
    have := (hR b x hb).lt
    exact (hR b x hb).kept (ho b this)
theorem qRep.fresh {G : qG} {h : qH} {H : Heap} (hR : qRep G h H) : h H.size = none := by
  cases hh : h H.size with
  | none => rfl
  | some e => exact absurd (hR _ _ hh).lt (Nat.lt_irrefl _)

section QPS
variable {G : qG} {M : qM} {E : qX} {Z : qZ} {pc : Nat} {L : List (Option Value)} {st : List Value} {h : qH} {cn sn : Nat}
theorem qp_iconst {n : Int} {v : Int32} (hd : decode M.2.1 pc = .ok (.iconst n, 1)) (hv : Int32.ofInt n = v) (k : QP G M E Z (pc + 1) L (.int v :: st) h cn sn) : QP G M E Z pc L st h cn sn :=
  fun p e s m args below meth c C hE H ls locs hR hL hS => lv_iconst C.1 C.2.1 hd hv (k p e s m args below meth c C hE H ls locs hR hL hS)
theorem qp_bipush {n : Int} {v : Int32} (hd : decode M.2.1 pc = .ok (.bipush n, 2)) (hv : (Int8.ofInt n).toInt32 = v) (k : QP G M E Z (pc + 2) L (.int v :: st) h cn sn) : QP G M E Z pc L st h cn sn :=
  fun p e s m args below meth c C hE H ls locs hR hL hS => lv_bipush C.1 C.2.1 hd hv (k p e s m args below meth c C hE H ls locs hR hL hS)
theorem qp_sipush {n : Int} {v : Int32} (hd : decode M.2.1 pc = .ok (.sipush n, 3)) (hv : (Int16.ofInt n).toInt32 = v) (k : QP G M E Z (pc + 3) L (.int v :: st) h cn sn) : QP G M E Z pc L st h cn sn :=
  fun p e s m args below meth c C hE H ls locs hR hL hS => lv_sipush C.1 C.2.1 hd hv (k p e s m args below meth c C hE H ls locs hR hL hS)
theorem qp_lconst {n : Fin 2} {v : Int64} (hd : decode M.2.1 pc = .ok (.lconst n, 1)) (hv : Int64.ofNat (n : Nat) = v) (k : QP G M E Z (pc + 1) L (.long v :: st) h cn sn) : QP G M E Z pc L st h cn sn :=
  fun p e s m args below meth c C hE H ls locs hR hL hS => lv_lconst C.1 C.2.1 hd hv (k p e s m args below meth c C hE H ls locs hR hL hS)
theorem qp_null  (hd : decode M.2.1 pc = .ok (.aconst_null, 1))  (k : QP G M E Z (pc + 1) L (.null :: st) h cn sn) : QP G M E Z pc L st h cn sn :=
  fun p e s m args below meth c C hE H ls locs hR hL hS => lv_null C.1 C.2.1 hd (k p e s m args below meth c C hE H ls locs hR hL hS)
theorem qp_iload_n {i : Fin 4} {x : Int32} (hd : decode M.2.1 pc = .ok (.iload_n i, 1)) (hl : L[(i : Nat)]? = some (some (.int x))) (k : QP G M E Z (pc + 1) L (.int x :: st) h cn sn) : QP G M E Z pc L st h cn sn :=
  fun p e s m args below meth c C hE H ls locs hR hL hS => lv_iload_n C.1 C.2.1 hd rfl (hL.2.2 _ _ hl) (k p e s m args below meth c C hE H ls locs hR hL hS)
theorem qp_iload {i : Nat} {x : Int32} (hd : decode M.2.1 pc = .ok (.iload i, 2)) (hl : L[i]? = some (some (.int x))) (k : QP G M E Z (pc + 2) L (.int x :: st) h cn sn) : QP G M E Z pc L st h cn sn :=
  fun p e s m args below meth c C hE H ls locs hR hL hS => lv_iload C.1 C.2.1 hd (hL.2.2 _ _ hl) (k p e s m args below meth c C hE H ls locs hR hL hS)
theorem qp_lload_n {i : Fin 4} {x : Int64} (hd : decode M.2.1 pc = .ok (.lload_n i, 1)) (hl : L[(i : Nat)]? = some (some (.long x))) (k : QP G M E Z (pc + 1) L (.long x :: st) h cn sn) : QP G M E Z pc L st h cn sn :=
  fun p e s m args below meth c C hE H ls locs hR hL hS => lv_lload_n C.1 C.2.1 hd rfl (hL.2.2 _ _ hl) (k p e s m args below meth c C hE H ls locs hR hL hS)
theorem qp_lload {i : Nat} {x : Int64} (hd : decode M.2.1 pc = .ok (.lload i, 2)) (hl : L[i]? = some (some (.long x))) (k : QP G M E Z (pc + 2) L (.long x :: st) h cn sn) : QP G M E Z pc L st h cn sn :=
  fun p e s m args below meth c C hE H ls locs hR hL hS => lv_lload C.1 C.2.1 hd (hL.2.2 _ _ hl) (k p e s m args below meth c C hE H ls locs hR hL hS)
theorem qp_aload_n {i : Fin 4} {x : Nat} (hd : decode M.2.1 pc = .ok (.aload_n i, 1)) (hl : L[(i : Nat)]? = some (some (.ref x))) (k : QP G M E Z (pc + 1) L (.ref x :: st) h cn sn) : QP G M E Z pc L st h cn sn :=
  fun p e s m args below meth c C hE H ls locs hR hL hS => lv_aload_n C.1 C.2.1 hd rfl (hL.2.2 _ _ hl) (k p e s m args below meth c C hE H ls locs hR hL hS)
theorem qp_aload {i : Nat} {x : Nat} (hd : decode M.2.1 pc = .ok (.aload i, 2)) (hl : L[i]? = some (some (.ref x))) (k : QP G M E Z (pc + 2) L (.ref x :: st) h cn sn) : QP G M E Z pc L st h cn sn :=
  fun p e s m args below meth c C hE H ls locs hR hL hS => lv_aload C.1 C.2.1 hd (hL.2.2 _ _ hl) (k p e s m args below meth c C hE H ls locs hR hL hS)
theorem qp_aload_nN {i : Fin 4} (hd : decode M.2.1 pc = .ok (.aload_n i, 1)) (hl : L[(i : Nat)]? = some (some .null)) (k : QP G M E Z (pc + 1) L (.null :: st) h cn sn) : QP G M E Z pc L st h cn sn :=
  fun p e s m args below meth c C hE H ls locs hR hL hS => lv_aload_nN C.1 C.2.1 hd rfl (hL.2.2 _ _ hl) (k p e s m args below meth c C hE H ls locs hR hL hS)
theorem qp_aloadN {i : Nat} (hd : decode M.2.1 pc = .ok (.aload i, 2)) (hl : L[i]? = some (some .null)) (k : QP G M E Z (pc + 2) L (.null :: st) h cn sn) : QP G M E Z pc L st h cn sn :=
  fun p e s m args below meth c C hE H ls locs hR hL hS => lv_aloadN C.1 C.2.1 hd (hL.2.2 _ _ hl) (k p e s m args below meth c C hE H ls locs hR hL hS)
theorem qp_istore_n {i : Fin 4} {x : Int32} (hd : decode M.2.1 pc = .ok (.istore_n i, 1)) (hn : (i : Nat) < M.2.2.1) (k : QP G M E Z (pc + 1) (qS1 L (i : Nat) (.int x)) st h cn sn) : QP G M E Z pc L ((.int x) :: st) h cn sn :=
  fun p e s m args below meth c C hE H ls locs hR hL hS => lv_istore_n C.1 C.2.1 hd rfl hL.has hn rfl (fun ls1 h1 => k p e s m args below meth c C hE H ls1 locs hR (qS1_of h1) hS)
theorem qp_istore {i : Nat} {x : Int32} (hd : decode M.2.1 pc = .ok (.istore i, 2)) (hn : i < M.2.2.1) (k : QP G M E Z (pc + 2) (qS1 L i (.int x)) st h cn sn) : QP G M E Z pc L ((.int x) :: st) h cn sn :=
  fun p e s m args below meth c C hE H ls locs hR hL hS => lv_istore C.1 C.2.1 hd hL.has hn rfl (fun ls1 h1 => k p e s m args below meth c C hE H ls1 locs hR (qS1_of h1) hS)
theorem qp_astore_n {i : Fin 4} {x : Nat} (hd : decode M.2.1 pc = .ok (.astore_n i, 1)) (hn : (i : Nat) < M.2.2.1) (k : QP G M E Z (pc + 1) (qS1 L (i : Nat) (.ref x)) st h cn sn) : QP G M E Z pc L ((.ref x) :: st) h cn sn :=
  fun p e s m args below meth c C hE H ls locs hR hL hS => lv_astore_n C.1 C.2.1 hd rfl hL.has hn rfl (fun ls1 h1 => k p e s m args below meth c C hE H ls1 locs hR (qS1_of h1) hS)
theorem qp_astore {i : Nat} {x : Nat} (hd : decode M.2.1 pc = .ok (.astore i, 2)) (hn : i < M.2.2.1) (k : QP G M E Z (pc + 2) (qS1 L i (.ref x)) st h cn sn) : QP G M E Z pc L ((.ref x) :: st) h cn sn :=
  fun p e s m args below meth c C hE H ls locs hR hL hS => lv_astore C.1 C.2.1 hd hL.has hn rfl (fun ls1 h1 => k p e s m args below meth c C hE H ls1 locs hR (qS1_of h1) hS)
theorem qp_astore_nN {i : Fin 4} (hd : decode M.2.1 pc = .ok (.astore_n i, 1)) (hn : (i : Nat) < M.2.2.1) (k : QP G M E Z (pc + 1) (qS1 L (i : Nat) .null) st h cn sn) : QP G M E Z pc L (.null :: st) h cn sn :=
  fun p e s m args below meth c C hE H ls locs hR hL hS => lv_astore_nN C.1 C.2.1 hd rfl hL.has hn rfl (fun ls1 h1 => k p e s m args below meth c C hE H ls1 locs hR (qS1_of h1) hS)
theorem qp_astoreN {i : Nat} (hd : decode M.2.1 pc = .ok (.astore i, 2)) (hn : i < M.2.2.1) (k : QP G M E Z (pc + 2) (qS1 L i .null) st h cn sn) : QP G M E Z pc L (.null :: st) h cn sn :=
  fun p e s m args below meth c C hE H ls locs hR hL hS => lv_astoreN C.1 C.2.1 hd hL.has hn rfl (fun ls1 h1 => k p e s m args below meth c C hE H ls1 locs hR (qS1_of h1) hS)
theorem qp_lstore_n {i : Fin 4} {x : Int64} (hd : decode M.2.1 pc = .ok (.lstore_n i, 1)) (hn : (i : Nat) + 1 < M.2.2.1) (k : QP G M E Z (pc + 1) (qS2 L (i : Nat) (.long x)) st h cn sn) : QP G M E Z pc L ((.long x) :: st) h cn sn :=
  fun p e s m args below meth c C hE H ls locs hR hL hS => lv_lstore_n C.1 C.2.1 hd rfl hL.has hn rfl (fun ls1 h1 => k p e s m args below meth c C hE H ls1 locs hR (qS2_of h1) hS)
theorem qp_lstore {i : Nat} {x : Int64} (hd : decode M.2.1 pc = .ok (.lstore i, 2)) (hn : i + 1 < M.2.2.1) (k : QP G M E Z (pc + 2) (qS2 L i (.long x)) st h cn sn) : QP G M E Z pc L ((.long x) :: st) h cn sn :=
  fun p e s m args below meth c C hE H ls locs hR hL hS => lv_lstore C.1 C.2.1 hd hL.has hn rfl (fun ls1 h1 => k p e s m args below meth c C hE H ls1 locs hR (qS2_of h1) hS)
theorem qp_iinc {i : Nat} {n : Int} {x v : Int32} (hd : decode M.2.1 pc = .ok (.iinc i n, 3)) (hl : L[i]? = some (some (.int x))) (hn : i < M.2.2.1) (hv : x + Int32.ofInt n = v) (k : QP G M E Z (pc + 3) (qS1 L i (.int v)) st h cn sn) : QP G M E Z pc L st h cn sn := by
  intro p e s m args below meth c C hE H ls locs hR hL hS
  obtain ⟨j, hj⟩ := hL.int hl
  exact lv_iinc C.1 C.2.1 hd hL.has hj hv hn rfl (fun ls1 h1 => k p e s m args below meth c C hE H ls1 locs hR (qS1_of h1) hS)
theorem qp_iadd {x y : Int32} (hd : decode M.2.1 pc = .ok (.iadd, 1))  (k : QP G M E Z (pc + 1) L (.int (x + y) :: st) h cn sn) : QP G M E Z pc L (.int y :: .int x :: st) h cn sn :=
  fun p e s m args below meth c C hE H ls locs hR hL hS => lv_iadd C.1 C.2.1 hd (k p e s m args below meth c C hE H ls locs hR hL hS)
theorem qp_isub {x y : Int32} (hd : decode M.2.1 pc = .ok (.isub, 1))  (k : QP G M E Z (pc + 1) L (.int (x - y) :: st) h cn sn) : QP G M E Z pc L (.int y :: .int x :: st) h cn sn :=
  fun p e s m args below meth c C hE H ls locs hR hL hS => lv_isub C.1 C.2.1 hd (k p e s m args below meth c C hE H ls locs hR hL hS)
theorem qp_imul {x y : Int32} (hd : decode M.2.1 pc = .ok (.imul, 1))  (k : QP G M E Z (pc + 1) L (.int (x * y) :: st) h cn sn) : QP G M E Z pc L (.int y :: .int x :: st) h cn sn :=
  fun p e s m args below meth c C hE H ls locs hR hL hS => lv_imul C.1 C.2.1 hd (k p e s m args below meth c C hE H ls locs hR hL hS)
theorem qp_iand {x y : Int32} (hd : decode M.2.1 pc = .ok (.iand, 1))  (k : QP G M E Z (pc + 1) L (.int (x &&& y) :: st) h cn sn) : QP G M E Z pc L (.int y :: .int x :: st) h cn sn :=
  fun p e s m args below meth c C hE H ls locs hR hL hS => lv_iand C.1 C.2.1 hd (k p e s m args below meth c C hE H ls locs hR hL hS)
theorem qp_ior {x y : Int32} (hd : decode M.2.1 pc = .ok (.ior, 1))  (k : QP G M E Z (pc + 1) L (.int (x ||| y) :: st) h cn sn) : QP G M E Z pc L (.int y :: .int x :: st) h cn sn :=
  fun p e s m args below meth c C hE H ls locs hR hL hS => lv_ior C.1 C.2.1 hd (k p e s m args below meth c C hE H ls locs hR hL hS)
theorem qp_ishl {x y : Int32} (hd : decode M.2.1 pc = .ok (.ishl, 1))  (k : QP G M E Z (pc + 1) L (.int (x <<< (y &&& 31)) :: st) h cn sn) : QP G M E Z pc L (.int y :: .int x :: st) h cn sn :=
  fun p e s m args below meth c C hE H ls locs hR hL hS => lv_ishl C.1 C.2.1 hd (k p e s m args below meth c C hE H ls locs hR hL hS)
theorem qp_ishr {x y : Int32} (hd : decode M.2.1 pc = .ok (.ishr, 1))  (k : QP G M E Z (pc + 1) L (.int (x >>> (y &&& 31)) :: st) h cn sn) : QP G M E Z pc L (.int y :: .int x :: st) h cn sn :=
  fun p e s m args below meth c C hE H ls locs hR hL hS => lv_ishr C.1 C.2.1 hd (k p e s m args below meth c C hE H ls locs hR hL hS)
theorem qp_idiv {x y : Int32} (hd : decode M.2.1 pc = .ok (.idiv, 1)) (hne : ¬ y = 0) (k : QP G M E Z (pc + 1) L (.int (x / y) :: st) h cn sn) : QP G M E Z pc L (.int y :: .int x :: st) h cn sn :=
  fun p e s m args below meth c C hE H ls locs hR hL hS => lv_idiv C.1 C.2.1 hd hne (k p e s m args below meth c C hE H ls locs hR hL hS)
theorem qp_irem {x y : Int32} (hd : decode M.2.1 pc = .ok (.irem, 1)) (hne : ¬ y = 0) (k : QP G M E Z (pc + 1) L (.int (x - x / y * y) :: st) h cn sn) : QP G M E Z pc L (.int y :: .int x :: st) h cn sn :=
  fun p e s m args below meth c C hE H ls locs hR hL hS => lv_irem C.1 C.2.1 hd hne (k p e s m args below meth c C hE H ls locs hR hL hS)
theorem qp_ladd {x y : Int64} (hd : decode M.2.1 pc = .ok (.ladd, 1))  (k : QP G M E Z (pc + 1) L (.long (x + y) :: st) h cn sn) : QP G M E Z pc L (.long y :: .long x :: st) h cn sn :=
  fun p e s m args below meth c C hE H ls locs hR hL hS => lv_ladd C.1 C.2.1 hd (k p e s m args below meth c C hE H ls locs hR hL hS)
theorem qp_lsub {x y : Int64} (hd : decode M.2.1 pc = .ok (.lsub, 1))  (k : QP G M E Z (pc + 1) L (.long (x - y) :: st) h cn sn) : QP G M E Z pc L (.long y :: .long x :: st) h cn sn :=
  fun p e s m args below meth c C hE H ls locs hR hL hS => lv_lsub C.1 C.2.1 hd (k p e s m args below meth c C hE H ls locs hR hL hS)
theorem qp_lmul {x y : Int64} (hd : decode M.2.1 pc = .ok (.lmul, 1))  (k : QP G M E Z (pc + 1) L (.long (x * y) :: st) h cn sn) : QP G M E Z pc L (.long y :: .long x :: st) h cn sn :=
  fun p e s m args below meth c C hE H ls locs hR hL hS => lv_lmul C.1 C.2.1 hd (k p e s m args below meth c C hE H ls locs hR hL hS)
theorem qp_land {x y : Int64} (hd : decode M.2.1 pc = .ok (.land, 1))  (k : QP G M E Z (pc + 1) L (.long (x &&& y) :: st) h cn sn) : QP G M E Z pc L (.long y :: .long x :: st) h cn sn :=
  fun p e s m args below meth c C hE H ls locs hR hL hS => lv_land C.1 C.2.1 hd (k p e s m args below meth c C hE H ls locs hR hL hS)
theorem qp_lor {x y : Int64} (hd : decode M.2.1 pc = .ok (.lor, 1))  (k : QP G M E Z (pc + 1) L (.long (x ||| y) :: st) h cn sn) : QP G M E Z pc L (.long y :: .long x :: st) h cn sn :=
  fun p e s m args below meth c C hE H ls locs hR hL hS => lv_lor C.1 C.2.1 hd (k p e s m args below meth c C hE H ls locs hR hL hS)
theorem qp_i2l {x : Int32} (hd : decode M.2.1 pc = .ok (.i2l, 1))  (k : QP G M E Z (pc + 1) L (.long x.toInt64 :: st) h cn sn) : QP G M E Z pc L (.int x :: st) h cn sn :=
  fun p e s m args below meth c C hE H ls locs hR hL hS => lv_i2l C.1 C.2.1 hd rfl (k p e s m args below meth c C hE H ls locs hR hL hS)
theorem qp_l2i {x : Int64} (hd : decode M.2.1 pc = .ok (.l2i, 1))  (k : QP G M E Z (pc + 1) L (.int x.toInt32 :: st) h cn sn) : QP G M E Z pc L (.long x :: st) h cn sn :=
  fun p e s m args below meth c C hE H ls locs hR hL hS => lv_l2i C.1 C.2.1 hd rfl (k p e s m args below meth c C hE H ls locs hR hL hS)
theorem qp_i2b {x : Int32} (hd : decode M.2.1 pc = .ok (.i2b, 1))  (k : QP G M E Z (pc + 1) L (.int x.toInt8.toInt32 :: st) h cn sn) : QP G M E Z pc L (.int x :: st) h cn sn :=
  fun p e s m args below meth c C hE H ls locs hR hL hS => lv_i2b C.1 C.2.1 hd rfl (k p e s m args below meth c C hE H ls locs hR hL hS)
theorem qp_lshl {x : Int64} {y : Int32} (hd : decode M.2.1 pc = .ok (.lshl, 1))  (k : QP G M E Z (pc + 1) L (.long (x <<< (y.toInt64 &&& 63)) :: st) h cn sn) : QP G M E Z pc L (.int y :: .long x :: st) h cn sn :=
  fun p e s m args below meth c C hE H ls locs hR hL hS => lv_lshl C.1 C.2.1 hd rfl (k p e s m args below meth c C hE H ls locs hR hL hS)
theorem qp_lcmp {x y : Int64} (hd : decode M.2.1 pc = .ok (.lcmp, 1))  (k : QP G M E Z (pc + 1) L (.int (lg_cmp x y) :: st) h cn sn) : QP G M E Z pc L (.long y :: .long x :: st) h cn sn :=
  fun p e s m args below meth c C hE H ls locs hR hL hS => W.lcmp C.1 C.2.1 hd (k p e s m args below meth c C hE H ls locs hR hL hS)
theorem qp_dup {v : Value} (hd : decode M.2.1 pc = .ok (.dup, 1)) (hv : v.category = 1) (k : QP G M E Z (pc + 1) L (v :: v :: st) h cn sn) : QP G M E Z pc L (v :: st) h cn sn :=
  fun p e s m args below meth c C hE H ls locs hR hL hS => lv_dup C.1 C.2.1 hd hv (k p e s m args below meth c C hE H ls locs hR hL hS)
theorem qp_pop {v : Value} (hd : decode M.2.1 pc = .ok (.pop, 1)) (hv : v.category = 1) (k : QP G M E Z (pc + 1) L st h cn sn) : QP G M E Z pc L (v :: st) h cn sn :=
  fun p e s m args below meth c C hE H ls locs hR hL hS => lv_pop C.1 C.2.1 hd hv (k p e s m args below meth c C hE H ls locs hR hL hS)
theorem qp_dup2 {v u : Value} (hd : decode M.2.1 pc = .ok (.dup2, 1)) (hv : v.category = 1) (hu : u.category = 1) (k : QP G M E Z (pc + 1) L (v :: u :: v :: u :: st) h cn sn) : QP G M E Z pc L (v :: u :: st) h cn sn :=
  fun p e s m args below meth c C hE H ls locs hR hL hS => lv_dup2_11 C.1 C.2.1 hd hv hu (k p e s m args below meth c C hE H ls locs hR hL hS)
theorem qp_if_eq {x : Int32} {off : Int} (tgt : Nat) (hd : decode M.2.1 pc = .ok (.ifCond .eq off, 3)) (ht : (pc : Int) + off = (tgt : Int)) (kt : x = 0 → QP G M E Z tgt L st h cn sn) (kf : ¬ x = 0 → QP G M E Z (pc + 3) L st h cn sn) : QP G M E Z pc L (.int x :: st) h cn sn :=
  fun p e s m args below meth c C hE H ls locs hR hL hS => lv_if_eq C.1 C.2.1 hd ht (fun q => kt q p e s m args below meth c C hE H ls locs hR hL hS) (fun q => kf q p e s m args below meth c C hE H ls locs hR hL hS)
theorem qp_icmp_eq {x y : Int32} {off : Int} (tgt : Nat) (hd : decode M.2.1 pc = .ok (.if_icmp .eq off, 3)) (ht : (pc : Int) + off = (tgt : Int)) (kt : x = y → QP G M E Z tgt L st h cn sn) (kf : ¬ x = y → QP G M E Z (pc + 3) L st h cn sn) : QP G M E Z pc L (.int y :: .int x :: st) h cn sn :=
  fun p e s m args below meth c C hE H ls locs hR hL hS => lv_icmp_eq C.1 C.2.1 hd ht (fun q => kt q p e s m args below meth c C hE H ls locs hR hL hS) (fun q => kf q p e s m args below meth c C hE H ls locs hR hL hS)
theorem qp_if_ne {x : Int32} {off : Int} (tgt : Nat) (hd : decode M.2.1 pc = .ok (.ifCond .ne off, 3)) (ht : (pc : Int) + off = (tgt : Int)) (kt : ¬ x = 0 → QP G M E Z tgt L st h cn sn) (kf : x = 0 → QP G M E Z (pc + 3) L st h cn sn) : QP G M E Z pc L (.int x :: st) h cn sn :=
  fun p e s m args below meth c C hE H ls locs hR hL hS => lv_if_ne C.1 C.2.1 hd ht (fun q => kt q p e s m args below meth c C hE H ls locs hR hL hS) (fun q => kf q p e s m args below meth c C hE H ls locs hR hL hS)
theorem qp_icmp_ne {x y : Int32} {off : Int} (tgt : Nat) (hd : decode M.2.1 pc = .ok (.if_icmp .ne off, 3)) (ht : (pc : Int) + off = (tgt : Int)) (kt : ¬ x = y → QP G M E Z tgt L st h cn sn) (kf : x = y → QP G M E Z (pc + 3) L st h cn sn) : QP G M E Z pc L (.int y :: .int x :: st) h cn sn :=
  fun p e s m args below meth c C hE H ls locs hR hL hS => lv_icmp_ne C.1 C.2.1 hd ht (fun q => kt q p e s m args below meth c C hE H ls locs hR hL hS) (fun q => kf q p e s m args below meth c C hE H ls locs hR hL hS)
theorem qp_if_lt {x : Int32} {off : Int} (tgt : Nat) (hd : decode M.2.1 pc = .ok (.ifCond .lt off, 3)) (ht : (pc : Int) + off = (tgt : Int)) (kt : x < 0 → QP G M E Z tgt L st h cn sn) (kf : ¬ x < 0 → QP G M E Z (pc + 3) L st h cn sn) : QP G M E Z pc L (.int x :: st) h cn sn :=
  fun p e s m args below meth c C hE H ls locs hR hL hS => lv_if_lt C.1 C.2.1 hd ht (fun q => kt q p e s m args below meth c C hE H ls locs hR hL hS) (fun q => kf q p e s m args below meth c C hE H ls locs hR hL hS)
theorem qp_icmp_lt {x y : Int32} {off : Int} (tgt : Nat) (hd : decode M.2.1 pc = .ok (.if_icmp .lt off, 3)) (ht : (pc : Int) + off = (tgt : Int)) (kt : x < y → QP G M E Z tgt L st h cn sn) (kf : ¬ x < y → QP G M E Z (pc + 3) L st h cn sn) : QP G M E Z pc L (.int y :: .int x :: st) h cn sn :=
  fun p e s m args below meth c C hE H ls locs hR hL hS => lv_icmp_lt C.1 C.2.1 hd ht (fun q => kt q p e s m args below meth c C hE H ls locs hR hL hS) (fun q => kf q p e s m args below meth c C hE H ls locs hR hL hS)
theorem qp_if_ge {x : Int32} {off : Int} (tgt : Nat) (hd : decode M.2.1 pc = .ok (.ifCond .ge off, 3)) (ht : (pc : Int) + off = (tgt : Int)) (kt : 0 ≤ x → QP G M E Z tgt L st h cn sn) (kf : ¬ 0 ≤ x → QP G M E Z (pc + 3) L st h cn sn) : QP G M E Z pc L (.int x :: st) h cn sn :=
  fun p e s m args below meth c C hE H ls locs hR hL hS => lv_if_ge C.1 C.2.1 hd ht (fun q => kt q p e s m args below meth c C hE H ls locs hR hL hS) (fun q => kf q p e s m args below meth c C hE H ls locs hR hL hS)
theorem qp_icmp_ge {x y : Int32} {off : Int} (tgt : Nat) (hd : decode M.2.1 pc = .ok (.if_icmp .ge off, 3)) (ht : (pc : Int) + off = (tgt : Int)) (kt : y ≤ x → QP G M E Z tgt L st h cn sn) (kf : ¬ y ≤ x → QP G M E Z (pc + 3) L st h cn sn) : QP G M E Z pc L (.int y :: .int x :: st) h cn sn :=
  fun p e s m args below meth c C hE H ls locs hR hL hS => lv_icmp_ge C.1 C.2.1 hd ht (fun q => kt q p e s m args below meth c C hE H ls locs hR hL hS) (fun q => kf q p e s m args below meth c C hE H ls locs hR hL hS)
theorem qp_if_gt {x : Int32} {off : Int} (tgt : Nat) (hd : decode M.2.1 pc = .ok (.ifCond .gt off, 3)) (ht : (pc : Int) + off = (tgt : Int)) (kt : 0 < x → QP G M E Z tgt L st h cn sn) (kf : ¬ 0 < x → QP G M E Z (pc + 3) L st h cn sn) : QP G M E Z pc L (.int x :: st) h cn sn :=
  fun p e s m args below meth c C hE H ls locs hR hL hS => lv_if_gt C.1 C.2.1 hd ht (fun q => kt q p e s m args below meth c C hE H ls locs hR hL hS) (fun q => kf q p e s m args below meth c C hE H ls locs hR hL hS)
theorem qp_icmp_gt {x y : Int32} {off : Int} (tgt : Nat) (hd : decode M.2.1 pc = .ok (.if_icmp .gt off, 3)) (ht : (pc : Int) + off = (tgt : Int)) (kt : y < x → QP G M E Z tgt L st h cn sn) (kf : ¬ y < x → QP G M E Z (pc + 3) L st h cn sn) : QP G M E Z pc L (.int y :: .int x :: st) h cn sn :=
  fun p e s m args below meth c C hE H ls locs hR hL hS => lv_icmp_gt C.1 C.2.1 hd ht (fun q => kt q p e s m args below meth c C hE H ls locs hR hL hS) (fun q => kf q p e s m args below meth c C hE H ls locs hR hL hS)
theorem qp_if_le {x : Int32} {off : Int} (tgt : Nat) (hd : decode M.2.1 pc = .ok (.ifCond .le off, 3)) (ht : (pc : Int) + off = (tgt : Int)) (kt : x ≤ 0 → QP G M E Z tgt L st h cn sn) (kf : ¬ x ≤ 0 → QP G M E Z (pc + 3) L st h cn sn) : QP G M E Z pc L (.int x :: st) h cn sn :=
  fun p e s m args below meth c C hE H ls locs hR hL hS => lv_if_le C.1 C.2.1 hd ht (fun q => kt q p e s m args below meth c C hE H ls locs hR hL hS) (fun q => kf q p e s m args below meth c C hE H ls locs hR hL hS)
theorem qp_icmp_le {x y : Int32} {off : Int} (tgt : Nat) (hd : decode M.2.1 pc = .ok (.if_icmp .le off, 3)) (ht : (pc : Int) + off = (tgt : Int)) (kt : x ≤ y → QP G M E Z tgt L st h cn sn) (kf : ¬ x ≤ y → QP G M E Z (pc + 3) L st h cn sn) : QP G M E Z pc L (.int y :: .int x :: st) h cn sn :=
  fun p e s m args below meth c C hE H ls locs hR hL hS => lv_icmp_le C.1 C.2.1 hd ht (fun q => kt q p e s m args below meth c C hE H ls locs hR hL hS) (fun q => kf q p e s m args below meth c C hE H ls locs hR hL hS)
theorem qp_goto {off : Int} (tgt : Nat) (hd : decode M.2.1 pc = .ok (.goto off, 3)) (ht : (pc : Int) + off = (tgt : Int)) (k : QP G M E Z tgt L st h cn sn) : QP G M E Z pc L st h cn sn :=
  fun p e s m args below meth c C hE H ls locs hR hL hS => lv_goto C.1 C.2.1 hd ht (k p e s m args below meth c C hE H ls locs hR hL hS)
theorem qp_ifnull {x : Nat} {off : Int} (hd : decode M.2.1 pc = .ok (.ifnull off, 3)) (k : QP G M E Z (pc + 3) L st h cn sn) : QP G M E Z pc L (.ref x :: st) h cn sn :=
  fun p e s m args below meth c C hE H ls locs hR hL hS => lv_ifnull C.1 C.2.1 hd (k p e s m args below meth c C hE H ls locs hR hL hS)
theorem qp_ifnullN {off : Int} (tgt : Nat) (hd : decode M.2.1 pc = .ok (.ifnull off, 3)) (ht : (pc : Int) + off = (tgt : Int)) (k : QP G M E Z tgt L st h cn sn) : QP G M E Z pc L (.null :: st) h cn sn :=
  fun p e s m args below meth c C hE H ls locs hR hL hS => lv_ifnullN C.1 C.2.1 hd ht (k p e s m args below meth c C hE H ls locs hR hL hS)
theorem qp_ifnonnull {x : Nat} {off : Int} (tgt : Nat) (hd : decode M.2.1 pc = .ok (.ifnonnull off, 3)) (ht : (pc : Int) + off = (tgt : Int)) (k : QP G M E Z tgt L st h cn sn) : QP G M E Z pc L (.ref x :: st) h cn sn :=
  fun p e s m args below meth c C hE H ls locs hR hL hS => lv_ifnonnull C.1 C.2.1 hd ht (k p e s m args below meth c C hE H ls locs hR hL hS)
theorem qp_ifnonnullN {off : Int} (hd : decode M.2.1 pc = .ok (.ifnonnull off, 3)) (k : QP G M E Z (pc + 3) L st h cn sn) : QP G M E Z pc L (.null :: st) h cn sn :=
  fun p e s m args below meth c C hE H ls locs hR hL hS => lv_ifnonnullN C.1 C.2.1 hd (k p e s m args below meth c C hE H ls locs hR hL hS)
theorem qp_tableOut {dflt lo hi : Int} {offs : Array Int} {len : Nat} {x : Int32} (tgt : Nat) (hd : decode M.2.1 pc = .ok (.tableswitch dflt lo hi offs, len)) (hx : x.toInt < lo ∨ hi < x.toInt) (ht : (pc : Int) + dflt = (tgt : Int)) (k : QP G M E Z tgt L st h cn sn) : QP G M E Z pc L (.int x :: st) h cn sn :=
  fun p e s m args below meth c C hE H ls locs hR hL hS => lv_tableOut C.1 C.2.1 hd hx ht (k p e s m args below meth c C hE H ls locs hR hL hS)
theorem qp_tableIn {dflt lo hi : Int} {offs : Array Int} {len : Nat} {x : Int32} {off : Int} (tgt : Nat) (hd : decode M.2.1 pc = .ok (.tableswitch dflt lo hi offs, len)) (h1 : ¬ x.toInt < lo) (h2 : ¬ hi < x.toInt) (ho : offs[(x.toInt - lo).toNat]? = some off) (ht : (pc : Int) + off = (tgt : Int)) (k : QP G M E Z tgt L st h cn sn) : QP G M E Z pc L (.int x :: st) h cn sn :=
  fun p e s m args below meth c C hE H ls locs hR hL hS => lv_tableIn C.1 C.2.1 hd h1 h2 ho ht (k p e s m args below meth c C hE H ls locs hR hL hS)
theorem qp_ldc2 {index : Nat} {v : Int64} (hd : decode M.2.1 pc = .ok (.ldc2_w index, 3)) (hw : Cond.constantLong M.1.cls index v ∈ qT) (k : QP G M E Z (pc + 3) L (.long v :: st) h cn sn) : QP G M E Z pc L st h cn sn :=
  fun p e s m args below meth c C hE H ls locs hR hL hS => lv_ldc2 C.1 C.2.1 C.2.2.2.2.2.1 (C.2.2.2.2.2.2.1 _ hw) hd (k p e s m args below meth c C hE H ls locs hR hL hS)

end QPS
end
section
def qfty (ci : Nat) : Nat → FieldType := match ci with
  | 0 => tyJx00060
  | 1 => tyX0
  | 2 => tyX1
  | 3 => tyX2
  | 4 => tyX3
  | _ => tyX4
/-- a class of the table: its words, its fields' types and names -/
def qCls (ci : Nat) (r : vw_C) : Prop := vwCl[ci]? = some r ∧ (∀ w ∈ u_ws r.1 r.2.1 r.2.2, w ∈ qT) ∧ (∀ k, k < r.2.2 → parseFieldDescriptor (r.2.1 k).2.2.1 = some (qfty ci k)) ∧ (∀ a, a < r.2.2 → ∀ b, b < r.2.2 → a ≠ b → (r.2.1 a).2.1 ≠ (r.2.1 b).2.1)
def qFin (ci kf : Nat) : Bool := match vwCl[ci]? with
  | some r => (r.2.1 kf).2.2.2
  | none => true
def qDecl (ci kf : Nat) : String := match vwCl[ci]? with
  | some r => (r.2.1 kf).1
  | none => ""
/-- the entry 'index' of own's pool is the field kf of the class ci -/
def qFld (own : String) (index ci kf : Nat) : Prop := ∃ r, qCls ci r ∧ kf < r.2.2 ∧ (Cond.fieldLink own index (r.2.1 kf).1 (r.2.1 kf).2.1 (r.2.1 kf).2.2.1 ∈ qT ∨ ∃ host, Cond.fieldLinkNest own index (r.2.1 kf).1 (r.2.1 kf).2.1 (r.2.1 kf).2.2.1 host ∈ qN)
def qNw (own : String) (index ci N : Nat) : Prop := ∃ r, qCls ci r ∧ r.2.2 = N ∧ Cond.classLink own index r.1 ∈ qT ∧ Cond.instantiable r.1 r.2.2 ∈ qT ∧ Cond.initialized r.1 ∈ qT
def qNewFs (ci N : Nat) : List Value := (List.range N).map (fun j => defaultValue (qfty ci j))
/-- what the tables say of a method that is called -/
def qLk (M' : qM) (n : Nat) : Prop := Cond.code M'.1 M'.2.1 M'.2.2.1 M'.2.2.2.1 ∈ qT ∧ Cond.initialized M'.1.cls ∈ qT ∧ (M'.1.cls ≠ "java/lang/invoke/MethodHandle" ∧ M'.1.cls ≠ "java/lang/invoke/VarHandle") ∧ (parseMethodDescriptor M'.1.desc).map (fun d => d.parameters.length) = some n
def qLnk (own : String) (index : Nat) (y : MethodName) : Prop := Cond.methodLink own index y ∈ qT ∨ ∃ host, Cond.methodLinkNest own index y host ∈ qN
def qLkV (own : String) (index : Nat) (M' : qM) (n : Nat) : Prop := qLk M' n ∧ Cond.instanceMethod M'.1 ∈ qT ∧ Cond.selects M'.1.cls M'.1 M'.1 ∈ qT ∧ qLnk own index M'.1
def qLkS (own : String) (index : Nat) (M' : qM) (n : Nat) : Prop := qLk M' n ∧ Cond.static M'.1 ∈ qT ∧ qLnk own index M'.1
def qLkI (own : String) (index : Nat) (M' : qM) (n : Nat) : Prop := qLk M' n ∧ M'.1.name = "<init>" ∧ M'.2.2.2.1 = none ∧ Cond.instanceMethod M'.1 ∈ qT ∧ qLnk own index M'.1
def qRm (M M' : qM) : Prop := M'.2.2.2.2.frames + 1 ≤ M.2.2.2.2.frames ∧ 8 + (M'.2.2.1 + 11) + M'.2.2.2.2.locals ≤ M.2.2.2.2.locals
theorem qGood {M' : qM} (h : Cond.code M'.1 M'.2.1 M'.2.2.1 M'.2.2.2.1 ∈ qT) : GoodIn qT (qWs M') := fun w hw => by
  rcases List.mem_cons.mp hw with e | e
  · subst e; exact ⟨h, qT_good h⟩
  · exact ⟨e, qT_good e⟩
section QPH
variable {G : qG} {M : qM} {E : qX} {Z : qZ} {pc : Nat} {L : List (Option Value)} {st : List Value} {h : qH} {cn sn : Nat}
theorem qp_getf {index ci kf a : Nat} {fs : List Value} {v : Value} (hd : decode M.2.1 pc = .ok (.getfield index, 3)) (hf : qFld M.1.cls index ci kf) (hh : h a = some (.inr (ci, fs))) (hv : fs[kf]? = some v) (k : QP G M E Z (pc + 3) L (v :: st) h cn sn) : QP G M E Z pc L (.ref a :: st) h cn sn := by
  intro p e s m args below meth c C hE H ls locs hR hL hS
  have kk := k p e s m args below meth c C hE H ls locs hR hL hS
  obtain ⟨hx, hb, hml, hr, hlk, hown, hts, hK, hnm, hN⟩ := C
  obtain ⟨r, ⟨hrr, hin, -, -⟩, hk, hlink⟩ := hf
  obtain ⟨r', h1, cell, q1, q2, q3, q4⟩ := hR a _ hh
  have e1 : r' = r := Option.some.inj (h1.symm.trans hrr)
  subst e1
  obtain ⟨hSl, hfc, kC, hkC, hkind⟩ := hK.1.1 ci _ hrr
  obtain ⟨cf, kf', fi, f, hi, hsl⟩ := hSl kf hk
  have hst := (u_facts hfc hkC (u_lays hts hin hk) hi).1
  have hval : cell.slots[f.slot]? = some v := by
    rw [hsl, q4 kf hk]
    simp [vp_V, hv]
  rcases hlink with hlink | ⟨host, hlink⟩
  · exact W.getf hx hb hown (hts _ hlink) hi hst q1 (by rw [q3]; exact fun h => by cases h) hval rfl rfl hd kk
  · exact va_Wgetf hx hb hown (va_Nw.use rfl (hK.2.2 _ hlink)) hi hst q1 (by rw [q3]; exact fun h => by cases h) hval rfl rfl hd kk
theorem qp_put {index ci kf a : Nat} {fs : List Value} {v : Value} {ty : FieldType} (hd : decode M.2.1 pc = .ok (.putfield index, 3)) (hf : qFld M.1.cls index ci kf) (hh : h a = some (.inr (ci, fs))) (ha : G.2.1 ≤ a) (hfin : qFin ci kf = false) (hl : Nat.ble (kf + 1) fs.length = true) (hty : qfty ci kf = ty) (hn : narrow ty v = v) (hfit : fits ty v = true)
    (k : QP G M E Z (pc + 3) L st (qUp h a (.inr (ci, fs.set kf v))) cn sn) : QP G M E Z pc L (v :: .ref a :: st) h cn sn := by
  intro p e s m args below meth c C hE H ls locs hR hL hS
  have kk := fun (H1 : Heap) (locs1 : List Loc) => k p e s m args below meth c C hE H1 ls locs1
  obtain ⟨hx, hb, hml, hr, hlk, hown, hts, hK, hnm, hN⟩ := C
  obtain ⟨r, ⟨hrr, hin, hty0, hnm0⟩, hk, hlink⟩ := hf
  obtain ⟨r', h1, cell, q1, q2, q3, q4⟩ := hR a _ hh
  have e1 : r' = r := Option.some.inj (h1.symm.trans hrr)
  subst e1
  have hfin' : (r'.2.1 kf).2.2.2 = false := by
    unfold qFin at hfin
    rw [hrr] at hfin
    exact hfin
  have hap := va_apart (own := r'.1) (cl := vwCl) hts hin (qfty ci) hty0 hnm0 hK.1 hrr
  obtain ⟨hSl, hfc, kC, hkC, hkind⟩ := hK.1.1 ci _ hrr
  obtain ⟨cf, kf', fi, f, hi, hsl⟩ := hSl kf hk
  have hlay := hts _ (hin _ (u_in_lay hk))
  unfold u_lay at hlay
  rw [if_neg (by rw [hfin']; decide)] at hlay
  have hst := (u_facts hfc hkC (u_lays hts hin hk) hi).1
  have h6 := u_store hfc hkC hkind hlay hi (by rw [hty0 kf hk, hty]) hn hfit
  have hl' : kf < fs.length := Nat.le_of_ble_eq_true hl
  have fin : ∀ H' : Heap, H'[a]? = some (cell.setSlot f.slot v) → H'.size = H.size → (∀ q, q ≠ a → H'[q]? = H[q]?) → W p G.1 e M.2.2.2.2 s m args below meth c H' (locs ++ [⟨a, f.slot⟩]) cn sn (Z below args s) (F0 m (pc + 3) ls st) := by
    intro H' e1 e2 e3
    rw [hsl] at e1 ⊢
    refine kk H' _ (hR.up (e := .inr (ci, fs.set kf v)) ⟨_, hrr, t_OB.to (V := updV (vp_V fs) kf v) ⟨_, e1, q2, q3, t_set q4 hap hk v⟩ (fun j _ => vp_updV_set hl' v j)⟩ e3) hL (hS.put e2 e3 ha)
  rcases hlink with hlink | ⟨host, hlink⟩
  · exact W.putK hx hb (f := f) ⟨hown, hts _ hlink, ⟨_, _, _, hi⟩, hst⟩ (by rw [q2]; exact h6) q1 q3 (by rw [hsl]; exact k2_hasslot (q4 kf hk)) rfl rfl hd fin
  · exact va_WputK hx hb (f := f) hown (va_Nw.use rfl (hK.2.2 _ hlink)) hi hst (by rw [q2]; exact h6) q1 q3 (by rw [hsl]; exact k2_hasslot (q4 kf hk)) rfl rfl hd fin
theorem qp_putF {index ci kf a : Nat} {fs : List Value} {v : Value} {ty : FieldType} (hd : decode M.2.1 pc = .ok (.putfield index, 3)) (hf : ∃ r, qCls ci r ∧ kf < r.2.2 ∧ Cond.fieldLink M.1.cls index (r.2.1 kf).1 (r.2.1 kf).2.1 (r.2.1 kf).2.2.1 ∈ qT) (hh : h a = some (.inr (ci, fs))) (ha : G.2.1 ≤ a) (hfin : qFin ci kf = true) (hdc : qDecl ci kf = M.1.cls) (hini : M.1.name = "<init>") (hl : Nat.ble (kf + 1) fs.length = true) (hty : qfty ci kf = ty) (hn : narrow ty v = v) (hfit : fits ty v = true)
    (k : QP G M E Z (pc + 3) L st (qUp h a (.inr (ci, fs.set kf v))) cn sn) : QP G M E Z pc L (v :: .ref a :: st) h cn sn := by
  intro p e s m args below meth c C hE H ls locs hR hL hS
  have kk := fun (H1 : Heap) (locs1 : List Loc) => k p e s m args below meth c C hE H1 ls locs1
  obtain ⟨hx, hb, hml, hr, hlk, hown, hts, hK, hnm, hN⟩ := C
  obtain ⟨r, ⟨hrr, hin, hty0, hnm0⟩, hk, hlink⟩ := hf
  obtain ⟨r', h1, cell, q1, q2, q3, q4⟩ := hR a _ hh
  have e1 : r' = r := Option.some.inj (h1.symm.trans hrr)
  subst e1
  have hfin' : (r'.2.1 kf).2.2.2 = true := by
    unfold qFin at hfin
    rw [hrr] at hfin
    exact hfin
  have hdecl : (r'.2.1 kf).1 = M.1.cls := by
    unfold qDecl at hdc
    rw [hrr] at hdc
    exact hdc
  have hap := va_apart (own := r'.1) (cl := vwCl) hts hin (qfty ci) hty0 hnm0 hK.1 hrr
  obtain ⟨hSl, hfc, kC, hkC, hkind⟩ := hK.1.1 ci _ hrr
  obtain ⟨cf, kf', fi, f, hi, hsl⟩ := hSl kf hk
  have hlay := hts _ (hin _ (u_in_lay hk))
  unfold u_lay at hlay
  rw [if_pos hfin'] at hlay
  have hst := (u_facts hfc hkC (u_lays hts hin hk) hi).1
  have hcf : m.cls = cf := by
    obtain ⟨_, _, c', _, _, _, -, -, hf', -, -, -, hown2, -⟩ := Cond.laysFinal_spec hlay
    have e1 : c' = cf := by have := hi.symm.trans hf'; simp at this; exact this.1.symm
    rw [hdecl] at hown2
    rw [← e1]; exact Option.some.inj (hown.symm.trans hown2)
  have h6 := u_fits hfc hkC hkind (Or.inr hlay) hi (by rw [hty0 kf hk, hty]) hn hfit
  have hl' : kf < fs.length := Nat.le_of_ble_eq_true hl
  refine W.putFinK hx hb hown (hts _ hlink) hi hst hcf (hnm.trans hini) (by rw [q2]; exact h6) q1 q3 (by rw [hsl]; exact k2_hasslot (q4 kf hk)) rfl rfl hd fun H' e1 e2 e3 => ?_
  rw [hsl] at e1 ⊢
  exact kk H' _ (hR.up (e := .inr (ci, fs.set kf v)) ⟨_, hrr, t_OB.to (V := updV (vp_V fs) kf v) ⟨_, e1, q2, q3, t_set q4 hap hk v⟩ (fun j _ => vp_updV_set hl' v j)⟩ e3) hL (hS.put e2 e3 ha)
theorem qp_new {index ci N : Nat} {fs : List Value} (hd : decode M.2.1 pc = .ok (.new index, 3)) (hc : qNw M.1.cls index ci N) (hfs : qNewFs ci N = fs) (hcells : cn + 1 ≤ M.2.2.2.2.cells) (hslots : sn + N ≤ M.2.2.2.2.slots)
    (k : ∀ a : Nat, G.2.1 ≤ a → h a = none → QP G M E Z (pc + 3) L (.ref a :: st) (qUp h a (.inr (ci, fs))) (cn + 1) (sn + N)) : QP G M E Z pc L st h cn sn := by
  intro p e s m args below meth c C hE H ls locs hR hL hS
  have kk := fun (H1 : Heap) => k H.size (Nat.le_trans C.2.2.2.2.2.2.2.2.2 hS.1) hR.fresh p e s m args below meth c C hE H1 ls locs
  obtain ⟨hx, hb, hml, hr, hlk, hown, hts, hK, hnm, hN⟩ := C
  obtain ⟨r, ⟨hrr, hin, hty0, hnm0⟩, rfl, hcl, hins, hini⟩ := hc
  have hKn := hK.1.1 ci _ hrr
  refine W.newcK hx hb hown (hts _ hcl) (hts _ hins) (hts _ hini) rfl hd hcells hslots hKn.2.1 rfl fun H1 kC hkC e1 z1 o1 => ?_
  refine kk H1 (hR.push (e := .inr (ci, fs)) ?_ o1) hL ⟨Nat.le_trans hS.1 (by omega), fun x h1 h2 => (o1 x (Nat.lt_of_lt_of_le h1 hS.1)).trans (hS.2.1 x h1 h2), hS.2.2⟩
  exact ⟨_, hrr, (u_born (qfty ci) hts hin hKn hkC e1 hty0).to (fun j hj => by
    rw [← hfs]
    simp [vp_V, qNewFs, hj])⟩

theorem qp_newaI {n : Int32} {N : Nat} (hd : decode M.2.1 pc = .ok (.newarray .int, 2)) (hw : Cond.arrayClass .int ∈ qT) (hn : ¬ n < 0) (hN : n.toNatClampNeg = N) (hbytes : N * componentBytes .int ≤ 536870912) (hcells : cn + 1 ≤ M.2.2.2.2.cells) (hslots : sn + N ≤ M.2.2.2.2.slots)
    (k : ∀ a : Nat, G.2.1 ≤ a → h a = none → QP G M E Z (pc + 2) L (.ref a :: st) (qUp h a (.inl (0, N, .inl (fun _ => 0)))) (cn + 1) (sn + N)) : QP G M E Z pc L (.int n :: st) h cn sn := by
  intro p e s m args below meth c C hE H ls locs hR hL hS
  have kk := fun (H1 : Heap) => k H.size (Nat.le_trans C.2.2.2.2.2.2.2.2.2 hS.1) hR.fresh p e s m args below meth c C hE H1 ls locs
  obtain ⟨hx, hb, hml, hr, hlk, hown, hts, hK, hnm, hN0⟩ := C
  refine va_newaK hx hb (atype := .int) (hts _ hw) rfl hd rfl hn hN hbytes hcells hslots rfl fun H1 cA e1 z1 o1 hAr hNm => ?_
  have hcA : cA = G.2.2.2 0 := Option.some.inj (hNm.symm.trans (hK.2.1 0).2)
  subst hcA
  exact kk H1 (hR.push (e := .inl (0, N, .inl (fun _ => 0))) e1 o1) hL ⟨Nat.le_trans hS.1 (by omega), fun x h1 h2 => (o1 x (Nat.lt_of_lt_of_le h1 hS.1)).trans (hS.2.1 x h1 h2), hS.2.2⟩
theorem qp_newaB {n : Int32} {N : Nat} (hd : decode M.2.1 pc = .ok (.newarray .byte, 2)) (hw : Cond.arrayClass .byte ∈ qT) (hn : ¬ n < 0) (hN : n.toNatClampNeg = N) (hbytes : N * componentBytes .byte ≤ 536870912) (hcells : cn + 1 ≤ M.2.2.2.2.cells) (hslots : sn + N ≤ M.2.2.2.2.slots)
    (k : ∀ a : Nat, G.2.1 ≤ a → h a = none → QP G M E Z (pc + 2) L (.ref a :: st) (qUp h a (.inl (1, N, .inl (fun _ => 0)))) (cn + 1) (sn + N)) : QP G M E Z pc L (.int n :: st) h cn sn := by
  intro p e s m args below meth c C hE H ls locs hR hL hS
  have kk := fun (H1 : Heap) => k H.size (Nat.le_trans C.2.2.2.2.2.2.2.2.2 hS.1) hR.fresh p e s m args below meth c C hE H1 ls locs
  obtain ⟨hx, hb, hml, hr, hlk, hown, hts, hK, hnm, hN0⟩ := C
  refine va_newaK hx hb (atype := .byte) (hts _ hw) rfl hd rfl hn hN hbytes hcells hslots rfl fun H1 cA e1 z1 o1 hAr hNm => ?_
  have hcA : cA = G.2.2.2 1 := Option.some.inj (hNm.symm.trans (hK.2.1 1).2)
  subst hcA
  exact kk H1 (hR.push (e := .inl (1, N, .inl (fun _ => 0))) e1 o1) hL ⟨Nat.le_trans hS.1 (by omega), fun x h1 h2 => (o1 x (Nat.lt_of_lt_of_le h1 hS.1)).trans (hS.2.1 x h1 h2), hS.2.2⟩
theorem qp_newaL {n : Int32} {N : Nat} (hd : decode M.2.1 pc = .ok (.newarray .long, 2)) (hw : Cond.arrayClass .long ∈ qT) (hn : ¬ n < 0) (hN : n.toNatClampNeg = N) (hbytes : N * componentBytes .long ≤ 536870912) (hcells : cn + 1 ≤ M.2.2.2.2.cells) (hslots : sn + N ≤ M.2.2.2.2.slots)
    (k : ∀ a : Nat, G.2.1 ≤ a → h a = none → QP G M E Z (pc + 2) L (.ref a :: st) (qUp h a (.inl (2, N, .inr (.inl (fun _ => 0))))) (cn + 1) (sn + N)) : QP G M E Z pc L (.int n :: st) h cn sn := by
  intro p e s m args below meth c C hE H ls locs hR hL hS
  have kk := fun (H1 : Heap) => k H.size (Nat.le_trans C.2.2.2.2.2.2.2.2.2 hS.1) hR.fresh p e s m args below meth c C hE H1 ls locs
  obtain ⟨hx, hb, hml, hr, hlk, hown, hts, hK, hnm, hN0⟩ := C
  refine va_newaK hx hb (atype := .long) (hts _ hw) rfl hd rfl hn hN hbytes hcells hslots rfl fun H1 cA e1 z1 o1 hAr hNm => ?_
  have hcA : cA = G.2.2.2 2 := Option.some.inj (hNm.symm.trans (hK.2.1 2).2)
  subst hcA
  exact kk H1 (hR.push (e := .inl (2, N, .inr (.inl (fun _ => 0)))) e1 o1) hL ⟨Nat.le_trans hS.1 (by omega), fun x h1 h2 => (o1 x (Nat.lt_of_lt_of_le h1 hS.1)).trans (hS.2.1 x h1 h2), hS.2.2⟩
theorem qp_newq {index : Nat} {n : Int32} {N : Nat} (hd : decode M.2.1 pc = .ok (.anewarray index, 3)) (hw : Cond.classLink M.1.cls index RX0 ∈ qT) (ho : Cond.arrayOver (.object RX0) ∈ qN) (hn : ¬ n < 0) (hN : n.toNatClampNeg = N) (hbytes : N * 4 ≤ 536870912) (hcells : cn + 1 ≤ M.2.2.2.2.cells) (hslots : sn + N ≤ M.2.2.2.2.slots)
    (k : ∀ a : Nat, G.2.1 ≤ a → h a = none → QP G M E Z (pc + 3) L (.ref a :: st) (qUp h a (.inl (3, N, .inr (.inr (.inr (.inr (fun _ => none))))))) (cn + 1) (sn + N)) : QP G M E Z pc L (.int n :: st) h cn sn := by
  intro p e s m args below meth c C hE H ls locs hR hL hS
  have kk := fun (H1 : Heap) => k H.size (Nat.le_trans C.2.2.2.2.2.2.2.2.2 hS.1) hR.fresh p e s m args below meth c C hE H1 ls locs
  obtain ⟨hx, hb, hml, hr, hlk, hown, hts, hK, hnm, hN0⟩ := C
  subst hN
  refine W.anew hx hb hown (hts _ hw) (va_AO.use (hK.2.2 _ ho)) rfl hd rfl hn hbytes hcells hslots fun cA kA comp f1 f2 f3 f4 => ?_
  obtain ⟨_, _, _, _, _, h9⟩ := (hK.2.1 3).2
  have hcA : cA = G.2.2.2 3 := Option.some.inj (f1.symm.trans h9)
  subst hcA
  generalize hH1 : H.push ({ cls := G.2.2.2 3, slots := Array.replicate n.toNatClampNeg .null, vm := .none } : Cell) = H1
  have z1 : H1.size = H.size + 1 := by rw [← hH1, Array.size_push]
  have e1 : H1[H.size]? = some (arrV (G.2.2.2 3) n.toNatClampNeg (fun _ => .null)) := by rw [← hH1, Array.getElem?_push_size, ← arrV_new]
  have o1 : ∀ q : Nat, q < H.size → H1[q]? = H[q]? := fun q hq => by rw [← hH1, Array.getElem?_push, if_neg (Nat.ne_of_lt hq)]
  exact kk H1 (hR.push (e := .inl (3, n.toNatClampNeg, .inr (.inr (.inr (.inr (fun _ => none)))))) e1 o1) hL ⟨Nat.le_trans hS.1 (by omega), fun x h1 h2 => (o1 x (Nat.lt_of_lt_of_le h1 hS.1)).trans (hS.2.1 x h1 h2), hS.2.2⟩
theorem qin {i : Int32} {n : Nat} (h : vp_in i n) : i.toNatClampNeg < n := Nat.not_le.mp fun q => h (Or.inr q)
theorem qp_iald {a n : Nat} {f : Nat → Int32} {i : Int32} (hd : decode M.2.1 pc = .ok (.iaload, 1)) (hh : h a = some (.inl (0, n, .inl f))) (hin : vp_in i n) (k : QP G M E Z (pc + 1) L (.int (f i.toNatClampNeg) :: st) h cn sn) : QP G M E Z pc L (.int i :: .ref a :: st) h cn sn := by
  intro p e s m args below meth c C hE H ls locs hR hL hS
  have kk := k p e s m args below meth c C hE H ls locs hR hL hS
  obtain ⟨hx, hb, hml, hr, hlk, hown, hts, hK, hnm, hN⟩ := C
  have hcl : H[a]? = some (vp_cell (G.2.2.2 0) (n, .inl f)) := hR a _ hh
  exact W.iald (v := .int (f i.toNatClampNeg)) hx hb hcl ((hK.2.1 0).1 n (fun j => .int (f j))) (fun q => by cases q) (by show ¬ (i < 0 ∨ (arrV _ _ _).slots.size ≤ _); rw [arrV_size]; exact hin) (by show (arrV _ _ _).slots[_]? = _; rw [arrV_read _ _ (qin hin)]) rfl rfl hd kk
theorem qp_ialdN {a n : Nat} {f : Nat → Int32} {i : Int32} (j : Nat) (hd : decode M.2.1 pc = .ok (.iaload, 1)) (hh : h a = some (.inl (0, n, .inl f))) (hi : i = nI j) (hj : j < n) (hn : n < 2147483648) (k : QP G M E Z (pc + 1) L (.int (f j) :: st) h cn sn) : QP G M E Z pc L (.int i :: .ref a :: st) h cn sn := by
  subst hi
  refine qp_iald hd hh (vp_in_nI hj hn) ?_
  rw [nI_clamp (by omega)]
  exact k
theorem qp_bald {a n : Nat} {f : Nat → Int32} {i : Int32} (hd : decode M.2.1 pc = .ok (.baload, 1)) (hh : h a = some (.inl (1, n, .inl f))) (hin : vp_in i n) (k : QP G M E Z (pc + 1) L (.int (f i.toNatClampNeg) :: st) h cn sn) : QP G M E Z pc L (.int i :: .ref a :: st) h cn sn := by
  intro p e s m args below meth c C hE H ls locs hR hL hS
  have kk := k p e s m args below meth c C hE H ls locs hR hL hS
  obtain ⟨hx, hb, hml, hr, hlk, hown, hts, hK, hnm, hN⟩ := C
  have hcl : H[a]? = some (vp_cell (G.2.2.2 1) (n, .inl f)) := hR a _ hh
  exact W.bald (v := .int (f i.toNatClampNeg)) hx hb hcl ((hK.2.1 1).1 n (fun j => .int (f j))) (fun q => by cases q) (by show ¬ (i < 0 ∨ (arrV _ _ _).slots.size ≤ _); rw [arrV_size]; exact hin) (by show (arrV _ _ _).slots[_]? = _; rw [arrV_read _ _ (qin hin)]) rfl rfl hd kk
theorem qp_baldN {a n : Nat} {f : Nat → Int32} {i : Int32} (j : Nat) (hd : decode M.2.1 pc = .ok (.baload, 1)) (hh : h a = some (.inl (1, n, .inl f))) (hi : i = nI j) (hj : j < n) (hn : n < 2147483648) (k : QP G M E Z (pc + 1) L (.int (f j) :: st) h cn sn) : QP G M E Z pc L (.int i :: .ref a :: st) h cn sn := by
  subst hi
  refine qp_bald hd hh (vp_in_nI hj hn) ?_
  rw [nI_clamp (by omega)]
  exact k
theorem qp_lald {a n : Nat} {f : Nat → Int64} {i : Int32} (hd : decode M.2.1 pc = .ok (.laload, 1)) (hh : h a = some (.inl (2, n, .inr (.inl f)))) (hin : vp_in i n) (k : QP G M E Z (pc + 1) L (.long (f i.toNatClampNeg) :: st) h cn sn) : QP G M E Z pc L (.int i :: .ref a :: st) h cn sn := by
  intro p e s m args below meth c C hE H ls locs hR hL hS
  have kk := k p e s m args below meth c C hE H ls locs hR hL hS
  obtain ⟨hx, hb, hml, hr, hlk, hown, hts, hK, hnm, hN⟩ := C
  have hcl : H[a]? = some (vp_cell (G.2.2.2 2) (n, .inr (.inl f))) := hR a _ hh
  exact W.lald (v := .long (f i.toNatClampNeg)) hx hb hcl ((hK.2.1 2).1 n (fun j => .long (f j))) (fun q => by cases q) (by show ¬ (i < 0 ∨ (arrV _ _ _).slots.size ≤ _); rw [arrV_size]; exact hin) (by show (arrV _ _ _).slots[_]? = _; rw [arrV_read _ _ (qin hin)]) rfl rfl hd kk
theorem qp_laldN {a n : Nat} {f : Nat → Int64} {i : Int32} (j : Nat) (hd : decode M.2.1 pc = .ok (.laload, 1)) (hh : h a = some (.inl (2, n, .inr (.inl f)))) (hi : i = nI j) (hj : j < n) (hn : n < 2147483648) (k : QP G M E Z (pc + 1) L (.long (f j) :: st) h cn sn) : QP G M E Z pc L (.int i :: .ref a :: st) h cn sn := by
  subst hi
  refine qp_lald hd hh (vp_in_nI hj hn) ?_
  rw [nI_clamp (by omega)]
  exact k
theorem qp_aald {a n : Nat} {f : Nat → Option Nat} {i : Int32} (hd : decode M.2.1 pc = .ok (.aaload, 1)) (hh : h a = some (.inl (3, n, .inr (.inr (.inr (.inr f)))))) (hin : vp_in i n) (k : QP G M E Z (pc + 1) L (va_rf (f i.toNatClampNeg) :: st) h cn sn) : QP G M E Z pc L (.int i :: .ref a :: st) h cn sn := by
  intro p e s m args below meth c C hE H ls locs hR hL hS
  have kk := k p e s m args below meth c C hE H ls locs hR hL hS
  obtain ⟨hx, hb, hml, hr, hlk, hown, hts, hK, hnm, hN⟩ := C
  have hcl : H[a]? = some (vp_cell (G.2.2.2 3) (n, .inr (.inr (.inr (.inr f))))) := hR a _ hh
  exact W.aald (v := va_rf (f i.toNatClampNeg)) (ty := .object RX0) hx hb hcl ((hK.2.1 3).1 n (fun j => va_rf (f j))) rfl (fun q => by cases q) (by show ¬ (i < 0 ∨ (arrV _ _ _).slots.size ≤ _); rw [arrV_size]; exact hin) (by show (arrV _ _ _).slots[_]? = _; rw [arrV_read _ _ (qin hin)]) rfl rfl hd kk
theorem qp_aaldN {a n : Nat} {f : Nat → Option Nat} {i : Int32} (j : Nat) (hd : decode M.2.1 pc = .ok (.aaload, 1)) (hh : h a = some (.inl (3, n, .inr (.inr (.inr (.inr f)))))) (hi : i = nI j) (hj : j < n) (hn : n < 2147483648) (k : QP G M E Z (pc + 1) L (va_rf (f j) :: st) h cn sn) : QP G M E Z pc L (.int i :: .ref a :: st) h cn sn := by
  subst hi
  refine qp_aald hd hh (vp_in_nI hj hn) ?_
  rw [nI_clamp (by omega)]
  exact k
theorem qp_iast {a n : Nat} {f : Nat → Int32} {i : Int32} {x : Int32} (hd : decode M.2.1 pc = .ok (.iastore, 1)) (hh : h a = some (.inl (0, n, .inl f))) (ha : G.2.1 ≤ a) (hin : vp_in i n) (k : QP G M E Z (pc + 1) L st (qUp h a (.inl (0, n, .inl (upd f i.toNatClampNeg x)))) cn sn) : QP G M E Z pc L (.int x :: .int i :: .ref a :: st) h cn sn := by
  intro p e s m args below meth c C hE H ls locs hR hL hS
  have kk := fun (H1 : Heap) (locs1 : List Loc) => k p e s m args below meth c C hE H1 ls locs1
  obtain ⟨hx, hb, hml, hr, hlk, hown, hts, hK, hnm, hN⟩ := C
  have hcl : H[a]? = some (vp_cell (G.2.2.2 0) (n, .inl f)) := hR a _ hh
  refine W.iast hx hb hcl ((hK.2.1 0).1 n (fun j => .int (f j))) (fun q => by cases q) (by show ¬ (i < 0 ∨ (arrV _ _ _).slots.size ≤ _); rw [arrV_size]; exact hin) rfl rfl hd fun H1 e1 z oq => ?_
  refine kk H1 _ (hR.up (e := .inl (0, n, .inl (upd f i.toNatClampNeg x))) ?_ oq) hL (hS.put z oq ha)
  show H1[a]? = some (vp_cell _ _)
  rw [e1]
  rw [vp_cell_i, vp_cell_i, arrV_store]
  congr 2
  funext q
  by_cases hq : q = i.toNatClampNeg
  · subst hq
    simp [updV, upd]
  · simp [updV, upd, hq]
theorem qp_iastN {a n : Nat} {f : Nat → Int32} {i : Int32} {x : Int32} (j : Nat) (hd : decode M.2.1 pc = .ok (.iastore, 1)) (hh : h a = some (.inl (0, n, .inl f))) (ha : G.2.1 ≤ a) (hi : i = nI j) (hj : j < n) (hn : n < 2147483648) (k : QP G M E Z (pc + 1) L st (qUp h a (.inl (0, n, .inl (upd f j x)))) cn sn) : QP G M E Z pc L (.int x :: .int i :: .ref a :: st) h cn sn := by
  subst hi
  refine qp_iast hd hh ha (vp_in_nI hj hn) ?_
  rw [nI_clamp (by omega)]
  exact k
theorem qp_bast {a n : Nat} {f : Nat → Int32} {i : Int32} {x : Int32} (hd : decode M.2.1 pc = .ok (.bastore, 1)) (hh : h a = some (.inl (1, n, .inl f))) (ha : G.2.1 ≤ a) (hin : vp_in i n) (k : QP G M E Z (pc + 1) L st (qUp h a (.inl (1, n, .inl (upd f i.toNatClampNeg (vp_nar .byte x))))) cn sn) : QP G M E Z pc L (.int x :: .int i :: .ref a :: st) h cn sn := by
  intro p e s m args below meth c C hE H ls locs hR hL hS
  have kk := fun (H1 : Heap) (locs1 : List Loc) => k p e s m args below meth c C hE H1 ls locs1
  obtain ⟨hx, hb, hml, hr, hlk, hown, hts, hK, hnm, hN⟩ := C
  have hcl : H[a]? = some (vp_cell (G.2.2.2 1) (n, .inl f)) := hR a _ hh
  refine W.bast hx hb hcl ((hK.2.1 1).1 n (fun j => .int (f j))) (fun q => by cases q) (by show ¬ (i < 0 ∨ (arrV _ _ _).slots.size ≤ _); rw [arrV_size]; exact hin) rfl rfl hd fun H1 e1 z oq => ?_
  refine kk H1 _ (hR.up (e := .inl (1, n, .inl (upd f i.toNatClampNeg (vp_nar .byte x)))) ?_ oq) hL (hS.put z oq ha)
  show H1[a]? = some (vp_cell _ _)
  rw [e1]
  rw [vp_cell_i, vp_cell_i, arrV_store]
  congr 2
  funext q
  by_cases hq : q = i.toNatClampNeg
  · subst hq
    simp [updV, upd, vp_nar, narrow]
  · simp [updV, upd, hq]
theorem qp_bastN {a n : Nat} {f : Nat → Int32} {i : Int32} {x : Int32} (j : Nat) (hd : decode M.2.1 pc = .ok (.bastore, 1)) (hh : h a = some (.inl (1, n, .inl f))) (ha : G.2.1 ≤ a) (hi : i = nI j) (hj : j < n) (hn : n < 2147483648) (k : QP G M E Z (pc + 1) L st (qUp h a (.inl (1, n, .inl (upd f j (vp_nar .byte x))))) cn sn) : QP G M E Z pc L (.int x :: .int i :: .ref a :: st) h cn sn := by
  subst hi
  refine qp_bast hd hh ha (vp_in_nI hj hn) ?_
  rw [nI_clamp (by omega)]
  exact k
theorem qp_last {a n : Nat} {f : Nat → Int64} {i : Int32} {x : Int64} (hd : decode M.2.1 pc = .ok (.lastore, 1)) (hh : h a = some (.inl (2, n, .inr (.inl f)))) (ha : G.2.1 ≤ a) (hin : vp_in i n) (k : QP G M E Z (pc + 1) L st (qUp h a (.inl (2, n, .inr (.inl (vp_updL f i.toNatClampNeg x))))) cn sn) : QP G M E Z pc L (.long x :: .int i :: .ref a :: st) h cn sn := by
  intro p e s m args below meth c C hE H ls locs hR hL hS
  have kk := fun (H1 : Heap) (locs1 : List Loc) => k p e s m args below meth c C hE H1 ls locs1
  obtain ⟨hx, hb, hml, hr, hlk, hown, hts, hK, hnm, hN⟩ := C
  have hcl : H[a]? = some (vp_cell (G.2.2.2 2) (n, .inr (.inl f))) := hR a _ hh
  refine W.last hx hb hcl ((hK.2.1 2).1 n (fun j => .long (f j))) (fun q => by cases q) (by show ¬ (i < 0 ∨ (arrV _ _ _).slots.size ≤ _); rw [arrV_size]; exact hin) rfl rfl hd fun H1 e1 z oq => ?_
  refine kk H1 _ (hR.up (e := .inl (2, n, .inr (.inl (vp_updL f i.toNatClampNeg x)))) ?_ oq) hL (hS.put z oq ha)
  show H1[a]? = some (vp_cell _ _)
  rw [e1]
  rw [vp_cell_l, vp_cell_l, arrV_store]
  congr 2
  funext q
  by_cases hq : q = i.toNatClampNeg
  · subst hq
    simp [updV, vp_updL]
  · simp [updV, vp_updL, hq]
theorem qp_lastN {a n : Nat} {f : Nat → Int64} {i : Int32} {x : Int64} (j : Nat) (hd : decode M.2.1 pc = .ok (.lastore, 1)) (hh : h a = some (.inl (2, n, .inr (.inl f)))) (ha : G.2.1 ≤ a) (hi : i = nI j) (hj : j < n) (hn : n < 2147483648) (k : QP G M E Z (pc + 1) L st (qUp h a (.inl (2, n, .inr (.inl (vp_updL f j x))))) cn sn) : QP G M E Z pc L (.long x :: .int i :: .ref a :: st) h cn sn := by
  subst hi
  refine qp_last hd hh ha (vp_in_nI hj hn) ?_
  rw [nI_clamp (by omega)]
  exact k
theorem qp_aast {a n v : Nat} {fs : List Value} {f : Nat → Option Nat} {i : Int32} (hd : decode M.2.1 pc = .ok (.aastore, 1)) (hh : h a = some (.inl (3, n, .inr (.inr (.inr (.inr f)))))) (hv : h v = some (.inr (1, fs))) (ha : G.2.1 ≤ a) (hin : vp_in i n) (k : QP G M E Z (pc + 1) L st (qUp h a (.inl (3, n, .inr (.inr (.inr (.inr (va_up f i.toNatClampNeg (some v)))))))) cn sn) : QP G M E Z pc L (.ref v :: .int i :: .ref a :: st) h cn sn := by
  intro p e s m args below meth c C hE H ls locs hR hL hS
  have kk := fun (H1 : Heap) (locs1 : List Loc) => k p e s m args below meth c C hE H1 ls locs1
  obtain ⟨hx, hb, hml, hr, hlk, hown, hts, hK, hnm, hN⟩ := C
  have hcl : H[a]? = some (vp_cell (G.2.2.2 3) (n, .inr (.inr (.inr (.inr f))))) := hR a _ hh
  have hlt := qin hin
  have h0 : ¬ i < 0 := fun q => hin (Or.inl q)
  obtain ⟨r', hr', cellV, g1, g2, g3, -⟩ := hR v _ hv
  have hcls := (hK.1.1 1 (RX0, TX0, 13) rfl).2
  obtain ⟨kA, comp, k1, k2, k3, -⟩ := (hK.2.1 3).2
  have hcomp : comp = G.2.2.1.1 1 := Option.some.inj (k3.symm.trans hcls.1)
  subst hcomp
  obtain ⟨kC, hkC, -⟩ := hcls.2
  refine W.aast hx hb hcl (fun q h => by cases h) (fun h => by cases h) k1 k2 rfl hkC ⟨h0, by show _ < (arrV _ _ _).slots.size; rw [arrV_size]; exact hlt⟩ g1 (fun q h => by rw [g3] at h; cases h) (by rw [g2]; exact hkC) (by rw [g2]; exact va_assign hcls) rfl rfl hd fun H1 e1 z oq => ?_
  refine kk H1 _ (hR.up (e := .inl (3, n, .inr (.inr (.inr (.inr (va_up f i.toNatClampNeg (some v))))))) ?_ oq) hL (hS.put z oq ha)
  show H1[a]? = some (vp_cell _ _)
  rw [e1]
  rw [vp_cell_q, vp_cell_q, arrV_store]
  congr 2
  funext q
  by_cases hq : q = i.toNatClampNeg
  · subst hq
    simp [updV, va_up, va_rf]
  · simp [updV, va_up, hq]
theorem qp_aastNull {a n : Nat} {f : Nat → Option Nat} {i : Int32} (hd : decode M.2.1 pc = .ok (.aastore, 1)) (hh : h a = some (.inl (3, n, .inr (.inr (.inr (.inr f)))))) (ha : G.2.1 ≤ a) (hin : vp_in i n) (k : QP G M E Z (pc + 1) L st (qUp h a (.inl (3, n, .inr (.inr (.inr (.inr (va_up f i.toNatClampNeg none))))))) cn sn) : QP G M E Z pc L (.null :: .int i :: .ref a :: st) h cn sn := by
  intro p e s m args below meth c C hE H ls locs hR hL hS
  have kk := fun (H1 : Heap) (locs1 : List Loc) => k p e s m args below meth c C hE H1 ls locs1
  obtain ⟨hx, hb, hml, hr, hlk, hown, hts, hK, hnm, hN⟩ := C
  have hcl : H[a]? = some (vp_cell (G.2.2.2 3) (n, .inr (.inr (.inr (.inr f))))) := hR a _ hh
  refine va_WaastN (C := RX0) hx hb hcl ((hK.2.1 3).1 n (fun j => va_rf (f j))) (fun h => by cases h) (by show ¬ (i < 0 ∨ (arrV _ _ _).slots.size ≤ _); rw [arrV_size]; exact hin) rfl rfl hd fun H1 e1 z oq => ?_
  refine kk H1 _ (hR.up (e := .inl (3, n, .inr (.inr (.inr (.inr (va_up f i.toNatClampNeg none)))))) ?_ oq) hL (hS.put z oq ha)
  show H1[a]? = some (vp_cell _ _)
  rw [e1]
  rw [vp_cell_q, vp_cell_q, arrV_store]
  congr 2
  funext q
  by_cases hq : q = i.toNatClampNeg
  · subst hq
    simp [updV, va_up, va_rf]
  · simp [updV, va_up, hq]
theorem qp_alen {a t : Nat} {x : vp_A} {v : Int32} (hd : decode M.2.1 pc = .ok (.arraylength, 1)) (hh : h a = some (.inl (t, x))) (hv : Int32.ofNat x.1 = v) (k : QP G M E Z (pc + 1) L (.int v :: st) h cn sn) : QP G M E Z pc L (.ref a :: st) h cn sn := by
  intro p e s m args below meth c C hE H ls locs hR hL hS
  have kk := k p e s m args below meth c C hE H ls locs hR hL hS
  obtain ⟨hx, hb, hml, hr, hlk, hown, hts, hK, hnm, hN⟩ := C
  subst hv
  obtain ⟨n, f | f | f | f | f⟩ := x
  · exact W.alen (n := Int32.ofNat n) hx hb (hR a _ hh) ((hK.2.1 t).1 n (fun j => .int (f j))) (by rw [vp_cell_i, arrV_size] <;> rfl) rfl rfl hd kk
  · exact W.alen (n := Int32.ofNat n) hx hb (hR a _ hh) ((hK.2.1 t).1 n (fun j => .long (f j))) (by rw [vp_cell_l, arrV_size] <;> rfl) rfl rfl hd kk
  · exact W.alen (n := Int32.ofNat n) hx hb (hR a _ hh) ((hK.2.1 t).1 n (fun j => .float (f j))) (by rw [vp_cell_f, arrV_size] <;> rfl) rfl rfl hd kk
  · exact W.alen (n := Int32.ofNat n) hx hb (hR a _ hh) ((hK.2.1 t).1 n (fun j => .double (f j))) (by rw [vp_cell_d, arrV_size] <;> rfl) rfl rfl hd kk
  · exact W.alen (n := Int32.ofNat n) hx hb (hR a _ hh) ((hK.2.1 t).1 n (fun j => va_rf (f j))) (by rw [vp_cell_q, arrV_size] <;> rfl) rfl rfl hd kk
theorem qp_objInit {index a : Nat} (hd : decode M.2.1 pc = .ok (.invokespecial index, 3)) (hlk : Cond.methodLink M.1.cls index objectInit ∈ qT) (hin : Cond.instanceMethod objectInit ∈ qT) (hcd : Cond.code objectInit ⟨#[0xb1]⟩ 1 none ∈ qT) (hst : (st.map fun v => v.category).sum + 12 ≤ M.2.2.2.2.locals) (hfr : 1 ≤ M.2.2.2.2.frames) (k : QP G M E Z (pc + 3) L st h cn sn) : QP G M E Z pc L (.ref a :: st) h cn sn := by
  intro p e s m args below meth c C hE H ls locs hR hL hS
  have kk := k p e s m args below meth c C hE H ls locs hR hL hS
  obtain ⟨hx, hb, hml, hr, hlk2, hown, hts, hK, hnm, hN⟩ := C
  exact W.objInit hx hb hown (hts _ hlk) (hts _ hin) (hts _ hcd) rfl (by rw [hml]; exact hL.1) rfl hd hfr (by show 2 * 0 + _ + 12 ≤ _; omega) kk

/-- behind a call -/
theorem qgo {M' : qM} {Q' : Option Value → qH → Prop} {av : Array Value} {st0 : List Value} {p : Program} {e : Env} {s : State} {m : MethodId} {args : Array Value} {below : List Frame} {meth : Method} {c : Code} {H : Heap} {ls : Array Slot} {locs : List Loc} (C : qC G M p s m args meth c) (hE : E args s) (hL : qL ls M.2.2.1 L) (hS : va_S (fun q : Nat => G.2.1 ≤ q) s.heap H locs)
    (hrun : va_Run p G.1 e M.2.2.2.2 s m args below meth c H locs cn sn M'.2.2.2.2.cells M'.2.2.2.2.slots (F0 m pc ls st0) st (qQc G Q' av) (fun q => G.2.1 ≤ q))
    (k : ∀ (r : Option Value) (h' : qH), Q' r h' → QP G M E Z (pc + 3) L (r.toList ++ st) h' (cn + M'.2.2.2.2.cells) (sn + M'.2.2.2.2.slots)) : W p G.1 e M.2.2.2.2 s m args below meth c H locs cn sn (Z below args s) (F0 m pc ls st0) := by
  intro T hT X
  obtain ⟨v, st₀, t, T', Ls, h0, X', hLs, e1, e2, ⟨r, h', hv, hq, hrep, hsz, hkeep⟩, stp⟩ := hrun T hT X
  cases hv
  rw [h0] at hsz hkeep
  obtain ⟨t2, a1, b1⟩ := k v h' hq p e s m args below meth c C hE T'.heap ls (locs ++ Ls) (by rw [e1]; exact hrep) hL ⟨Nat.le_trans hS.1 (by rw [e1]; exact hsz), fun q h1 h2 => by rw [e1, hkeep q (Nat.not_le.mp h2)]; exact hS.2.1 q h1 h2, fun q hq => by
    rcases List.mem_append.mp hq with h | h
    · exact hS.2.2 q h
    · exact hLs q h⟩ T' rfl X'
  exact ⟨t2, stp t2 a1, b1⟩
theorem qpre {s U : State} {H : Heap} {av : List Value} (hR : qRep G h H) (hK : qK G s) (hN : G.2.1 ≤ H.size) (hU : U.heap = H) (hW : s.WarmedH U.vm) : qPc G av h av.toArray U := ⟨rfl, by rw [hU]; exact hR, hK.warm hW, by rw [hU]; exact hN⟩
theorem qp_callV {index ci b n : Nat} {fs As st0 : List Value} {M' : qM} {Q' : Option Value → qH → Prop} (hd : decode M.2.1 pc = .ok (.invokevirtual index, 3)) (hlk : qLkV M.1.cls index M' n) (hrm : qRm M M') (hm : qMet G M' (.ref b :: As) h Q') (hh : h b = some (.inr (ci, fs))) (hcl : (vwCl[ci]?).map (fun r => r.1) = some M'.1.cls) (hst : st0 = As.reverse ++ .ref b :: st) (hn : As.length = n) (hW : (st.map fun v => v.category).sum ≤ 8) (hc : cn + M'.2.2.2.2.cells ≤ M.2.2.2.2.cells) (hs : sn + M'.2.2.2.2.slots ≤ M.2.2.2.2.slots)
    (k : ∀ (r : Option Value) (h' : qH), Q' r h' → QP G M E Z (pc + 3) L (r.toList ++ st) h' (cn + M'.2.2.2.2.cells) (sn + M'.2.2.2.2.slots)) : QP G M E Z pc L st0 h cn sn := by
  intro p e s m args below meth c C hE H ls locs hR hL hS
  obtain ⟨hx, hb, hml, hr, hlks, hown, hts, hK, hnm, hN⟩ := id C
  obtain ⟨⟨k1, k2, k3, k4⟩, k5, k6, k7⟩ := hlk
  have hlen : ∀ sig, parseMethodDescriptor M'.1.desc = some sig → n = sig.parameters.length := fun sig hsg => by
    rw [hsg] at k4
    exact (Option.some.inj k4).symm
  have hrecv : ∃ cellB : Cell, H[b]? = some cellB ∧ cellB.vm.isStatics = false ∧ s.vm.findClass M'.1.cls = some cellB.cls := by
    obtain ⟨r', h1, cell, q1, q2, q3, -⟩ := hR b _ hh
    have h1' : vwCl[ci]? = some r' := h1
    rw [h1'] at hcl
    have e1 : r'.1 = M'.1.cls := Option.some.inj hcl
    exact ⟨cell, q1, by rw [q3]; rfl, by rw [q2, ← e1]; exact (hK.1.1 ci r' h1').2.1⟩
  have hp : PreV s H M'.1.cls b (qPc G (.ref b :: As) h) As := ⟨qPc.blind, hrecv, fun U hU hW => qpre hR hK (Nat.le_trans hN hS.1) hU hW⟩
  have hws := pay_in hts (qGood k1)
  subst hst
  rcases k7 with k7 | ⟨host, k7⟩
  · exact qgo C hE hL hS (va_runV (n := n) (Ts := qT) (own := M.1.cls) ⟨hx, hb, hml, hown, hts⟩ hm ⟨⟨rfl, rfl, hrm.1, hrm.2, hws, List.mem_cons_self, hts _ k1, hts _ k2, k3, hlen, hts _ k7⟩, hts _ k5, hts _ k6⟩ hp rfl hn hL.1 rfl (lv_room hW) hd ⟨hc, hs⟩) k
  · exact qgo C hE hL hS (va_runVN (n := n) (Ts := qT) (own := M.1.cls) (host := host) ⟨hx, hb, hml, hown, hts⟩ hm ⟨⟨⟨rfl, rfl, hrm.1, hrm.2, hws, List.mem_cons_self⟩, hts _ k1, hts _ k2, k3, hlen, va_Nw.use rfl (hK.2.2 _ k7)⟩, hts _ k5, hts _ k6⟩ hp rfl hn hL.1 rfl (lv_room hW) hd ⟨hc, hs⟩) k
theorem qp_callS {index n : Nat} {As st0 : List Value} {M' : qM} {Q' : Option Value → qH → Prop} (hd : decode M.2.1 pc = .ok (.invokestatic index, 3)) (hlk : qLkS M.1.cls index M' n) (hrm : qRm M M') (hm : qMet G M' As h Q') (hst : st0 = As.reverse ++ st) (hn : As.length = n) (hW : (st.map fun v => v.category).sum ≤ 8) (hc : cn + M'.2.2.2.2.cells ≤ M.2.2.2.2.cells) (hs : sn + M'.2.2.2.2.slots ≤ M.2.2.2.2.slots)
    (k : ∀ (r : Option Value) (h' : qH), Q' r h' → QP G M E Z (pc + 3) L (r.toList ++ st) h' (cn + M'.2.2.2.2.cells) (sn + M'.2.2.2.2.slots)) : QP G M E Z pc L st0 h cn sn := by
  intro p e s m args below meth c C hE H ls locs hR hL hS
  obtain ⟨hx, hb, hml, hr, hlks, hown, hts, hK, hnm, hN⟩ := id C
  obtain ⟨⟨k1, k2, k3, k4⟩, k5, k7⟩ := hlk
  have hlen : ∀ sig, parseMethodDescriptor M'.1.desc = some sig → n = sig.parameters.length := fun sig hsg => by
    rw [hsg] at k4
    exact (Option.some.inj k4).symm
  have hp : PreS s H (qPc G As h) As := ⟨qPc.blind, fun U hU hW => qpre hR hK (Nat.le_trans hN hS.1) hU hW⟩
  have hws := pay_in hts (qGood k1)
  subst hst
  rcases k7 with k7 | ⟨host, k7⟩
  · exact qgo C hE hL hS (va_runS (n := n) (Ts := qT) (own := M.1.cls) ⟨hx, hb, hml, hown, hts⟩ hm ⟨⟨rfl, rfl, hrm.1, hrm.2, hws, List.mem_cons_self, hts _ k1, hts _ k2, k3, hlen, hts _ k7⟩, hts _ k5⟩ hp rfl hn hL.1 rfl (lv_room hW) hd ⟨hc, hs⟩) k
  · exact qgo C hE hL hS (va_runSN (n := n) (Ts := qT) (own := M.1.cls) (host := host) ⟨hx, hb, hml, hown, hts⟩ hm ⟨⟨⟨rfl, rfl, hrm.1, hrm.2, hws, List.mem_cons_self⟩, hts _ k1, hts _ k2, k3, hlen, va_Nw.use rfl (hK.2.2 _ k7)⟩, hts _ k5, trivial⟩ hp rfl hn hL.1 rfl (lv_room hW) hd ⟨hc, hs⟩) k
theorem qp_callI {index b n : Nat} {As st0 : List Value} {M' : qM} {Q' : Option Value → qH → Prop} (hd : decode M.2.1 pc = .ok (.invokespecial index, 3)) (hlk : qLkI M.1.cls index M' n) (hrm : qRm M M') (hm : qMet G M' (.ref b :: As) h Q') (hst : st0 = As.reverse ++ .ref b :: st) (hn : As.length = n) (hW : (st.map fun v => v.category).sum ≤ 8) (hc : cn + M'.2.2.2.2.cells ≤ M.2.2.2.2.cells) (hs : sn + M'.2.2.2.2.slots ≤ M.2.2.2.2.slots)
    (k : ∀ (r : Option Value) (h' : qH), Q' r h' → QP G M E Z (pc + 3) L (r.toList ++ st) h' (cn + M'.2.2.2.2.cells) (sn + M'.2.2.2.2.slots)) : QP G M E Z pc L st0 h cn sn := by
  intro p e s m args below meth c C hE H ls locs hR hL hS
  obtain ⟨hx, hb, hml, hr, hlks, hown, hts, hK, hnm, hN⟩ := id C
  obtain ⟨⟨k1, k2, k3, k4⟩, k8, k9, k5, k7⟩ := hlk
  have hlen : ∀ sig, parseMethodDescriptor M'.1.desc = some sig → n = sig.parameters.length := fun sig hsg => by
    rw [hsg] at k4
    exact (Option.some.inj k4).symm
  have hp : PreS s H (qPc G (.ref b :: As) h) (.ref b :: As) := ⟨qPc.blind, fun U hU hW => qpre hR hK (Nat.le_trans hN hS.1) hU hW⟩
  have hws := pay_in hts (qGood k1)
  have hcw : Cond.code M'.1 M'.2.1 M'.2.2.1 none ∈ qWs M' := by rw [← k9]; exact List.mem_cons_self
  have hcd : (Cond.code M'.1 M'.2.1 M'.2.2.1 none).before args s = true := by rw [← k9]; exact hts _ k1
  subst hst
  rcases k7 with k7 | ⟨host, k7⟩
  · exact qgo C hE hL hS (va_runI (n := n) (Ts := qT) (own := M.1.cls) (bytes := M'.2.1) (maxL := M'.2.2.1) ⟨hx, hb, hml, hown, hts⟩ hm ⟨⟨rfl, rfl, hrm.1, hrm.2, hws, hcw, hcd, hts _ k2, k3, hlen, hts _ k7⟩, k8, hts _ k5⟩ hp rfl hn hL.1 rfl (lv_room hW) hd ⟨hc, hs⟩) k
  · exact qgo C hE hL hS (va_runIN (n := n) (Ts := qT) (own := M.1.cls) (host := host) (bytes := M'.2.1) (maxL := M'.2.2.1) ⟨hx, hb, hml, hown, hts⟩ hm ⟨⟨⟨rfl, rfl, hrm.1, hrm.2, hws, hcw⟩, hcd, hts _ k2, k3, hlen, va_Nw.use rfl (hK.2.2 _ k7)⟩, k8, hts _ k5⟩ hp rfl hn hL.1 rfl (lv_room hW) hd ⟨hc, hs⟩) k

variable {Q : Option Value → qH → Prop}
theorem qend {p : Program} {s : State} {m : MethodId} {args : Array Value} {meth : Method} {c : Code} {H : Heap} {locs : List Loc} {r : Option Value} (C : qC G M p s m args meth c) (hR : qRep G h H) (hS : va_S (fun q : Nat => G.2.1 ≤ q) s.heap H locs) (hq : Q r h) : ∀ t : State, t.heap = H → s.WarmedH t.vm → qQc G Q args s (.returned r) t :=
  fun t ht _ => ⟨r, h, rfl, hq, by rw [ht]; exact hR, by rw [ht]; exact hS.1, fun q hq => by rw [ht]; exact hS.2.1 q (Nat.lt_of_lt_of_le hq C.2.2.2.2.2.2.2.2.2) (Nat.not_le.mpr hq)⟩
theorem qp_iret {v : Int32} (hd : decode M.2.1 pc = .ok (.ireturn, 1)) (hrt : M.2.2.2.1 = some .int)  (hc : cn ≤ M.2.2.2.2.cells) (hs : sn ≤ M.2.2.2.2.slots) (hq : Q (some (.int v)) h) : QP G M E (qMZ G M Q) pc L [.int v] h cn sn := by
  intro p e s m args below meth c C hE H ls locs hR hL hS
  refine W.widen hc hs ?_
  exact W.iret C.1 C.2.1 (C.2.2.2.1.trans hrt) (qend C hR hS hq) hS.2.2 hd C.2.2.2.2.1
theorem qp_zret {v : Int32} (hd : decode M.2.1 pc = .ok (.ireturn, 1)) (hrt : M.2.2.2.1 = some .boolean) (hz : narrow .boolean (.int v) = .int v) (hc : cn ≤ M.2.2.2.2.cells) (hs : sn ≤ M.2.2.2.2.slots) (hq : Q (some (.int v)) h) : QP G M E (qMZ G M Q) pc L [.int v] h cn sn := by
  intro p e s m args below meth c C hE H ls locs hR hL hS
  refine W.widen hc hs ?_
  exact W.zret C.1 C.2.1 (C.2.2.2.1.trans hrt) hz (qend C hR hS hq) hS.2.2 hd C.2.2.2.2.1
theorem qp_lret {v : Int64} (hd : decode M.2.1 pc = .ok (.lreturn, 1)) (hrt : M.2.2.2.1 = some .long)  (hc : cn ≤ M.2.2.2.2.cells) (hs : sn ≤ M.2.2.2.2.slots) (hq : Q (some (.long v)) h) : QP G M E (qMZ G M Q) pc L [.long v] h cn sn := by
  intro p e s m args below meth c C hE H ls locs hR hL hS
  refine W.widen hc hs ?_
  exact W.lret C.1 C.2.1 (C.2.2.2.1.trans hrt) (qend C hR hS hq) hS.2.2 hd C.2.2.2.2.1
theorem qp_vret (hd : decode M.2.1 pc = .ok (.return_, 1)) (hrt : M.2.2.2.1 = none) (hc : cn ≤ M.2.2.2.2.cells) (hs : sn ≤ M.2.2.2.2.slots) (hq : Q none h) : QP G M E (qMZ G M Q) pc L [] h cn sn := by
  intro p e s m args below meth c C hE H ls locs hR hL hS
  refine W.widen hc hs ?_
  exact W.vret C.1 C.2.1 (C.2.2.2.1.trans hrt) (qend C hR hS hq) hS.2.2 hd C.2.2.2.2.1
theorem qp_aret {v : Value} {nm : String} (hd : decode M.2.1 pc = .ok (.areturn, 1)) (hrt : M.2.2.2.1 = some (.object nm)) (hv : v = .null ∨ ∃ a, v = .ref a) (hc : cn ≤ M.2.2.2.2.cells) (hs : sn ≤ M.2.2.2.2.slots) (hq : Q (some v) h) : QP G M E (qMZ G M Q) pc L [v] h cn sn := by
  intro p e s m args below meth c C hE H ls locs hR hL hS
  refine W.widen hc hs ?_
  exact W.aret C.1 C.2.1 (C.2.2.2.1.trans hrt) (Or.inl ⟨nm, rfl⟩) hv (qend C hR hS hq) hS.2.2 hd C.2.2.2.2.1
theorem QP.heap {h' : qH} (e : h' = h) (k : QP G M E Z pc L st h' cn sn) : QP G M E Z pc L st h cn sn := e ▸ k
theorem QP.locs {L' : List (Option Value)} (hl : ∀ (i : Nat) (v : Value), L'[i]? = some (some v) → L[i]? = some (some v)) (k : QP G M E Z pc L' st h cn sn) : QP G M E Z pc L st h cn sn :=
  fun p e s m args below meth c C hE H ls locs hR hL hS => k p e s m args below meth c C hE H ls locs hR ⟨hL.1, hL.2.1, fun i v hi => hL.2.2 i v (hl i v hi)⟩ hS
theorem QP.less {h' : qH} (hl : ∀ (a : Nat) (e : qE), h' a = some e → h a = some e) (k : QP G M E Z pc L st h' cn sn) : QP G M E Z pc L st h cn sn :=
  fun p e s m args below meth c C hE H ls locs hR hL hS => k p e s m args below meth c C hE H ls locs (fun a x hx => hR a x (hl a x hx)) hL hS
theorem QP.widen {c2 s2 : Nat} (hc : cn ≤ c2) (hs : sn ≤ s2) (k : QP G M E Z pc L st h c2 s2) : QP G M E Z pc L st h cn sn :=
  fun p e s m args below meth c C hE H ls locs hR hL hS => W.widen hc hs (k p e s m args below meth c C hE H ls locs hR hL hS)
end QPH
end
section
abbrev M_X0_init : qM := (yX0_init, cX0_init, 1, none, { frames := 1, cells := 1, slots := 6, locals := 20 })
abbrev M_X0_addLine : qM := (yX0_addLine, cX0_addLine, 2, none, { frames := 0, cells := 0, slots := 0, locals := 0 })
abbrev M_X0_lineAt : qM := (yX0_lineAt, cX0_lineAt, 2, (some .int), { frames := 0, cells := 0, slots := 0, locals := 0 })
abbrev M_X0_partCount : qM := (yX0_partCount, cX0_partCount, 1, (some .int), { frames := 0, cells := 0, slots := 0, locals := 0 })
abbrev M_X0_capitalAt : qM := (yX0_capitalAt, cX0_capitalAt, 2, (some .int), { frames := 0, cells := 0, slots := 0, locals := 0 })
abbrev M_X0_cutterAsWritten : qM := (yX0_cutterAsWritten, cX0_cutterAsWritten, 3, (some .int), { frames := 0, cells := 0, slots := 0, locals := 0 })
abbrev M_X0_hasClassOf : qM := (yX0_hasClassOf, cX0_hasClassOf, 2, (some .boolean), { frames := 0, cells := 0, slots := 0, locals := 0 })
abbrev M_X1_init : qM := (yX1_init, cX1_init, 2, none, { frames := 1, cells := 1, slots := 60, locals := 20 })
abbrev M_X1_collect : qM := (yX1_collect, cX1_collect, 2, none, { frames := 0, cells := 0, slots := 0, locals := 0 })
abbrev M_X1_forget : qM := (yX1_forget, cX1_forget, 1, none, { frames := 0, cells := 0, slots := 0, locals := 0 })
abbrev M_X1_place : qM := (yX1_place, cX1_place, 1, (some .int), { frames := 0, cells := 0, slots := 0, locals := 0 })
abbrev M_X1_readCollected : qM := (yX1_readCollected, cX1_readCollected, 3, (some (.object "CallNumbers$CallNumber")), { frames := 5, cells := 2, slots := 19, locals := 115 })
abbrev M_X1_readClass : qM := (yX1_readClass, cX1_readClass, 8, (some .boolean), { frames := 4, cells := 0, slots := 0, locals := 87 })
abbrev M_X1_readClassLetters : qM := (yX1_readClassLetters, cX1_readClassLetters, 5, (some .boolean), { frames := 1, cells := 0, slots := 0, locals := 21 })
abbrev M_X1_readCutter : qM := (yX1_readCutter, cX1_readCutter, 3, (some .boolean), { frames := 3, cells := 0, slots := 0, locals := 66 })
abbrev M_X1_readRest : qM := (yX1_readRest, cX1_readRest, 6, (some .boolean), { frames := 4, cells := 0, slots := 0, locals := 90 })
abbrev M_X1_partThatBegins : qM := (yX1_partThatBegins, cX1_partThatBegins, 2, (some .int), { frames := 1, cells := 0, slots := 0, locals := 21 })
abbrev M_X1_readYear : qM := (yX1_readYear, cX1_readYear, 3, (some .boolean), { frames := 3, cells := 0, slots := 0, locals := 67 })
abbrev M_X1_readVolume : qM := (yX1_readVolume, cX1_readVolume, 4, (some .boolean), { frames := 3, cells := 0, slots := 0, locals := 67 })
abbrev M_X1_readMark : qM := (yX1_readMark, cX1_readMark, 6, (some .boolean), { frames := 1, cells := 0, slots := 0, locals := 21 })
abbrev M_X1_readSpace : qM := (yX1_readSpace, cX1_readSpace, 1, (some .boolean), { frames := 1, cells := 0, slots := 0, locals := 21 })
abbrev M_X1_readFraction : qM := (yX1_readFraction, cX1_readFraction, 2, (some .boolean), { frames := 3, cells := 0, slots := 0, locals := 66 })
abbrev M_X1_readDecimals : qM := (yX1_readDecimals, cX1_readDecimals, 2, (some .boolean), { frames := 2, cells := 0, slots := 0, locals := 45 })
abbrev M_X1_readNumber : qM := (yX1_readNumber, cX1_readNumber, 3, (some .boolean), { frames := 2, cells := 0, slots := 0, locals := 45 })
abbrev M_X1_readDigits : qM := (yX1_readDigits, cX1_readDigits, 5, (some .boolean), { frames := 1, cells := 0, slots := 0, locals := 21 })
abbrev M_X1_filledUp : qM := (yX1_filledUp, cX1_filledUp, 8, (some .long), { frames := 1, cells := 0, slots := 0, locals := 21 })
abbrev M_X1_signAt : qM := (yX1_signAt, cX1_signAt, 2, (some .int), { frames := 0, cells := 0, slots := 0, locals := 0 })
abbrev M_X1_isDigit : qM := (yX1_isDigit, cX1_isDigit, 1, (some .boolean), { frames := 0, cells := 0, slots := 0, locals := 0 })
abbrev M_X1_isCapital : qM := (yX1_isCapital, cX1_isCapital, 1, (some .boolean), { frames := 0, cells := 0, slots := 0, locals := 0 })
abbrev M_X1_isSmall : qM := (yX1_isSmall, cX1_isSmall, 1, (some .boolean), { frames := 0, cells := 0, slots := 0, locals := 0 })
abbrev M_X2_init : qM := (yX2_init, cX2_init, 1, none, { frames := 1, cells := 2, slots := 120, locals := 20 })
abbrev M_X2_has : qM := (yX2_has, cX2_has, 2, (some .boolean), { frames := 0, cells := 0, slots := 0, locals := 0 })
abbrev M_X2_numberAt : qM := (yX2_numberAt, cX2_numberAt, 2, (some (.object "CallNumbers$CallNumber")), { frames := 1, cells := 0, slots := 0, locals := 21 })
abbrev M_X2_recordAt : qM := (yX2_recordAt, cX2_recordAt, 2, (some .int), { frames := 1, cells := 0, slots := 0, locals := 21 })
abbrev M_X2_countBefore : qM := (yX2_countBefore, cX2_countBefore, 5, (some .int), { frames := 2, cells := 0, slots := 0, locals := 45 })
abbrev M_X2_isSameAt : qM := (yX2_isSameAt, cX2_isSameAt, 4, (some .boolean), { frames := 2, cells := 0, slots := 0, locals := 45 })
abbrev M_X2_insert : qM := (yX2_insert, cX2_insert, 5, (some .boolean), { frames := 0, cells := 0, slots := 0, locals := 0 })
abbrev M_X2_remove : qM := (yX2_remove, cX2_remove, 3, none, { frames := 1, cells := 0, slots := 0, locals := 21 })
abbrev M_X2_firstWith : qM := (yX2_firstWith, cX2_firstWith, 3, (some .int), { frames := 0, cells := 0, slots := 0, locals := 0 })
abbrev M_X2_hasCutter : qM := (yX2_hasCutter, cX2_hasCutter, 5, (some .boolean), { frames := 2, cells := 0, slots := 0, locals := 42 })
abbrev M_X3_init : qM := (yX3_init, cX3_init, 2, none, { frames := 2, cells := 5, slots := 187, locals := 41 })
abbrev M_X3_sign : qM := (yX3_sign, cX3_sign, 2, none, { frames := 1, cells := 0, slots := 0, locals := 21 })
abbrev M_X3_read : qM := (yX3_read, cX3_read, 2, (some .int), { frames := 6, cells := 2, slots := 19, locals := 137 })
abbrev M_X3_letter : qM := (yX3_letter, cX3_letter, 2, (some .int), { frames := 1, cells := 0, slots := 0, locals := 21 })
abbrev M_X3_put : qM := (yX3_put, cX3_put, 3, (some .int), { frames := 3, cells := 0, slots := 0, locals := 69 })
abbrev M_X3_shelf : qM := (yX3_shelf, cX3_shelf, 2, (some .int), { frames := 2, cells := 0, slots := 0, locals := 42 })
abbrev M_X3_take : qM := (yX3_take, cX3_take, 3, (some .int), { frames := 2, cells := 0, slots := 0, locals := 43 })
abbrev M_X3_compare : qM := (yX3_compare, cX3_compare, 5, (some .int), { frames := 2, cells := 0, slots := 0, locals := 45 })
abbrev M_X3_before : qM := (yX3_before, cX3_before, 1, (some .int), { frames := 3, cells := 0, slots := 0, locals := 69 })
abbrev M_X3_free : qM := (yX3_free, cX3_free, 3, (some .int), { frames := 4, cells := 0, slots := 0, locals := 93 })
abbrev M_X3_spine : qM := (yX3_spine, cX3_spine, 2, (some .int), { frames := 1, cells := 0, slots := 0, locals := 21 })
abbrev M_X3_pass : qM := (yX3_pass, cX3_pass, 4, (some .int), { frames := 2, cells := 0, slots := 0, locals := 45 })
abbrev M_X3_freeWithMore : qM := (yX3_freeWithMore, cX3_freeWithMore, 8, (some .int), { frames := 3, cells := 0, slots := 0, locals := 66 })
abbrev M_X3_hasNoZero : qM := (yX3_hasNoZero, cX3_hasNoZero, 3, (some .boolean), { frames := 0, cells := 0, slots := 0, locals := 0 })
abbrev M_X3_powerOfTen : qM := (yX3_powerOfTen, cX3_powerOfTen, 4, (some .long), { frames := 0, cells := 0, slots := 0, locals := 0 })
abbrev M_X3_order : qM := (yX3_order, cX3_order, 3, (some .int), { frames := 1, cells := 0, slots := 0, locals := 23 })
abbrev M_X3_side : qM := (yX3_side, cX3_side, 4, (some .int), { frames := 0, cells := 0, slots := 0, locals := 0 })
abbrev M_X4_init : qM := (yX4_init, cX4_init, 2, none, { frames := 1, cells := 7, slots := 2640, locals := 20 })
abbrev M_X4_thrown : qM := (yX4_thrown, cX4_thrown, 1, (some .int), { frames := 0, cells := 0, slots := 0, locals := 0 })
abbrev M_X4_sign : qM := (yX4_sign, cX4_sign, 2, none, { frames := 0, cells := 0, slots := 0, locals := 0 })
abbrev M_X4_look : qM := (yX4_look, cX4_look, 1, (some .int), { frames := 0, cells := 0, slots := 0, locals := 0 })
abbrev M_X4_bad : qM := (yX4_bad, cX4_bad, 2, (some .boolean), { frames := 0, cells := 0, slots := 0, locals := 0 })
abbrev M_X4_isDigit : qM := (yX4_isDigit, cX4_isDigit, 1, (some .boolean), { frames := 0, cells := 0, slots := 0, locals := 0 })
abbrev M_X4_isCapital : qM := (yX4_isCapital, cX4_isCapital, 1, (some .boolean), { frames := 0, cells := 0, slots := 0, locals := 0 })
abbrev M_X4_isSmall : qM := (yX4_isSmall, cX4_isSmall, 1, (some .boolean), { frames := 0, cells := 0, slots := 0, locals := 0 })
abbrev M_X4_digits : qM := (yX4_digits, cX4_digits, 4, (some .boolean), { frames := 1, cells := 0, slots := 0, locals := 21 })
abbrev M_X4_number : qM := (yX4_number, cX4_number, 5, (some .boolean), { frames := 1, cells := 0, slots := 0, locals := 21 })
abbrev M_X4_readClass : qM := (yX4_readClass, cX4_readClass, 3, (some .boolean), { frames := 2, cells := 0, slots := 0, locals := 45 })
abbrev M_X4_readCutter : qM := (yX4_readCutter, cX4_readCutter, 1, (some .boolean), { frames := 2, cells := 0, slots := 0, locals := 44 })
abbrev M_X4_readYear : qM := (yX4_readYear, cX4_readYear, 3, (some .boolean), { frames := 1, cells := 0, slots := 0, locals := 21 })
abbrev M_X4_readVolume : qM := (yX4_readVolume, cX4_readVolume, 1, (some .boolean), { frames := 2, cells := 0, slots := 0, locals := 45 })
abbrev M_X4_readMark : qM := (yX4_readMark, cX4_readMark, 2, (some .boolean), { frames := 1, cells := 0, slots := 0, locals := 21 })
abbrev M_X4_space : qM := (yX4_space, cX4_space, 1, (some .boolean), { frames := 1, cells := 0, slots := 0, locals := 21 })
abbrev M_X4_reads : qM := (yX4_reads, cX4_reads, 5, (some .boolean), { frames := 3, cells := 0, slots := 0, locals := 67 })
abbrev M_X4_read : qM := (yX4_read, cX4_read, 3, (some .int), { frames := 4, cells := 0, slots := 0, locals := 91 })
abbrev M_X4_value : qM := (yX4_value, cX4_value, 6, (some .long), { frames := 0, cells := 0, slots := 0, locals := 0 })
abbrev M_X4_marks : qM := (yX4_marks, cX4_marks, 2, (some .int), { frames := 0, cells := 0, slots := 0, locals := 0 })
abbrev M_X4_part : qM := (yX4_part, cX4_part, 2, (some .long), { frames := 1, cells := 0, slots := 0, locals := 25 })
abbrev M_X4_letters : qM := (yX4_letters, cX4_letters, 2, (some .int), { frames := 0, cells := 0, slots := 0, locals := 0 })
abbrev M_X4_letter : qM := (yX4_letter, cX4_letter, 3, (some .int), { frames := 1, cells := 0, slots := 0, locals := 21 })
abbrev M_X4_decimals : qM := (yX4_decimals, cX4_decimals, 1, (some .int), { frames := 0, cells := 0, slots := 0, locals := 0 })
abbrev M_X4_cutterSize : qM := (yX4_cutterSize, cX4_cutterSize, 2, (some .int), { frames := 0, cells := 0, slots := 0, locals := 0 })
abbrev M_X4_spine : qM := (yX4_spine, cX4_spine, 3, (some .int), { frames := 1, cells := 0, slots := 0, locals := 21 })
abbrev M_X4_order : qM := (yX4_order, cX4_order, 6, (some .int), { frames := 0, cells := 0, slots := 0, locals := 0 })
abbrev M_X4_placeOf : qM := (yX4_placeOf, cX4_placeOf, 2, (some .int), { frames := 1, cells := 0, slots := 0, locals := 25 })
abbrev M_X4_put : qM := (yX4_put, cX4_put, 5, (some .int), { frames := 2, cells := 0, slots := 0, locals := 46 })
abbrev M_X4_shelf : qM := (yX4_shelf, cX4_shelf, 2, (some .int), { frames := 0, cells := 0, slots := 0, locals := 0 })
abbrev M_X4_take : qM := (yX4_take, cX4_take, 5, (some .int), { frames := 0, cells := 0, slots := 0, locals := 0 })
abbrev M_X4_compare : qM := (yX4_compare, cX4_compare, 3, (some .int), { frames := 0, cells := 0, slots := 0, locals := 0 })
abbrev M_X4_before : qM := (yX4_before, cX4_before, 1, (some .int), { frames := 2, cells := 0, slots := 0, locals := 46 })
abbrev M_X4_isTaken : qM := (yX4_isTaken, cX4_isTaken, 5, (some .boolean), { frames := 0, cells := 0, slots := 0, locals := 0 })
abbrev M_X4_free : qM := (yX4_free, cX4_free, 8, (some .int), { frames := 1, cells := 0, slots := 0, locals := 24 })
abbrev M_X4_pass : qM := (yX4_pass, cX4_pass, 5, (some .int), { frames := 0, cells := 0, slots := 0, locals := 0 })
abbrev M_L_cell : qM := (yL_cell, cL_cell, 2, (some .int), { frames := 0, cells := 0, slots := 0, locals := 0 })
theorem inlX0 : ∀ w ∈ u_ws RX0 TX0 13, w ∈ lw_tbl := by decide +kernel
theorem ingX0 : ∀ w ∈ u_ws RX0 TX0 13, goodWord w = true := by decide +kernel
theorem clsX0 : qCls 1 (RX0, TX0, 13) := ⟨rfl, fun w h => qT_in (inlX0 w h) (ingX0 w h), tyX0_ok, nmX0⟩
theorem inlX1 : ∀ w ∈ u_ws RX1 TX1 4, w ∈ lw_tbl := by decide +kernel
theorem ingX1 : ∀ w ∈ u_ws RX1 TX1 4, goodWord w = true := by decide +kernel
theorem clsX1 : qCls 2 (RX1, TX1, 4) := ⟨rfl, fun w h => qT_in (inlX1 w h) (ingX1 w h), tyX1_ok, nmX1⟩
theorem inlX2 : ∀ w ∈ u_ws RX2 TX2 3, w ∈ lw_tbl := by decide +kernel
theorem ingX2 : ∀ w ∈ u_ws RX2 TX2 3, goodWord w = true := by decide +kernel
theorem clsX2 : qCls 3 (RX2, TX2, 3) := ⟨rfl, fun w h => qT_in (inlX2 w h) (ingX2 w h), tyX2_ok, nmX2⟩
theorem inlX3 : ∀ w ∈ u_ws RX3 TX3 4, w ∈ lw_tbl := by decide +kernel
theorem ingX3 : ∀ w ∈ u_ws RX3 TX3 4, goodWord w = true := by decide +kernel
theorem clsX3 : qCls 4 (RX3, TX3, 4) := ⟨rfl, fun w h => qT_in (inlX3 w h) (ingX3 w h), tyX3_ok, nmX3⟩
theorem inlX4 : ∀ w ∈ u_ws RX4 TX4 14, w ∈ lw_tbl := by decide +kernel
theorem ingX4 : ∀ w ∈ u_ws RX4 TX4 14, goodWord w = true := by decide +kernel
theorem clsX4 : qCls 5 (RX4, TX4, 14) := ⟨rfl, fun w h => qT_in (inlX4 w h) (ingX4 w h), tyX4_ok, nmX4⟩
theorem iniX0 : Cond.initialized RX0 ∈ qT := qT_in (by decide +kernel) (by decide +kernel)
theorem iniX1 : Cond.initialized RX1 ∈ qT := qT_in (by decide +kernel) (by decide +kernel)
theorem iniX2 : Cond.initialized RX2 ∈ qT := qT_in (by decide +kernel) (by decide +kernel)
theorem iniX3 : Cond.initialized RX3 ∈ qT := qT_in (by decide +kernel) (by decide +kernel)
theorem iniX4 : Cond.initialized RX4 ∈ qT := qT_in (by decide +kernel) (by decide +kernel)
theorem iniL : Cond.initialized RL ∈ qT := qT_in (by decide +kernel) (by decide +kernel)
theorem lkfX0_9 : Cond.fieldLink RX0 9 "CallNumbers$CallNumber" "lines" "[I" ∈ qT := qT_in (by decide +kernel) (by decide +kernel)
theorem fX0_9 : qFld RX0 9 1 11 := ⟨_, clsX0, by decide, Or.inl lkfX0_9⟩
theorem ffX0_9 : ∃ r, qCls 1 r ∧ 11 < r.2.2 ∧ Cond.fieldLink RX0 9 (r.2.1 11).1 (r.2.1 11).2.1 (r.2.1 11).2.2.1 ∈ qT := ⟨_, clsX0, by decide, lkfX0_9⟩
theorem lkfX0_15 : Cond.fieldLink RX0 15 "CallNumbers$CallNumber" "lineCount" "I" ∈ qT := qT_in (by decide +kernel) (by decide +kernel)
theorem fX0_15 : qFld RX0 15 1 12 := ⟨_, clsX0, by decide, Or.inl lkfX0_15⟩
theorem lkfX0_19 : Cond.fieldLink RX0 19 "CallNumbers$CallNumber" "classLetterCount" "I" ∈ qT := qT_in (by decide +kernel) (by decide +kernel)
theorem fX0_19 : qFld RX0 19 1 1 := ⟨_, clsX0, by decide, Or.inl lkfX0_19⟩
theorem lkfX0_22 : Cond.fieldLink RX0 22 "CallNumbers$CallNumber" "capital" "I" ∈ qT := qT_in (by decide +kernel) (by decide +kernel)
theorem fX0_22 : qFld RX0 22 1 3 := ⟨_, clsX0, by decide, Or.inl lkfX0_22⟩
theorem lkfX0_25 : Cond.fieldLink RX0 25 "CallNumbers$CallNumber" "classLetters" "I" ∈ qT := qT_in (by decide +kernel) (by decide +kernel)
theorem fX0_25 : qFld RX0 25 1 0 := ⟨_, clsX0, by decide, Or.inl lkfX0_25⟩
theorem lkfX0_28 : Cond.fieldLink RX0 28 "CallNumbers$CallNumber" "cutter" "I" ∈ qT := qT_in (by decide +kernel) (by decide +kernel)
theorem fX0_28 : qFld RX0 28 1 4 := ⟨_, clsX0, by decide, Or.inl lkfX0_28⟩
theorem lkfX0_31 : Cond.fieldLink RX0 31 "CallNumbers$CallNumber" "cutterDigits" "I" ∈ qT := qT_in (by decide +kernel) (by decide +kernel)
theorem fX0_31 : qFld RX0 31 1 5 := ⟨_, clsX0, by decide, Or.inl lkfX0_31⟩
theorem lkfX0_34 : Cond.fieldLink RX0 34 "CallNumbers$CallNumber" "classDigits" "J" ∈ qT := qT_in (by decide +kernel) (by decide +kernel)
theorem fX0_34 : qFld RX0 34 1 2 := ⟨_, clsX0, by decide, Or.inl lkfX0_34⟩
theorem lkfX1_9 : Cond.fieldLink RX1 9 "CallNumbers$Reader" "signs" "[I" ∈ qT := qT_in (by decide +kernel) (by decide +kernel)
theorem fX1_9 : qFld RX1 9 2 1 := ⟨_, clsX1, by decide, Or.inl lkfX1_9⟩
theorem ffX1_9 : ∃ r, qCls 2 r ∧ 1 < r.2.2 ∧ Cond.fieldLink RX1 9 (r.2.1 1).1 (r.2.1 1).2.1 (r.2.1 1).2.2.1 ∈ qT := ⟨_, clsX1, by decide, lkfX1_9⟩
theorem lkfX1_15 : Cond.fieldLink RX1 15 "CallNumbers$Reader" "lettered" "Z" ∈ qT := qT_in (by decide +kernel) (by decide +kernel)
theorem fX1_15 : qFld RX1 15 2 0 := ⟨_, clsX1, by decide, Or.inl lkfX1_15⟩
theorem ffX1_15 : ∃ r, qCls 2 r ∧ 0 < r.2.2 ∧ Cond.fieldLink RX1 15 (r.2.1 0).1 (r.2.1 0).2.1 (r.2.1 0).2.2.1 ∈ qT := ⟨_, clsX1, by decide, lkfX1_15⟩
theorem lkfX1_19 : Cond.fieldLink RX1 19 "CallNumbers$Reader" "count" "I" ∈ qT := qT_in (by decide +kernel) (by decide +kernel)
theorem fX1_19 : qFld RX1 19 2 2 := ⟨_, clsX1, by decide, Or.inl lkfX1_19⟩
theorem lkfX1_23 : Cond.fieldLink RX1 23 "CallNumbers$Reader" "at" "I" ∈ qT := qT_in (by decide +kernel) (by decide +kernel)
theorem fX1_23 : qFld RX1 23 2 3 := ⟨_, clsX1, by decide, Or.inl lkfX1_23⟩
theorem lkfX1_65 : Cond.fieldLinkNest RX1 65 "CallNumbers$CallNumber" "classDigits" "J" "CallNumbers" ∈ qN := qN_in (by decide +kernel) rfl
theorem fX1_65 : qFld RX1 65 1 2 := ⟨_, clsX0, by decide, Or.inr ⟨_, lkfX1_65⟩⟩
theorem lkfX1_80 : Cond.fieldLinkNest RX1 80 "CallNumbers$CallNumber" "classLetters" "I" "CallNumbers" ∈ qN := qN_in (by decide +kernel) rfl
theorem fX1_80 : qFld RX1 80 1 0 := ⟨_, clsX0, by decide, Or.inr ⟨_, lkfX1_80⟩⟩
theorem lkfX1_83 : Cond.fieldLinkNest RX1 83 "CallNumbers$CallNumber" "classLetterCount" "I" "CallNumbers" ∈ qN := qN_in (by decide +kernel) rfl
theorem fX1_83 : qFld RX1 83 1 1 := ⟨_, clsX0, by decide, Or.inr ⟨_, lkfX1_83⟩⟩
theorem lkfX1_89 : Cond.fieldLinkNest RX1 89 "CallNumbers$CallNumber" "capital" "I" "CallNumbers" ∈ qN := qN_in (by decide +kernel) rfl
theorem fX1_89 : qFld RX1 89 1 3 := ⟨_, clsX0, by decide, Or.inr ⟨_, lkfX1_89⟩⟩
theorem lkfX1_92 : Cond.fieldLinkNest RX1 92 "CallNumbers$CallNumber" "cutter" "I" "CallNumbers" ∈ qN := qN_in (by decide +kernel) rfl
theorem fX1_92 : qFld RX1 92 1 4 := ⟨_, clsX0, by decide, Or.inr ⟨_, lkfX1_92⟩⟩
theorem lkfX1_95 : Cond.fieldLinkNest RX1 95 "CallNumbers$CallNumber" "cutterDigits" "I" "CallNumbers" ∈ qN := qN_in (by decide +kernel) rfl
theorem fX1_95 : qFld RX1 95 1 5 := ⟨_, clsX0, by decide, Or.inr ⟨_, lkfX1_95⟩⟩
theorem lkfX1_117 : Cond.fieldLinkNest RX1 117 "CallNumbers$CallNumber" "year" "I" "CallNumbers" ∈ qN := qN_in (by decide +kernel) rfl
theorem fX1_117 : qFld RX1 117 1 6 := ⟨_, clsX0, by decide, Or.inr ⟨_, lkfX1_117⟩⟩
theorem lkfX1_120 : Cond.fieldLinkNest RX1 120 "CallNumbers$CallNumber" "volume" "I" "CallNumbers" ∈ qN := qN_in (by decide +kernel) rfl
theorem fX1_120 : qFld RX1 120 1 7 := ⟨_, clsX0, by decide, Or.inr ⟨_, lkfX1_120⟩⟩
theorem lkfX1_123 : Cond.fieldLinkNest RX1 123 "CallNumbers$CallNumber" "volumeLetter" "I" "CallNumbers" ∈ qN := qN_in (by decide +kernel) rfl
theorem fX1_123 : qFld RX1 123 1 8 := ⟨_, clsX0, by decide, Or.inr ⟨_, lkfX1_123⟩⟩
theorem lkfX1_126 : Cond.fieldLinkNest RX1 126 "CallNumbers$CallNumber" "mark" "J" "CallNumbers" ∈ qN := qN_in (by decide +kernel) rfl
theorem fX1_126 : qFld RX1 126 1 9 := ⟨_, clsX0, by decide, Or.inr ⟨_, lkfX1_126⟩⟩
theorem lkfX1_129 : Cond.fieldLinkNest RX1 129 "CallNumbers$CallNumber" "markLetters" "I" "CallNumbers" ∈ qN := qN_in (by decide +kernel) rfl
theorem fX1_129 : qFld RX1 129 1 10 := ⟨_, clsX0, by decide, Or.inr ⟨_, lkfX1_129⟩⟩
theorem lkfX2_11 : Cond.fieldLink RX2 11 "CallNumbers$Shelf" "numbers" "[LCallNumbers$CallNumber;" ∈ qT := qT_in (by decide +kernel) (by decide +kernel)
theorem fX2_11 : qFld RX2 11 3 0 := ⟨_, clsX2, by decide, Or.inl lkfX2_11⟩
theorem ffX2_11 : ∃ r, qCls 3 r ∧ 0 < r.2.2 ∧ Cond.fieldLink RX2 11 (r.2.1 0).1 (r.2.1 0).2.1 (r.2.1 0).2.2.1 ∈ qT := ⟨_, clsX2, by decide, lkfX2_11⟩
theorem lkfX2_17 : Cond.fieldLink RX2 17 "CallNumbers$Shelf" "records" "[I" ∈ qT := qT_in (by decide +kernel) (by decide +kernel)
theorem fX2_17 : qFld RX2 17 3 1 := ⟨_, clsX2, by decide, Or.inl lkfX2_17⟩
theorem ffX2_17 : ∃ r, qCls 3 r ∧ 1 < r.2.2 ∧ Cond.fieldLink RX2 17 (r.2.1 1).1 (r.2.1 1).2.1 (r.2.1 1).2.2.1 ∈ qT := ⟨_, clsX2, by decide, lkfX2_17⟩
theorem lkfX2_21 : Cond.fieldLink RX2 21 "CallNumbers$Shelf" "count" "I" ∈ qT := qT_in (by decide +kernel) (by decide +kernel)
theorem fX2_21 : qFld RX2 21 3 2 := ⟨_, clsX2, by decide, Or.inl lkfX2_21⟩
theorem lkfX2_41 : Cond.fieldLinkNest RX2 41 "CallNumbers$CallNumber" "capital" "I" "CallNumbers" ∈ qN := qN_in (by decide +kernel) rfl
theorem fX2_41 : qFld RX2 41 1 3 := ⟨_, clsX0, by decide, Or.inr ⟨_, lkfX2_41⟩⟩
theorem lkfX2_44 : Cond.fieldLinkNest RX2 44 "CallNumbers$CallNumber" "cutter" "I" "CallNumbers" ∈ qN := qN_in (by decide +kernel) rfl
theorem fX2_44 : qFld RX2 44 1 4 := ⟨_, clsX0, by decide, Or.inr ⟨_, lkfX2_44⟩⟩
theorem lkfX3_12 : Cond.fieldLink RX3 12 "CallNumbers" "reader" "LCallNumbers$Reader;" ∈ qT := qT_in (by decide +kernel) (by decide +kernel)
theorem fX3_12 : qFld RX3 12 4 0 := ⟨_, clsX3, by decide, Or.inl lkfX3_12⟩
theorem ffX3_12 : ∃ r, qCls 4 r ∧ 0 < r.2.2 ∧ Cond.fieldLink RX3 12 (r.2.1 0).1 (r.2.1 0).2.1 (r.2.1 0).2.2.1 ∈ qT := ⟨_, clsX3, by decide, lkfX3_12⟩
theorem lkfX3_21 : Cond.fieldLink RX3 21 "CallNumbers" "kept" "LCallNumbers$Shelf;" ∈ qT := qT_in (by decide +kernel) (by decide +kernel)
theorem fX3_21 : qFld RX3 21 4 1 := ⟨_, clsX3, by decide, Or.inl lkfX3_21⟩
theorem ffX3_21 : ∃ r, qCls 4 r ∧ 1 < r.2.2 ∧ Cond.fieldLink RX3 21 (r.2.1 1).1 (r.2.1 1).2.1 (r.2.1 1).2.2.1 ∈ qT := ⟨_, clsX3, by decide, lkfX3_21⟩
theorem lkfX3_25 : Cond.fieldLink RX3 25 "CallNumbers" "latest" "LCallNumbers$CallNumber;" ∈ qT := qT_in (by decide +kernel) (by decide +kernel)
theorem fX3_25 : qFld RX3 25 4 2 := ⟨_, clsX3, by decide, Or.inl lkfX3_25⟩
theorem lkfX3_29 : Cond.fieldLink RX3 29 "CallNumbers" "told" "LCallNumbers$CallNumber;" ∈ qT := qT_in (by decide +kernel) (by decide +kernel)
theorem fX3_29 : qFld RX3 29 4 3 := ⟨_, clsX3, by decide, Or.inl lkfX3_29⟩
theorem lkfX3_59 : Cond.fieldLinkNest RX3 59 "CallNumbers$CallNumber" "classDigits" "J" "CallNumbers" ∈ qN := qN_in (by decide +kernel) rfl
theorem fX3_59 : qFld RX3 59 1 2 := ⟨_, clsX0, by decide, Or.inr ⟨_, lkfX3_59⟩⟩
theorem lkfX3_63 : Cond.fieldLinkNest RX3 63 "CallNumbers$CallNumber" "cutter" "I" "CallNumbers" ∈ qN := qN_in (by decide +kernel) rfl
theorem fX3_63 : qFld RX3 63 1 4 := ⟨_, clsX0, by decide, Or.inr ⟨_, lkfX3_63⟩⟩
theorem lkfX3_67 : Cond.fieldLinkNest RX3 67 "CallNumbers$CallNumber" "year" "I" "CallNumbers" ∈ qN := qN_in (by decide +kernel) rfl
theorem fX3_67 : qFld RX3 67 1 6 := ⟨_, clsX0, by decide, Or.inr ⟨_, lkfX3_67⟩⟩
theorem lkfX3_70 : Cond.fieldLinkNest RX3 70 "CallNumbers$CallNumber" "volume" "I" "CallNumbers" ∈ qN := qN_in (by decide +kernel) rfl
theorem fX3_70 : qFld RX3 70 1 7 := ⟨_, clsX0, by decide, Or.inr ⟨_, lkfX3_70⟩⟩
theorem lkfX3_73 : Cond.fieldLinkNest RX3 73 "CallNumbers$CallNumber" "markLetters" "I" "CallNumbers" ∈ qN := qN_in (by decide +kernel) rfl
theorem fX3_73 : qFld RX3 73 1 10 := ⟨_, clsX0, by decide, Or.inr ⟨_, lkfX3_73⟩⟩
theorem lkfX3_106 : Cond.fieldLinkNest RX3 106 "CallNumbers$CallNumber" "cutterDigits" "I" "CallNumbers" ∈ qN := qN_in (by decide +kernel) rfl
theorem fX3_106 : qFld RX3 106 1 5 := ⟨_, clsX0, by decide, Or.inr ⟨_, lkfX3_106⟩⟩
theorem lkfX3_136 : Cond.fieldLinkNest RX3 136 "CallNumbers$CallNumber" "classLetters" "I" "CallNumbers" ∈ qN := qN_in (by decide +kernel) rfl
theorem fX3_136 : qFld RX3 136 1 0 := ⟨_, clsX0, by decide, Or.inr ⟨_, lkfX3_136⟩⟩
theorem lkfX3_143 : Cond.fieldLinkNest RX3 143 "CallNumbers$CallNumber" "capital" "I" "CallNumbers" ∈ qN := qN_in (by decide +kernel) rfl
theorem fX3_143 : qFld RX3 143 1 3 := ⟨_, clsX0, by decide, Or.inr ⟨_, lkfX3_143⟩⟩
theorem lkfX3_146 : Cond.fieldLinkNest RX3 146 "CallNumbers$CallNumber" "volumeLetter" "I" "CallNumbers" ∈ qN := qN_in (by decide +kernel) rfl
theorem fX3_146 : qFld RX3 146 1 8 := ⟨_, clsX0, by decide, Or.inr ⟨_, lkfX3_146⟩⟩
theorem lkfX3_149 : Cond.fieldLinkNest RX3 149 "CallNumbers$CallNumber" "mark" "J" "CallNumbers" ∈ qN := qN_in (by decide +kernel) rfl
theorem fX3_149 : qFld RX3 149 1 9 := ⟨_, clsX0, by decide, Or.inr ⟨_, lkfX3_149⟩⟩
theorem lkfX4_7 : Cond.fieldLink RX4 7 "CallNumbersModel" "said" "[B" ∈ qT := qT_in (by decide +kernel) (by decide +kernel)
theorem fX4_7 : qFld RX4 7 5 2 := ⟨_, clsX4, by decide, Or.inl lkfX4_7⟩
theorem ffX4_7 : ∃ r, qCls 5 r ∧ 2 < r.2.2 ∧ Cond.fieldLink RX4 7 (r.2.1 2).1 (r.2.1 2).2.1 (r.2.1 2).2.2.1 ∈ qT := ⟨_, clsX4, by decide, lkfX4_7⟩
theorem lkfX4_13 : Cond.fieldLink RX4 13 "CallNumbersModel" "now" "[I" ∈ qT := qT_in (by decide +kernel) (by decide +kernel)
theorem fX4_13 : qFld RX4 13 5 4 := ⟨_, clsX4, by decide, Or.inl lkfX4_13⟩
theorem ffX4_13 : ∃ r, qCls 5 r ∧ 4 < r.2.2 ∧ Cond.fieldLink RX4 13 (r.2.1 4).1 (r.2.1 4).2.1 (r.2.1 4).2.2.1 ∈ qT := ⟨_, clsX4, by decide, lkfX4_13⟩
theorem lkfX4_17 : Cond.fieldLink RX4 17 "CallNumbersModel" "latest" "[I" ∈ qT := qT_in (by decide +kernel) (by decide +kernel)
theorem fX4_17 : qFld RX4 17 5 5 := ⟨_, clsX4, by decide, Or.inl lkfX4_17⟩
theorem ffX4_17 : ∃ r, qCls 5 r ∧ 5 < r.2.2 ∧ Cond.fieldLink RX4 17 (r.2.1 5).1 (r.2.1 5).2.1 (r.2.1 5).2.2.1 ∈ qT := ⟨_, clsX4, by decide, lkfX4_17⟩
theorem lkfX4_20 : Cond.fieldLink RX4 20 "CallNumbersModel" "shelf" "[I" ∈ qT := qT_in (by decide +kernel) (by decide +kernel)
theorem fX4_20 : qFld RX4 20 5 7 := ⟨_, clsX4, by decide, Or.inl lkfX4_20⟩
theorem ffX4_20 : ∃ r, qCls 5 r ∧ 7 < r.2.2 ∧ Cond.fieldLink RX4 20 (r.2.1 7).1 (r.2.1 7).2.1 (r.2.1 7).2.2.1 ∈ qT := ⟨_, clsX4, by decide, lkfX4_20⟩
theorem lkfX4_23 : Cond.fieldLink RX4 23 "CallNumbersModel" "records" "[I" ∈ qT := qT_in (by decide +kernel) (by decide +kernel)
theorem fX4_23 : qFld RX4 23 5 8 := ⟨_, clsX4, by decide, Or.inl lkfX4_23⟩
theorem ffX4_23 : ∃ r, qCls 5 r ∧ 8 < r.2.2 ∧ Cond.fieldLink RX4 23 (r.2.1 8).1 (r.2.1 8).2.1 (r.2.1 8).2.2.1 ∈ qT := ⟨_, clsX4, by decide, lkfX4_23⟩
theorem lkfX4_26 : Cond.fieldLink RX4 26 "CallNumbersModel" "before" "[I" ∈ qT := qT_in (by decide +kernel) (by decide +kernel)
theorem fX4_26 : qFld RX4 26 5 10 := ⟨_, clsX4, by decide, Or.inl lkfX4_26⟩
theorem ffX4_26 : ∃ r, qCls 5 r ∧ 10 < r.2.2 ∧ Cond.fieldLink RX4 26 (r.2.1 10).1 (r.2.1 10).2.1 (r.2.1 10).2.2.1 ∈ qT := ⟨_, clsX4, by decide, lkfX4_26⟩
theorem lkfX4_29 : Cond.fieldLink RX4 29 "CallNumbersModel" "scheme" "I" ∈ qT := qT_in (by decide +kernel) (by decide +kernel)
theorem fX4_29 : qFld RX4 29 5 1 := ⟨_, clsX4, by decide, Or.inl lkfX4_29⟩
theorem ffX4_29 : ∃ r, qCls 5 r ∧ 1 < r.2.2 ∧ Cond.fieldLink RX4 29 (r.2.1 1).1 (r.2.1 1).2.1 (r.2.1 1).2.2.1 ∈ qT := ⟨_, clsX4, by decide, lkfX4_29⟩
theorem lkfX4_33 : Cond.fieldLink RX4 33 "CallNumbersModel" "thrown" "I" ∈ qT := qT_in (by decide +kernel) (by decide +kernel)
theorem fX4_33 : qFld RX4 33 5 0 := ⟨_, clsX4, by decide, Or.inl lkfX4_33⟩
theorem lkfX4_36 : Cond.fieldLink RX4 36 "CallNumbersModel" "size" "I" ∈ qT := qT_in (by decide +kernel) (by decide +kernel)
theorem fX4_36 : qFld RX4 36 5 3 := ⟨_, clsX4, by decide, Or.inl lkfX4_36⟩
theorem lkfX4_39 : Cond.fieldLink RX4 39 "CallNumbersModel" "at" "I" ∈ qT := qT_in (by decide +kernel) (by decide +kernel)
theorem fX4_39 : qFld RX4 39 5 12 := ⟨_, clsX4, by decide, Or.inl lkfX4_39⟩
theorem lkfX4_42 : Cond.fieldLink RX4 42 "CallNumbersModel" "wrong" "I" ∈ qT := qT_in (by decide +kernel) (by decide +kernel)
theorem fX4_42 : qFld RX4 42 5 13 := ⟨_, clsX4, by decide, Or.inl lkfX4_42⟩
theorem lkfX4_91 : Cond.fieldLink RX4 91 "CallNumbersModel" "there" "Z" ∈ qT := qT_in (by decide +kernel) (by decide +kernel)
theorem fX4_91 : qFld RX4 91 5 6 := ⟨_, clsX4, by decide, Or.inl lkfX4_91⟩
theorem lkfX4_118 : Cond.fieldLink RX4 118 "CallNumbersModel" "count" "I" ∈ qT := qT_in (by decide +kernel) (by decide +kernel)
theorem fX4_118 : qFld RX4 118 5 9 := ⟨_, clsX4, by decide, Or.inl lkfX4_118⟩
theorem lkfX4_131 : Cond.fieldLink RX4 131 "CallNumbersModel" "passed" "Z" ∈ qT := qT_in (by decide +kernel) (by decide +kernel)
theorem fX4_131 : qFld RX4 131 5 11 := ⟨_, clsX4, by decide, Or.inl lkfX4_131⟩
theorem cdX0_init : Cond.code yX0_init cX0_init 1 none ∈ qT := qT_in (by decide +kernel) (by decide +kernel)
theorem lkX0_init : qLk M_X0_init 0 := ⟨cdX0_init, iniX0, by decide +kernel, by decide +kernel⟩
theorem lkmX1_28 : Cond.methodLinkNest RX1 28 yX0_init "CallNumbers" ∈ qN := qN_in (by decide +kernel) rfl
theorem kdX0_init : Cond.instanceMethod yX0_init ∈ qT := qT_in (by decide +kernel) (by decide +kernel)
theorem mX1_28 : qLkI RX1 28 M_X0_init 0 := ⟨lkX0_init, rfl, rfl, kdX0_init, Or.inr ⟨_, lkmX1_28⟩⟩
theorem cdX1_readClass : Cond.code yX1_readClass cX1_readClass 8 (some .boolean) ∈ qT := qT_in (by decide +kernel) (by decide +kernel)
theorem lkX1_readClass : qLk M_X1_readClass 1 := ⟨cdX1_readClass, iniX1, by decide +kernel, by decide +kernel⟩
theorem lkmX1_29 : Cond.methodLink RX1 29 yX1_readClass ∈ qT := qT_in (by decide +kernel) (by decide +kernel)
theorem kdX1_readClass : Cond.instanceMethod yX1_readClass ∈ qT := qT_in (by decide +kernel) (by decide +kernel)
theorem slX1_readClass : Cond.selects RX1 yX1_readClass yX1_readClass ∈ qT := qT_in (by decide +kernel) (by decide +kernel)
theorem mX1_29 : qLkV RX1 29 M_X1_readClass 1 := ⟨lkX1_readClass, kdX1_readClass, slX1_readClass, Or.inl lkmX1_29⟩
theorem cdX1_readSpace : Cond.code yX1_readSpace cX1_readSpace 1 (some .boolean) ∈ qT := qT_in (by decide +kernel) (by decide +kernel)
theorem lkX1_readSpace : qLk M_X1_readSpace 0 := ⟨cdX1_readSpace, iniX1, by decide +kernel, by decide +kernel⟩
theorem lkmX1_33 : Cond.methodLink RX1 33 yX1_readSpace ∈ qT := qT_in (by decide +kernel) (by decide +kernel)
theorem kdX1_readSpace : Cond.instanceMethod yX1_readSpace ∈ qT := qT_in (by decide +kernel) (by decide +kernel)
theorem slX1_readSpace : Cond.selects RX1 yX1_readSpace yX1_readSpace ∈ qT := qT_in (by decide +kernel) (by decide +kernel)
theorem mX1_33 : qLkV RX1 33 M_X1_readSpace 0 := ⟨lkX1_readSpace, kdX1_readSpace, slX1_readSpace, Or.inl lkmX1_33⟩
theorem cdX1_readCutter : Cond.code yX1_readCutter cX1_readCutter 3 (some .boolean) ∈ qT := qT_in (by decide +kernel) (by decide +kernel)
theorem lkX1_readCutter : qLk M_X1_readCutter 1 := ⟨cdX1_readCutter, iniX1, by decide +kernel, by decide +kernel⟩
theorem lkmX1_37 : Cond.methodLink RX1 37 yX1_readCutter ∈ qT := qT_in (by decide +kernel) (by decide +kernel)
theorem kdX1_readCutter : Cond.instanceMethod yX1_readCutter ∈ qT := qT_in (by decide +kernel) (by decide +kernel)
theorem slX1_readCutter : Cond.selects RX1 yX1_readCutter yX1_readCutter ∈ qT := qT_in (by decide +kernel) (by decide +kernel)
theorem mX1_37 : qLkV RX1 37 M_X1_readCutter 1 := ⟨lkX1_readCutter, kdX1_readCutter, slX1_readCutter, Or.inl lkmX1_37⟩
theorem cdX1_readRest : Cond.code yX1_readRest cX1_readRest 6 (some .boolean) ∈ qT := qT_in (by decide +kernel) (by decide +kernel)
theorem lkX1_readRest : qLk M_X1_readRest 1 := ⟨cdX1_readRest, iniX1, by decide +kernel, by decide +kernel⟩
theorem lkmX1_40 : Cond.methodLink RX1 40 yX1_readRest ∈ qT := qT_in (by decide +kernel) (by decide +kernel)
theorem kdX1_readRest : Cond.instanceMethod yX1_readRest ∈ qT := qT_in (by decide +kernel) (by decide +kernel)
theorem slX1_readRest : Cond.selects RX1 yX1_readRest yX1_readRest ∈ qT := qT_in (by decide +kernel) (by decide +kernel)
theorem mX1_40 : qLkV RX1 40 M_X1_readRest 1 := ⟨lkX1_readRest, kdX1_readRest, slX1_readRest, Or.inl lkmX1_40⟩
theorem cdX1_readClassLetters : Cond.code yX1_readClassLetters cX1_readClassLetters 5 (some .boolean) ∈ qT := qT_in (by decide +kernel) (by decide +kernel)
theorem lkX1_readClassLetters : qLk M_X1_readClassLetters 1 := ⟨cdX1_readClassLetters, iniX1, by decide +kernel, by decide +kernel⟩
theorem lkmX1_43 : Cond.methodLink RX1 43 yX1_readClassLetters ∈ qT := qT_in (by decide +kernel) (by decide +kernel)
theorem kdX1_readClassLetters : Cond.instanceMethod yX1_readClassLetters ∈ qT := qT_in (by decide +kernel) (by decide +kernel)
theorem slX1_readClassLetters : Cond.selects RX1 yX1_readClassLetters yX1_readClassLetters ∈ qT := qT_in (by decide +kernel) (by decide +kernel)
theorem mX1_43 : qLkV RX1 43 M_X1_readClassLetters 1 := ⟨lkX1_readClassLetters, kdX1_readClassLetters, slX1_readClassLetters, Or.inl lkmX1_43⟩
theorem cdX1_readNumber : Cond.code yX1_readNumber cX1_readNumber 3 (some .boolean) ∈ qT := qT_in (by decide +kernel) (by decide +kernel)
theorem lkX1_readNumber : qLk M_X1_readNumber 2 := ⟨cdX1_readNumber, iniX1, by decide +kernel, by decide +kernel⟩
theorem lkmX1_46 : Cond.methodLink RX1 46 yX1_readNumber ∈ qT := qT_in (by decide +kernel) (by decide +kernel)
theorem kdX1_readNumber : Cond.instanceMethod yX1_readNumber ∈ qT := qT_in (by decide +kernel) (by decide +kernel)
theorem slX1_readNumber : Cond.selects RX1 yX1_readNumber yX1_readNumber ∈ qT := qT_in (by decide +kernel) (by decide +kernel)
theorem mX1_46 : qLkV RX1 46 M_X1_readNumber 2 := ⟨lkX1_readNumber, kdX1_readNumber, slX1_readNumber, Or.inl lkmX1_46⟩
theorem cdX1_readDigits : Cond.code yX1_readDigits cX1_readDigits 5 (some .boolean) ∈ qT := qT_in (by decide +kernel) (by decide +kernel)
theorem lkX1_readDigits : qLk M_X1_readDigits 2 := ⟨cdX1_readDigits, iniX1, by decide +kernel, by decide +kernel⟩
theorem lkmX1_50 : Cond.methodLink RX1 50 yX1_readDigits ∈ qT := qT_in (by decide +kernel) (by decide +kernel)
theorem kdX1_readDigits : Cond.instanceMethod yX1_readDigits ∈ qT := qT_in (by decide +kernel) (by decide +kernel)
theorem slX1_readDigits : Cond.selects RX1 yX1_readDigits yX1_readDigits ∈ qT := qT_in (by decide +kernel) (by decide +kernel)
theorem mX1_50 : qLkV RX1 50 M_X1_readDigits 2 := ⟨lkX1_readDigits, kdX1_readDigits, slX1_readDigits, Or.inl lkmX1_50⟩
theorem cdX1_readFraction : Cond.code yX1_readFraction cX1_readFraction 2 (some .boolean) ∈ qT := qT_in (by decide +kernel) (by decide +kernel)
theorem lkX1_readFraction : qLk M_X1_readFraction 1 := ⟨cdX1_readFraction, iniX1, by decide +kernel, by decide +kernel⟩
theorem lkmX1_53 : Cond.methodLink RX1 53 yX1_readFraction ∈ qT := qT_in (by decide +kernel) (by decide +kernel)
theorem kdX1_readFraction : Cond.instanceMethod yX1_readFraction ∈ qT := qT_in (by decide +kernel) (by decide +kernel)
theorem slX1_readFraction : Cond.selects RX1 yX1_readFraction yX1_readFraction ∈ qT := qT_in (by decide +kernel) (by decide +kernel)
theorem mX1_53 : qLkV RX1 53 M_X1_readFraction 1 := ⟨lkX1_readFraction, kdX1_readFraction, slX1_readFraction, Or.inl lkmX1_53⟩
theorem cdX1_filledUp : Cond.code yX1_filledUp cX1_filledUp 8 (some .long) ∈ qT := qT_in (by decide +kernel) (by decide +kernel)
theorem lkX1_filledUp : qLk M_X1_filledUp 3 := ⟨cdX1_filledUp, iniX1, by decide +kernel, by decide +kernel⟩
theorem lkmX1_57 : Cond.methodLink RX1 57 yX1_filledUp ∈ qT := qT_in (by decide +kernel) (by decide +kernel)
theorem kdX1_filledUp : Cond.instanceMethod yX1_filledUp ∈ qT := qT_in (by decide +kernel) (by decide +kernel)
theorem slX1_filledUp : Cond.selects RX1 yX1_filledUp yX1_filledUp ∈ qT := qT_in (by decide +kernel) (by decide +kernel)
theorem mX1_57 : qLkV RX1 57 M_X1_filledUp 3 := ⟨lkX1_filledUp, kdX1_filledUp, slX1_filledUp, Or.inl lkmX1_57⟩
theorem cdX3_powerOfTen : Cond.code yX3_powerOfTen cX3_powerOfTen 4 (some .long) ∈ qT := qT_in (by decide +kernel) (by decide +kernel)
theorem lkX3_powerOfTen : qLk M_X3_powerOfTen 1 := ⟨cdX3_powerOfTen, iniX3, by decide +kernel, by decide +kernel⟩
theorem lkmX1_61 : Cond.methodLinkNest RX1 61 yX3_powerOfTen "CallNumbers" ∈ qN := qN_in (by decide +kernel) rfl
theorem kdX3_powerOfTen : Cond.static yX3_powerOfTen ∈ qT := qT_in (by decide +kernel) (by decide +kernel)
theorem mX1_61 : qLkS RX1 61 M_X3_powerOfTen 1 := ⟨lkX3_powerOfTen, kdX3_powerOfTen, Or.inr ⟨_, lkmX1_61⟩⟩
theorem cdX0_addLine : Cond.code yX0_addLine cX0_addLine 2 none ∈ qT := qT_in (by decide +kernel) (by decide +kernel)
theorem lkX0_addLine : qLk M_X0_addLine 1 := ⟨cdX0_addLine, iniX0, by decide +kernel, by decide +kernel⟩
theorem lkmX1_69 : Cond.methodLink RX1 69 yX0_addLine ∈ qT := qT_in (by decide +kernel) (by decide +kernel)
theorem kdX0_addLine : Cond.instanceMethod yX0_addLine ∈ qT := qT_in (by decide +kernel) (by decide +kernel)
theorem slX0_addLine : Cond.selects RX0 yX0_addLine yX0_addLine ∈ qT := qT_in (by decide +kernel) (by decide +kernel)
theorem mX1_69 : qLkV RX1 69 M_X0_addLine 1 := ⟨lkX0_addLine, kdX0_addLine, slX0_addLine, Or.inl lkmX1_69⟩
theorem cdX1_signAt : Cond.code yX1_signAt cX1_signAt 2 (some .int) ∈ qT := qT_in (by decide +kernel) (by decide +kernel)
theorem lkX1_signAt : qLk M_X1_signAt 1 := ⟨cdX1_signAt, iniX1, by decide +kernel, by decide +kernel⟩
theorem lkmX1_73 : Cond.methodLink RX1 73 yX1_signAt ∈ qT := qT_in (by decide +kernel) (by decide +kernel)
theorem kdX1_signAt : Cond.instanceMethod yX1_signAt ∈ qT := qT_in (by decide +kernel) (by decide +kernel)
theorem slX1_signAt : Cond.selects RX1 yX1_signAt yX1_signAt ∈ qT := qT_in (by decide +kernel) (by decide +kernel)
theorem mX1_73 : qLkV RX1 73 M_X1_signAt 1 := ⟨lkX1_signAt, kdX1_signAt, slX1_signAt, Or.inl lkmX1_73⟩
theorem cdX1_isCapital : Cond.code yX1_isCapital cX1_isCapital 1 (some .boolean) ∈ qT := qT_in (by decide +kernel) (by decide +kernel)
theorem lkX1_isCapital : qLk M_X1_isCapital 1 := ⟨cdX1_isCapital, iniX1, by decide +kernel, by decide +kernel⟩
theorem lkmX1_77 : Cond.methodLink RX1 77 yX1_isCapital ∈ qT := qT_in (by decide +kernel) (by decide +kernel)
theorem kdX1_isCapital : Cond.static yX1_isCapital ∈ qT := qT_in (by decide +kernel) (by decide +kernel)
theorem mX1_77 : qLkS RX1 77 M_X1_isCapital 1 := ⟨lkX1_isCapital, kdX1_isCapital, Or.inl lkmX1_77⟩
theorem cdX1_readDecimals : Cond.code yX1_readDecimals cX1_readDecimals 2 (some .boolean) ∈ qT := qT_in (by decide +kernel) (by decide +kernel)
theorem lkX1_readDecimals : qLk M_X1_readDecimals 1 := ⟨cdX1_readDecimals, iniX1, by decide +kernel, by decide +kernel⟩
theorem lkmX1_86 : Cond.methodLink RX1 86 yX1_readDecimals ∈ qT := qT_in (by decide +kernel) (by decide +kernel)
theorem kdX1_readDecimals : Cond.instanceMethod yX1_readDecimals ∈ qT := qT_in (by decide +kernel) (by decide +kernel)
theorem slX1_readDecimals : Cond.selects RX1 yX1_readDecimals yX1_readDecimals ∈ qT := qT_in (by decide +kernel) (by decide +kernel)
theorem mX1_86 : qLkV RX1 86 M_X1_readDecimals 1 := ⟨lkX1_readDecimals, kdX1_readDecimals, slX1_readDecimals, Or.inl lkmX1_86⟩
theorem cdX1_partThatBegins : Cond.code yX1_partThatBegins cX1_partThatBegins 2 (some .int) ∈ qT := qT_in (by decide +kernel) (by decide +kernel)
theorem lkX1_partThatBegins : qLk M_X1_partThatBegins 0 := ⟨cdX1_partThatBegins, iniX1, by decide +kernel, by decide +kernel⟩
theorem lkmX1_98 : Cond.methodLink RX1 98 yX1_partThatBegins ∈ qT := qT_in (by decide +kernel) (by decide +kernel)
theorem kdX1_partThatBegins : Cond.instanceMethod yX1_partThatBegins ∈ qT := qT_in (by decide +kernel) (by decide +kernel)
theorem slX1_partThatBegins : Cond.selects RX1 yX1_partThatBegins yX1_partThatBegins ∈ qT := qT_in (by decide +kernel) (by decide +kernel)
theorem mX1_98 : qLkV RX1 98 M_X1_partThatBegins 0 := ⟨lkX1_partThatBegins, kdX1_partThatBegins, slX1_partThatBegins, Or.inl lkmX1_98⟩
theorem cdX1_readYear : Cond.code yX1_readYear cX1_readYear 3 (some .boolean) ∈ qT := qT_in (by decide +kernel) (by decide +kernel)
theorem lkX1_readYear : qLk M_X1_readYear 1 := ⟨cdX1_readYear, iniX1, by decide +kernel, by decide +kernel⟩
theorem lkmX1_102 : Cond.methodLink RX1 102 yX1_readYear ∈ qT := qT_in (by decide +kernel) (by decide +kernel)
theorem kdX1_readYear : Cond.instanceMethod yX1_readYear ∈ qT := qT_in (by decide +kernel) (by decide +kernel)
theorem slX1_readYear : Cond.selects RX1 yX1_readYear yX1_readYear ∈ qT := qT_in (by decide +kernel) (by decide +kernel)
theorem mX1_102 : qLkV RX1 102 M_X1_readYear 1 := ⟨lkX1_readYear, kdX1_readYear, slX1_readYear, Or.inl lkmX1_102⟩
theorem cdX1_readVolume : Cond.code yX1_readVolume cX1_readVolume 4 (some .boolean) ∈ qT := qT_in (by decide +kernel) (by decide +kernel)
theorem lkX1_readVolume : qLk M_X1_readVolume 1 := ⟨cdX1_readVolume, iniX1, by decide +kernel, by decide +kernel⟩
theorem lkmX1_105 : Cond.methodLink RX1 105 yX1_readVolume ∈ qT := qT_in (by decide +kernel) (by decide +kernel)
theorem kdX1_readVolume : Cond.instanceMethod yX1_readVolume ∈ qT := qT_in (by decide +kernel) (by decide +kernel)
theorem slX1_readVolume : Cond.selects RX1 yX1_readVolume yX1_readVolume ∈ qT := qT_in (by decide +kernel) (by decide +kernel)
theorem mX1_105 : qLkV RX1 105 M_X1_readVolume 1 := ⟨lkX1_readVolume, kdX1_readVolume, slX1_readVolume, Or.inl lkmX1_105⟩
theorem cdX1_readMark : Cond.code yX1_readMark cX1_readMark 6 (some .boolean) ∈ qT := qT_in (by decide +kernel) (by decide +kernel)
theorem lkX1_readMark : qLk M_X1_readMark 1 := ⟨cdX1_readMark, iniX1, by decide +kernel, by decide +kernel⟩
theorem lkmX1_108 : Cond.methodLink RX1 108 yX1_readMark ∈ qT := qT_in (by decide +kernel) (by decide +kernel)
theorem kdX1_readMark : Cond.instanceMethod yX1_readMark ∈ qT := qT_in (by decide +kernel) (by decide +kernel)
theorem slX1_readMark : Cond.selects RX1 yX1_readMark yX1_readMark ∈ qT := qT_in (by decide +kernel) (by decide +kernel)
theorem mX1_108 : qLkV RX1 108 M_X1_readMark 1 := ⟨lkX1_readMark, kdX1_readMark, slX1_readMark, Or.inl lkmX1_108⟩
theorem cdX1_isDigit : Cond.code yX1_isDigit cX1_isDigit 1 (some .boolean) ∈ qT := qT_in (by decide +kernel) (by decide +kernel)
theorem lkX1_isDigit : qLk M_X1_isDigit 1 := ⟨cdX1_isDigit, iniX1, by decide +kernel, by decide +kernel⟩
theorem lkmX1_111 : Cond.methodLink RX1 111 yX1_isDigit ∈ qT := qT_in (by decide +kernel) (by decide +kernel)
theorem kdX1_isDigit : Cond.static yX1_isDigit ∈ qT := qT_in (by decide +kernel) (by decide +kernel)
theorem mX1_111 : qLkS RX1 111 M_X1_isDigit 1 := ⟨lkX1_isDigit, kdX1_isDigit, Or.inl lkmX1_111⟩
theorem cdX1_isSmall : Cond.code yX1_isSmall cX1_isSmall 1 (some .boolean) ∈ qT := qT_in (by decide +kernel) (by decide +kernel)
theorem lkX1_isSmall : qLk M_X1_isSmall 1 := ⟨cdX1_isSmall, iniX1, by decide +kernel, by decide +kernel⟩
theorem lkmX1_114 : Cond.methodLink RX1 114 yX1_isSmall ∈ qT := qT_in (by decide +kernel) (by decide +kernel)
theorem kdX1_isSmall : Cond.static yX1_isSmall ∈ qT := qT_in (by decide +kernel) (by decide +kernel)
theorem mX1_114 : qLkS RX1 114 M_X1_isSmall 1 := ⟨lkX1_isSmall, kdX1_isSmall, Or.inl lkmX1_114⟩
theorem cdX2_has : Cond.code yX2_has cX2_has 2 (some .boolean) ∈ qT := qT_in (by decide +kernel) (by decide +kernel)
theorem lkX2_has : qLk M_X2_has 1 := ⟨cdX2_has, iniX2, by decide +kernel, by decide +kernel⟩
theorem lkmX2_25 : Cond.methodLink RX2 25 yX2_has ∈ qT := qT_in (by decide +kernel) (by decide +kernel)
theorem kdX2_has : Cond.instanceMethod yX2_has ∈ qT := qT_in (by decide +kernel) (by decide +kernel)
theorem slX2_has : Cond.selects RX2 yX2_has yX2_has ∈ qT := qT_in (by decide +kernel) (by decide +kernel)
theorem mX2_25 : qLkV RX2 25 M_X2_has 1 := ⟨lkX2_has, kdX2_has, slX2_has, Or.inl lkmX2_25⟩
theorem cdX2_numberAt : Cond.code yX2_numberAt cX2_numberAt 2 (some (.object "CallNumbers$CallNumber")) ∈ qT := qT_in (by decide +kernel) (by decide +kernel)
theorem lkX2_numberAt : qLk M_X2_numberAt 1 := ⟨cdX2_numberAt, iniX2, by decide +kernel, by decide +kernel⟩
theorem lkmX2_29 : Cond.methodLink RX2 29 yX2_numberAt ∈ qT := qT_in (by decide +kernel) (by decide +kernel)
theorem kdX2_numberAt : Cond.instanceMethod yX2_numberAt ∈ qT := qT_in (by decide +kernel) (by decide +kernel)
theorem slX2_numberAt : Cond.selects RX2 yX2_numberAt yX2_numberAt ∈ qT := qT_in (by decide +kernel) (by decide +kernel)
theorem mX2_29 : qLkV RX2 29 M_X2_numberAt 1 := ⟨lkX2_numberAt, kdX2_numberAt, slX2_numberAt, Or.inl lkmX2_29⟩
theorem cdX3_order : Cond.code yX3_order cX3_order 3 (some .int) ∈ qT := qT_in (by decide +kernel) (by decide +kernel)
theorem lkX3_order : qLk M_X3_order 2 := ⟨cdX3_order, iniX3, by decide +kernel, by decide +kernel⟩
theorem lkmX2_33 : Cond.methodLinkNest RX2 33 yX3_order "CallNumbers" ∈ qN := qN_in (by decide +kernel) rfl
theorem kdX3_order : Cond.static yX3_order ∈ qT := qT_in (by decide +kernel) (by decide +kernel)
theorem mX2_33 : qLkS RX2 33 M_X3_order 2 := ⟨lkX3_order, kdX3_order, Or.inr ⟨_, lkmX2_33⟩⟩
theorem cdX0_hasClassOf : Cond.code yX0_hasClassOf cX0_hasClassOf 2 (some .boolean) ∈ qT := qT_in (by decide +kernel) (by decide +kernel)
theorem lkX0_hasClassOf : qLk M_X0_hasClassOf 1 := ⟨cdX0_hasClassOf, iniX0, by decide +kernel, by decide +kernel⟩
theorem lkmX2_37 : Cond.methodLink RX2 37 yX0_hasClassOf ∈ qT := qT_in (by decide +kernel) (by decide +kernel)
theorem kdX0_hasClassOf : Cond.instanceMethod yX0_hasClassOf ∈ qT := qT_in (by decide +kernel) (by decide +kernel)
theorem slX0_hasClassOf : Cond.selects RX0 yX0_hasClassOf yX0_hasClassOf ∈ qT := qT_in (by decide +kernel) (by decide +kernel)
theorem mX2_37 : qLkV RX2 37 M_X0_hasClassOf 1 := ⟨lkX0_hasClassOf, kdX0_hasClassOf, slX0_hasClassOf, Or.inl lkmX2_37⟩
theorem cdX1_init : Cond.code yX1_init cX1_init 2 none ∈ qT := qT_in (by decide +kernel) (by decide +kernel)
theorem lkX1_init : qLk M_X1_init 1 := ⟨cdX1_init, iniX1, by decide +kernel, by decide +kernel⟩
theorem lkmX3_9 : Cond.methodLink RX3 9 yX1_init ∈ qT := qT_in (by decide +kernel) (by decide +kernel)
theorem kdX1_init : Cond.instanceMethod yX1_init ∈ qT := qT_in (by decide +kernel) (by decide +kernel)
theorem mX3_9 : qLkI RX3 9 M_X1_init 1 := ⟨lkX1_init, rfl, rfl, kdX1_init, Or.inl lkmX3_9⟩
theorem cdX2_init : Cond.code yX2_init cX2_init 1 none ∈ qT := qT_in (by decide +kernel) (by decide +kernel)
theorem lkX2_init : qLk M_X2_init 0 := ⟨cdX2_init, iniX2, by decide +kernel, by decide +kernel⟩
theorem lkmX3_20 : Cond.methodLinkNest RX3 20 yX2_init "CallNumbers" ∈ qN := qN_in (by decide +kernel) rfl
theorem kdX2_init : Cond.instanceMethod yX2_init ∈ qT := qT_in (by decide +kernel) (by decide +kernel)
theorem mX3_20 : qLkI RX3 20 M_X2_init 0 := ⟨lkX2_init, rfl, rfl, kdX2_init, Or.inr ⟨_, lkmX3_20⟩⟩
theorem cdX1_collect : Cond.code yX1_collect cX1_collect 2 none ∈ qT := qT_in (by decide +kernel) (by decide +kernel)
theorem lkX1_collect : qLk M_X1_collect 1 := ⟨cdX1_collect, iniX1, by decide +kernel, by decide +kernel⟩
theorem lkmX3_32 : Cond.methodLink RX3 32 yX1_collect ∈ qT := qT_in (by decide +kernel) (by decide +kernel)
theorem kdX1_collect : Cond.instanceMethod yX1_collect ∈ qT := qT_in (by decide +kernel) (by decide +kernel)
theorem slX1_collect : Cond.selects RX1 yX1_collect yX1_collect ∈ qT := qT_in (by decide +kernel) (by decide +kernel)
theorem mX3_32 : qLkV RX3 32 M_X1_collect 1 := ⟨lkX1_collect, kdX1_collect, slX1_collect, Or.inl lkmX3_32⟩
theorem cdX1_readCollected : Cond.code yX1_readCollected cX1_readCollected 3 (some (.object "CallNumbers$CallNumber")) ∈ qT := qT_in (by decide +kernel) (by decide +kernel)
theorem lkX1_readCollected : qLk M_X1_readCollected 0 := ⟨cdX1_readCollected, iniX1, by decide +kernel, by decide +kernel⟩
theorem lkmX3_36 : Cond.methodLink RX3 36 yX1_readCollected ∈ qT := qT_in (by decide +kernel) (by decide +kernel)
theorem kdX1_readCollected : Cond.instanceMethod yX1_readCollected ∈ qT := qT_in (by decide +kernel) (by decide +kernel)
theorem slX1_readCollected : Cond.selects RX1 yX1_readCollected yX1_readCollected ∈ qT := qT_in (by decide +kernel) (by decide +kernel)
theorem mX3_36 : qLkV RX3 36 M_X1_readCollected 0 := ⟨lkX1_readCollected, kdX1_readCollected, slX1_readCollected, Or.inl lkmX3_36⟩
theorem cdX1_forget : Cond.code yX1_forget cX1_forget 1 none ∈ qT := qT_in (by decide +kernel) (by decide +kernel)
theorem lkX1_forget : qLk M_X1_forget 0 := ⟨cdX1_forget, iniX1, by decide +kernel, by decide +kernel⟩
theorem lkmX3_40 : Cond.methodLink RX3 40 yX1_forget ∈ qT := qT_in (by decide +kernel) (by decide +kernel)
theorem kdX1_forget : Cond.instanceMethod yX1_forget ∈ qT := qT_in (by decide +kernel) (by decide +kernel)
theorem slX1_forget : Cond.selects RX1 yX1_forget yX1_forget ∈ qT := qT_in (by decide +kernel) (by decide +kernel)
theorem mX3_40 : qLkV RX3 40 M_X1_forget 0 := ⟨lkX1_forget, kdX1_forget, slX1_forget, Or.inl lkmX3_40⟩
theorem cdX1_place : Cond.code yX1_place cX1_place 1 (some .int) ∈ qT := qT_in (by decide +kernel) (by decide +kernel)
theorem lkX1_place : qLk M_X1_place 0 := ⟨cdX1_place, iniX1, by decide +kernel, by decide +kernel⟩
theorem lkmX3_43 : Cond.methodLink RX3 43 yX1_place ∈ qT := qT_in (by decide +kernel) (by decide +kernel)
theorem kdX1_place : Cond.instanceMethod yX1_place ∈ qT := qT_in (by decide +kernel) (by decide +kernel)
theorem slX1_place : Cond.selects RX1 yX1_place yX1_place ∈ qT := qT_in (by decide +kernel) (by decide +kernel)
theorem mX3_43 : qLkV RX3 43 M_X1_place 0 := ⟨lkX1_place, kdX1_place, slX1_place, Or.inl lkmX3_43⟩
theorem cdX0_partCount : Cond.code yX0_partCount cX0_partCount 1 (some .int) ∈ qT := qT_in (by decide +kernel) (by decide +kernel)
theorem lkX0_partCount : qLk M_X0_partCount 0 := ⟨cdX0_partCount, iniX0, by decide +kernel, by decide +kernel⟩
theorem lkmX3_47 : Cond.methodLink RX3 47 yX0_partCount ∈ qT := qT_in (by decide +kernel) (by decide +kernel)
theorem kdX0_partCount : Cond.instanceMethod yX0_partCount ∈ qT := qT_in (by decide +kernel) (by decide +kernel)
theorem slX0_partCount : Cond.selects RX0 yX0_partCount yX0_partCount ∈ qT := qT_in (by decide +kernel) (by decide +kernel)
theorem mX3_47 : qLkV RX3 47 M_X0_partCount 0 := ⟨lkX0_partCount, kdX0_partCount, slX0_partCount, Or.inl lkmX3_47⟩
theorem cdX0_capitalAt : Cond.code yX0_capitalAt cX0_capitalAt 2 (some .int) ∈ qT := qT_in (by decide +kernel) (by decide +kernel)
theorem lkX0_capitalAt : qLk M_X0_capitalAt 1 := ⟨cdX0_capitalAt, iniX0, by decide +kernel, by decide +kernel⟩
theorem lkmX3_76 : Cond.methodLink RX3 76 yX0_capitalAt ∈ qT := qT_in (by decide +kernel) (by decide +kernel)
theorem kdX0_capitalAt : Cond.instanceMethod yX0_capitalAt ∈ qT := qT_in (by decide +kernel) (by decide +kernel)
theorem slX0_capitalAt : Cond.selects RX0 yX0_capitalAt yX0_capitalAt ∈ qT := qT_in (by decide +kernel) (by decide +kernel)
theorem mX3_76 : qLkV RX3 76 M_X0_capitalAt 1 := ⟨lkX0_capitalAt, kdX0_capitalAt, slX0_capitalAt, Or.inl lkmX3_76⟩
theorem cdX2_countBefore : Cond.code yX2_countBefore cX2_countBefore 5 (some .int) ∈ qT := qT_in (by decide +kernel) (by decide +kernel)
theorem lkX2_countBefore : qLk M_X2_countBefore 1 := ⟨cdX2_countBefore, iniX2, by decide +kernel, by decide +kernel⟩
theorem lkmX3_80 : Cond.methodLink RX3 80 yX2_countBefore ∈ qT := qT_in (by decide +kernel) (by decide +kernel)
theorem kdX2_countBefore : Cond.instanceMethod yX2_countBefore ∈ qT := qT_in (by decide +kernel) (by decide +kernel)
theorem slX2_countBefore : Cond.selects RX2 yX2_countBefore yX2_countBefore ∈ qT := qT_in (by decide +kernel) (by decide +kernel)
theorem mX3_80 : qLkV RX3 80 M_X2_countBefore 1 := ⟨lkX2_countBefore, kdX2_countBefore, slX2_countBefore, Or.inl lkmX3_80⟩
theorem cdX2_isSameAt : Cond.code yX2_isSameAt cX2_isSameAt 4 (some .boolean) ∈ qT := qT_in (by decide +kernel) (by decide +kernel)
theorem lkX2_isSameAt : qLk M_X2_isSameAt 2 := ⟨cdX2_isSameAt, iniX2, by decide +kernel, by decide +kernel⟩
theorem lkmX3_84 : Cond.methodLink RX3 84 yX2_isSameAt ∈ qT := qT_in (by decide +kernel) (by decide +kernel)
theorem kdX2_isSameAt : Cond.instanceMethod yX2_isSameAt ∈ qT := qT_in (by decide +kernel) (by decide +kernel)
theorem slX2_isSameAt : Cond.selects RX2 yX2_isSameAt yX2_isSameAt ∈ qT := qT_in (by decide +kernel) (by decide +kernel)
theorem mX3_84 : qLkV RX3 84 M_X2_isSameAt 2 := ⟨lkX2_isSameAt, kdX2_isSameAt, slX2_isSameAt, Or.inl lkmX3_84⟩
theorem cdX2_insert : Cond.code yX2_insert cX2_insert 5 (some .boolean) ∈ qT := qT_in (by decide +kernel) (by decide +kernel)
theorem lkX2_insert : qLk M_X2_insert 3 := ⟨cdX2_insert, iniX2, by decide +kernel, by decide +kernel⟩
theorem lkmX3_88 : Cond.methodLink RX3 88 yX2_insert ∈ qT := qT_in (by decide +kernel) (by decide +kernel)
theorem kdX2_insert : Cond.instanceMethod yX2_insert ∈ qT := qT_in (by decide +kernel) (by decide +kernel)
theorem slX2_insert : Cond.selects RX2 yX2_insert yX2_insert ∈ qT := qT_in (by decide +kernel) (by decide +kernel)
theorem mX3_88 : qLkV RX3 88 M_X2_insert 3 := ⟨lkX2_insert, kdX2_insert, slX2_insert, Or.inl lkmX3_88⟩
theorem cdX2_recordAt : Cond.code yX2_recordAt cX2_recordAt 2 (some .int) ∈ qT := qT_in (by decide +kernel) (by decide +kernel)
theorem lkX2_recordAt : qLk M_X2_recordAt 1 := ⟨cdX2_recordAt, iniX2, by decide +kernel, by decide +kernel⟩
theorem lkmX3_92 : Cond.methodLink RX3 92 yX2_recordAt ∈ qT := qT_in (by decide +kernel) (by decide +kernel)
theorem kdX2_recordAt : Cond.instanceMethod yX2_recordAt ∈ qT := qT_in (by decide +kernel) (by decide +kernel)
theorem slX2_recordAt : Cond.selects RX2 yX2_recordAt yX2_recordAt ∈ qT := qT_in (by decide +kernel) (by decide +kernel)
theorem mX3_92 : qLkV RX3 92 M_X2_recordAt 1 := ⟨lkX2_recordAt, kdX2_recordAt, slX2_recordAt, Or.inl lkmX3_92⟩
theorem cdX2_remove : Cond.code yX2_remove cX2_remove 3 none ∈ qT := qT_in (by decide +kernel) (by decide +kernel)
theorem lkX2_remove : qLk M_X2_remove 1 := ⟨cdX2_remove, iniX2, by decide +kernel, by decide +kernel⟩
theorem lkmX3_95 : Cond.methodLink RX3 95 yX2_remove ∈ qT := qT_in (by decide +kernel) (by decide +kernel)
theorem kdX2_remove : Cond.instanceMethod yX2_remove ∈ qT := qT_in (by decide +kernel) (by decide +kernel)
theorem slX2_remove : Cond.selects RX2 yX2_remove yX2_remove ∈ qT := qT_in (by decide +kernel) (by decide +kernel)
theorem mX3_95 : qLkV RX3 95 M_X2_remove 1 := ⟨lkX2_remove, kdX2_remove, slX2_remove, Or.inl lkmX3_95⟩
theorem lkmX3_98 : Cond.methodLink RX3 98 yX2_numberAt ∈ qT := qT_in (by decide +kernel) (by decide +kernel)
theorem mX3_98 : qLkV RX3 98 M_X2_numberAt 1 := ⟨lkX2_numberAt, kdX2_numberAt, slX2_numberAt, Or.inl lkmX3_98⟩
theorem lkmX3_102 : Cond.methodLink RX3 102 yX3_order ∈ qT := qT_in (by decide +kernel) (by decide +kernel)
theorem mX3_102 : qLkS RX3 102 M_X3_order 2 := ⟨lkX3_order, kdX3_order, Or.inl lkmX3_102⟩
theorem cdX3_freeWithMore : Cond.code yX3_freeWithMore cX3_freeWithMore 8 (some .int) ∈ qT := qT_in (by decide +kernel) (by decide +kernel)
theorem lkX3_freeWithMore : qLk M_X3_freeWithMore 2 := ⟨cdX3_freeWithMore, iniX3, by decide +kernel, by decide +kernel⟩
theorem lkmX3_109 : Cond.methodLink RX3 109 yX3_freeWithMore ∈ qT := qT_in (by decide +kernel) (by decide +kernel)
theorem kdX3_freeWithMore : Cond.instanceMethod yX3_freeWithMore ∈ qT := qT_in (by decide +kernel) (by decide +kernel)
theorem slX3_freeWithMore : Cond.selects RX3 yX3_freeWithMore yX3_freeWithMore ∈ qT := qT_in (by decide +kernel) (by decide +kernel)
theorem mX3_109 : qLkV RX3 109 M_X3_freeWithMore 2 := ⟨lkX3_freeWithMore, kdX3_freeWithMore, slX3_freeWithMore, Or.inl lkmX3_109⟩
theorem cdX0_lineAt : Cond.code yX0_lineAt cX0_lineAt 2 (some .int) ∈ qT := qT_in (by decide +kernel) (by decide +kernel)
theorem lkX0_lineAt : qLk M_X0_lineAt 1 := ⟨cdX0_lineAt, iniX0, by decide +kernel, by decide +kernel⟩
theorem lkmX3_113 : Cond.methodLink RX3 113 yX0_lineAt ∈ qT := qT_in (by decide +kernel) (by decide +kernel)
theorem kdX0_lineAt : Cond.instanceMethod yX0_lineAt ∈ qT := qT_in (by decide +kernel) (by decide +kernel)
theorem slX0_lineAt : Cond.selects RX0 yX0_lineAt yX0_lineAt ∈ qT := qT_in (by decide +kernel) (by decide +kernel)
theorem mX3_113 : qLkV RX3 113 M_X0_lineAt 1 := ⟨lkX0_lineAt, kdX0_lineAt, slX0_lineAt, Or.inl lkmX3_113⟩
theorem cdX2_firstWith : Cond.code yX2_firstWith cX2_firstWith 3 (some .int) ∈ qT := qT_in (by decide +kernel) (by decide +kernel)
theorem lkX2_firstWith : qLk M_X2_firstWith 1 := ⟨cdX2_firstWith, iniX2, by decide +kernel, by decide +kernel⟩
theorem lkmX3_116 : Cond.methodLink RX3 116 yX2_firstWith ∈ qT := qT_in (by decide +kernel) (by decide +kernel)
theorem kdX2_firstWith : Cond.instanceMethod yX2_firstWith ∈ qT := qT_in (by decide +kernel) (by decide +kernel)
theorem slX2_firstWith : Cond.selects RX2 yX2_firstWith yX2_firstWith ∈ qT := qT_in (by decide +kernel) (by decide +kernel)
theorem mX3_116 : qLkV RX3 116 M_X2_firstWith 1 := ⟨lkX2_firstWith, kdX2_firstWith, slX2_firstWith, Or.inl lkmX3_116⟩
theorem lkmX3_119 : Cond.methodLink RX3 119 yX3_powerOfTen ∈ qT := qT_in (by decide +kernel) (by decide +kernel)
theorem mX3_119 : qLkS RX3 119 M_X3_powerOfTen 1 := ⟨lkX3_powerOfTen, kdX3_powerOfTen, Or.inl lkmX3_119⟩
theorem cdX0_cutterAsWritten : Cond.code yX0_cutterAsWritten cX0_cutterAsWritten 3 (some .int) ∈ qT := qT_in (by decide +kernel) (by decide +kernel)
theorem lkX0_cutterAsWritten : qLk M_X0_cutterAsWritten 0 := ⟨cdX0_cutterAsWritten, iniX0, by decide +kernel, by decide +kernel⟩
theorem lkmX3_123 : Cond.methodLink RX3 123 yX0_cutterAsWritten ∈ qT := qT_in (by decide +kernel) (by decide +kernel)
theorem kdX0_cutterAsWritten : Cond.instanceMethod yX0_cutterAsWritten ∈ qT := qT_in (by decide +kernel) (by decide +kernel)
theorem slX0_cutterAsWritten : Cond.selects RX0 yX0_cutterAsWritten yX0_cutterAsWritten ∈ qT := qT_in (by decide +kernel) (by decide +kernel)
theorem mX3_123 : qLkV RX3 123 M_X0_cutterAsWritten 0 := ⟨lkX0_cutterAsWritten, kdX0_cutterAsWritten, slX0_cutterAsWritten, Or.inl lkmX3_123⟩
theorem cdX3_hasNoZero : Cond.code yX3_hasNoZero cX3_hasNoZero 3 (some .boolean) ∈ qT := qT_in (by decide +kernel) (by decide +kernel)
theorem lkX3_hasNoZero : qLk M_X3_hasNoZero 1 := ⟨cdX3_hasNoZero, iniX3, by decide +kernel, by decide +kernel⟩
theorem lkmX3_126 : Cond.methodLink RX3 126 yX3_hasNoZero ∈ qT := qT_in (by decide +kernel) (by decide +kernel)
theorem kdX3_hasNoZero : Cond.static yX3_hasNoZero ∈ qT := qT_in (by decide +kernel) (by decide +kernel)
theorem mX3_126 : qLkS RX3 126 M_X3_hasNoZero 1 := ⟨lkX3_hasNoZero, kdX3_hasNoZero, Or.inl lkmX3_126⟩
theorem cdX2_hasCutter : Cond.code yX2_hasCutter cX2_hasCutter 5 (some .boolean) ∈ qT := qT_in (by decide +kernel) (by decide +kernel)
theorem lkX2_hasCutter : qLk M_X2_hasCutter 2 := ⟨cdX2_hasCutter, iniX2, by decide +kernel, by decide +kernel⟩
theorem lkmX3_130 : Cond.methodLink RX3 130 yX2_hasCutter ∈ qT := qT_in (by decide +kernel) (by decide +kernel)
theorem kdX2_hasCutter : Cond.instanceMethod yX2_hasCutter ∈ qT := qT_in (by decide +kernel) (by decide +kernel)
theorem slX2_hasCutter : Cond.selects RX2 yX2_hasCutter yX2_hasCutter ∈ qT := qT_in (by decide +kernel) (by decide +kernel)
theorem mX3_130 : qLkV RX3 130 M_X2_hasCutter 2 := ⟨lkX2_hasCutter, kdX2_hasCutter, slX2_hasCutter, Or.inl lkmX3_130⟩
theorem cdX3_side : Cond.code yX3_side cX3_side 4 (some .int) ∈ qT := qT_in (by decide +kernel) (by decide +kernel)
theorem lkX3_side : qLk M_X3_side 2 := ⟨cdX3_side, iniX3, by decide +kernel, by decide +kernel⟩
theorem lkmX3_139 : Cond.methodLink RX3 139 yX3_side ∈ qT := qT_in (by decide +kernel) (by decide +kernel)
theorem kdX3_side : Cond.static yX3_side ∈ qT := qT_in (by decide +kernel) (by decide +kernel)
theorem mX3_139 : qLkS RX3 139 M_X3_side 2 := ⟨lkX3_side, kdX3_side, Or.inl lkmX3_139⟩
theorem cdX4_look : Cond.code yX4_look cX4_look 1 (some .int) ∈ qT := qT_in (by decide +kernel) (by decide +kernel)
theorem lkX4_look : qLk M_X4_look 0 := ⟨cdX4_look, iniX4, by decide +kernel, by decide +kernel⟩
theorem lkmX4_45 : Cond.methodLink RX4 45 yX4_look ∈ qT := qT_in (by decide +kernel) (by decide +kernel)
theorem kdX4_look : Cond.instanceMethod yX4_look ∈ qT := qT_in (by decide +kernel) (by decide +kernel)
theorem slX4_look : Cond.selects RX4 yX4_look yX4_look ∈ qT := qT_in (by decide +kernel) (by decide +kernel)
theorem mX4_45 : qLkV RX4 45 M_X4_look 0 := ⟨lkX4_look, kdX4_look, slX4_look, Or.inl lkmX4_45⟩
theorem cdX4_isDigit : Cond.code yX4_isDigit cX4_isDigit 1 (some .boolean) ∈ qT := qT_in (by decide +kernel) (by decide +kernel)
theorem lkX4_isDigit : qLk M_X4_isDigit 1 := ⟨cdX4_isDigit, iniX4, by decide +kernel, by decide +kernel⟩
theorem lkmX4_49 : Cond.methodLink RX4 49 yX4_isDigit ∈ qT := qT_in (by decide +kernel) (by decide +kernel)
theorem kdX4_isDigit : Cond.static yX4_isDigit ∈ qT := qT_in (by decide +kernel) (by decide +kernel)
theorem mX4_49 : qLkS RX4 49 M_X4_isDigit 1 := ⟨lkX4_isDigit, kdX4_isDigit, Or.inl lkmX4_49⟩
theorem cdX4_bad : Cond.code yX4_bad cX4_bad 2 (some .boolean) ∈ qT := qT_in (by decide +kernel) (by decide +kernel)
theorem lkX4_bad : qLk M_X4_bad 1 := ⟨cdX4_bad, iniX4, by decide +kernel, by decide +kernel⟩
theorem lkmX4_53 : Cond.methodLink RX4 53 yX4_bad ∈ qT := qT_in (by decide +kernel) (by decide +kernel)
theorem kdX4_bad : Cond.instanceMethod yX4_bad ∈ qT := qT_in (by decide +kernel) (by decide +kernel)
theorem slX4_bad : Cond.selects RX4 yX4_bad yX4_bad ∈ qT := qT_in (by decide +kernel) (by decide +kernel)
theorem mX4_53 : qLkV RX4 53 M_X4_bad 1 := ⟨lkX4_bad, kdX4_bad, slX4_bad, Or.inl lkmX4_53⟩
theorem cdX4_isCapital : Cond.code yX4_isCapital cX4_isCapital 1 (some .boolean) ∈ qT := qT_in (by decide +kernel) (by decide +kernel)
theorem lkX4_isCapital : qLk M_X4_isCapital 1 := ⟨cdX4_isCapital, iniX4, by decide +kernel, by decide +kernel⟩
theorem lkmX4_56 : Cond.methodLink RX4 56 yX4_isCapital ∈ qT := qT_in (by decide +kernel) (by decide +kernel)
theorem kdX4_isCapital : Cond.static yX4_isCapital ∈ qT := qT_in (by decide +kernel) (by decide +kernel)
theorem mX4_56 : qLkS RX4 56 M_X4_isCapital 1 := ⟨lkX4_isCapital, kdX4_isCapital, Or.inl lkmX4_56⟩
theorem cdX4_number : Cond.code yX4_number cX4_number 5 (some .boolean) ∈ qT := qT_in (by decide +kernel) (by decide +kernel)
theorem lkX4_number : qLk M_X4_number 2 := ⟨cdX4_number, iniX4, by decide +kernel, by decide +kernel⟩
theorem lkmX4_59 : Cond.methodLink RX4 59 yX4_number ∈ qT := qT_in (by decide +kernel) (by decide +kernel)
theorem kdX4_number : Cond.instanceMethod yX4_number ∈ qT := qT_in (by decide +kernel) (by decide +kernel)
theorem slX4_number : Cond.selects RX4 yX4_number yX4_number ∈ qT := qT_in (by decide +kernel) (by decide +kernel)
theorem mX4_59 : qLkV RX4 59 M_X4_number 2 := ⟨lkX4_number, kdX4_number, slX4_number, Or.inl lkmX4_59⟩
theorem cdX4_digits : Cond.code yX4_digits cX4_digits 4 (some .boolean) ∈ qT := qT_in (by decide +kernel) (by decide +kernel)
theorem lkX4_digits : qLk M_X4_digits 2 := ⟨cdX4_digits, iniX4, by decide +kernel, by decide +kernel⟩
theorem lkmX4_63 : Cond.methodLink RX4 63 yX4_digits ∈ qT := qT_in (by decide +kernel) (by decide +kernel)
theorem kdX4_digits : Cond.instanceMethod yX4_digits ∈ qT := qT_in (by decide +kernel) (by decide +kernel)
theorem slX4_digits : Cond.selects RX4 yX4_digits yX4_digits ∈ qT := qT_in (by decide +kernel) (by decide +kernel)
theorem mX4_63 : qLkV RX4 63 M_X4_digits 2 := ⟨lkX4_digits, kdX4_digits, slX4_digits, Or.inl lkmX4_63⟩
theorem cdX4_isSmall : Cond.code yX4_isSmall cX4_isSmall 1 (some .boolean) ∈ qT := qT_in (by decide +kernel) (by decide +kernel)
theorem lkX4_isSmall : qLk M_X4_isSmall 1 := ⟨cdX4_isSmall, iniX4, by decide +kernel, by decide +kernel⟩
theorem lkmX4_66 : Cond.methodLink RX4 66 yX4_isSmall ∈ qT := qT_in (by decide +kernel) (by decide +kernel)
theorem kdX4_isSmall : Cond.static yX4_isSmall ∈ qT := qT_in (by decide +kernel) (by decide +kernel)
theorem mX4_66 : qLkS RX4 66 M_X4_isSmall 1 := ⟨lkX4_isSmall, kdX4_isSmall, Or.inl lkmX4_66⟩
theorem cdX4_readClass : Cond.code yX4_readClass cX4_readClass 3 (some .boolean) ∈ qT := qT_in (by decide +kernel) (by decide +kernel)
theorem lkX4_readClass : qLk M_X4_readClass 0 := ⟨cdX4_readClass, iniX4, by decide +kernel, by decide +kernel⟩
theorem lkmX4_69 : Cond.methodLink RX4 69 yX4_readClass ∈ qT := qT_in (by decide +kernel) (by decide +kernel)
theorem kdX4_readClass : Cond.instanceMethod yX4_readClass ∈ qT := qT_in (by decide +kernel) (by decide +kernel)
theorem slX4_readClass : Cond.selects RX4 yX4_readClass yX4_readClass ∈ qT := qT_in (by decide +kernel) (by decide +kernel)
theorem mX4_69 : qLkV RX4 69 M_X4_readClass 0 := ⟨lkX4_readClass, kdX4_readClass, slX4_readClass, Or.inl lkmX4_69⟩
theorem cdX4_space : Cond.code yX4_space cX4_space 1 (some .boolean) ∈ qT := qT_in (by decide +kernel) (by decide +kernel)
theorem lkX4_space : qLk M_X4_space 0 := ⟨cdX4_space, iniX4, by decide +kernel, by decide +kernel⟩
theorem lkmX4_73 : Cond.methodLink RX4 73 yX4_space ∈ qT := qT_in (by decide +kernel) (by decide +kernel)
theorem kdX4_space : Cond.instanceMethod yX4_space ∈ qT := qT_in (by decide +kernel) (by decide +kernel)
theorem slX4_space : Cond.selects RX4 yX4_space yX4_space ∈ qT := qT_in (by decide +kernel) (by decide +kernel)
theorem mX4_73 : qLkV RX4 73 M_X4_space 0 := ⟨lkX4_space, kdX4_space, slX4_space, Or.inl lkmX4_73⟩
theorem cdX4_readCutter : Cond.code yX4_readCutter cX4_readCutter 1 (some .boolean) ∈ qT := qT_in (by decide +kernel) (by decide +kernel)
theorem lkX4_readCutter : qLk M_X4_readCutter 0 := ⟨cdX4_readCutter, iniX4, by decide +kernel, by decide +kernel⟩
theorem lkmX4_76 : Cond.methodLink RX4 76 yX4_readCutter ∈ qT := qT_in (by decide +kernel) (by decide +kernel)
theorem kdX4_readCutter : Cond.instanceMethod yX4_readCutter ∈ qT := qT_in (by decide +kernel) (by decide +kernel)
theorem slX4_readCutter : Cond.selects RX4 yX4_readCutter yX4_readCutter ∈ qT := qT_in (by decide +kernel) (by decide +kernel)
theorem mX4_76 : qLkV RX4 76 M_X4_readCutter 0 := ⟨lkX4_readCutter, kdX4_readCutter, slX4_readCutter, Or.inl lkmX4_76⟩
theorem cdX4_readYear : Cond.code yX4_readYear cX4_readYear 3 (some .boolean) ∈ qT := qT_in (by decide +kernel) (by decide +kernel)
theorem lkX4_readYear : qLk M_X4_readYear 0 := ⟨cdX4_readYear, iniX4, by decide +kernel, by decide +kernel⟩
theorem lkmX4_79 : Cond.methodLink RX4 79 yX4_readYear ∈ qT := qT_in (by decide +kernel) (by decide +kernel)
theorem kdX4_readYear : Cond.instanceMethod yX4_readYear ∈ qT := qT_in (by decide +kernel) (by decide +kernel)
theorem slX4_readYear : Cond.selects RX4 yX4_readYear yX4_readYear ∈ qT := qT_in (by decide +kernel) (by decide +kernel)
theorem mX4_79 : qLkV RX4 79 M_X4_readYear 0 := ⟨lkX4_readYear, kdX4_readYear, slX4_readYear, Or.inl lkmX4_79⟩
theorem cdX4_readVolume : Cond.code yX4_readVolume cX4_readVolume 1 (some .boolean) ∈ qT := qT_in (by decide +kernel) (by decide +kernel)
theorem lkX4_readVolume : qLk M_X4_readVolume 0 := ⟨cdX4_readVolume, iniX4, by decide +kernel, by decide +kernel⟩
theorem lkmX4_82 : Cond.methodLink RX4 82 yX4_readVolume ∈ qT := qT_in (by decide +kernel) (by decide +kernel)
theorem kdX4_readVolume : Cond.instanceMethod yX4_readVolume ∈ qT := qT_in (by decide +kernel) (by decide +kernel)
theorem slX4_readVolume : Cond.selects RX4 yX4_readVolume yX4_readVolume ∈ qT := qT_in (by decide +kernel) (by decide +kernel)
theorem mX4_82 : qLkV RX4 82 M_X4_readVolume 0 := ⟨lkX4_readVolume, kdX4_readVolume, slX4_readVolume, Or.inl lkmX4_82⟩
theorem cdX4_readMark : Cond.code yX4_readMark cX4_readMark 2 (some .boolean) ∈ qT := qT_in (by decide +kernel) (by decide +kernel)
theorem lkX4_readMark : qLk M_X4_readMark 0 := ⟨cdX4_readMark, iniX4, by decide +kernel, by decide +kernel⟩
theorem lkmX4_85 : Cond.methodLink RX4 85 yX4_readMark ∈ qT := qT_in (by decide +kernel) (by decide +kernel)
theorem kdX4_readMark : Cond.instanceMethod yX4_readMark ∈ qT := qT_in (by decide +kernel) (by decide +kernel)
theorem slX4_readMark : Cond.selects RX4 yX4_readMark yX4_readMark ∈ qT := qT_in (by decide +kernel) (by decide +kernel)
theorem mX4_85 : qLkV RX4 85 M_X4_readMark 0 := ⟨lkX4_readMark, kdX4_readMark, slX4_readMark, Or.inl lkmX4_85⟩
theorem cdX4_reads : Cond.code yX4_reads cX4_reads 5 (some .boolean) ∈ qT := qT_in (by decide +kernel) (by decide +kernel)
theorem lkX4_reads : qLk M_X4_reads 0 := ⟨cdX4_reads, iniX4, by decide +kernel, by decide +kernel⟩
theorem lkmX4_88 : Cond.methodLink RX4 88 yX4_reads ∈ qT := qT_in (by decide +kernel) (by decide +kernel)
theorem kdX4_reads : Cond.instanceMethod yX4_reads ∈ qT := qT_in (by decide +kernel) (by decide +kernel)
theorem slX4_reads : Cond.selects RX4 yX4_reads yX4_reads ∈ qT := qT_in (by decide +kernel) (by decide +kernel)
theorem mX4_88 : qLkV RX4 88 M_X4_reads 0 := ⟨lkX4_reads, kdX4_reads, slX4_reads, Or.inl lkmX4_88⟩
theorem cdX4_value : Cond.code yX4_value cX4_value 6 (some .long) ∈ qT := qT_in (by decide +kernel) (by decide +kernel)
theorem lkX4_value : qLk M_X4_value 3 := ⟨cdX4_value, iniX4, by decide +kernel, by decide +kernel⟩
theorem lkmX4_99 : Cond.methodLink RX4 99 yX4_value ∈ qT := qT_in (by decide +kernel) (by decide +kernel)
theorem kdX4_value : Cond.static yX4_value ∈ qT := qT_in (by decide +kernel) (by decide +kernel)
theorem mX4_99 : qLkS RX4 99 M_X4_value 3 := ⟨lkX4_value, kdX4_value, Or.inl lkmX4_99⟩
theorem cdX4_marks : Cond.code yX4_marks cX4_marks 2 (some .int) ∈ qT := qT_in (by decide +kernel) (by decide +kernel)
theorem lkX4_marks : qLk M_X4_marks 0 := ⟨cdX4_marks, iniX4, by decide +kernel, by decide +kernel⟩
theorem lkmX4_105 : Cond.methodLink RX4 105 yX4_marks ∈ qT := qT_in (by decide +kernel) (by decide +kernel)
theorem kdX4_marks : Cond.instanceMethod yX4_marks ∈ qT := qT_in (by decide +kernel) (by decide +kernel)
theorem slX4_marks : Cond.selects RX4 yX4_marks yX4_marks ∈ qT := qT_in (by decide +kernel) (by decide +kernel)
theorem mX4_105 : qLkV RX4 105 M_X4_marks 0 := ⟨lkX4_marks, kdX4_marks, slX4_marks, Or.inl lkmX4_105⟩
theorem cdX4_letters : Cond.code yX4_letters cX4_letters 2 (some .int) ∈ qT := qT_in (by decide +kernel) (by decide +kernel)
theorem lkX4_letters : qLk M_X4_letters 0 := ⟨cdX4_letters, iniX4, by decide +kernel, by decide +kernel⟩
theorem lkmX4_108 : Cond.methodLink RX4 108 yX4_letters ∈ qT := qT_in (by decide +kernel) (by decide +kernel)
theorem kdX4_letters : Cond.instanceMethod yX4_letters ∈ qT := qT_in (by decide +kernel) (by decide +kernel)
theorem slX4_letters : Cond.selects RX4 yX4_letters yX4_letters ∈ qT := qT_in (by decide +kernel) (by decide +kernel)
theorem mX4_108 : qLkV RX4 108 M_X4_letters 0 := ⟨lkX4_letters, kdX4_letters, slX4_letters, Or.inl lkmX4_108⟩
theorem cdX4_cutterSize : Cond.code yX4_cutterSize cX4_cutterSize 2 (some .int) ∈ qT := qT_in (by decide +kernel) (by decide +kernel)
theorem lkX4_cutterSize : qLk M_X4_cutterSize 0 := ⟨cdX4_cutterSize, iniX4, by decide +kernel, by decide +kernel⟩
theorem lkmX4_111 : Cond.methodLink RX4 111 yX4_cutterSize ∈ qT := qT_in (by decide +kernel) (by decide +kernel)
theorem kdX4_cutterSize : Cond.instanceMethod yX4_cutterSize ∈ qT := qT_in (by decide +kernel) (by decide +kernel)
theorem slX4_cutterSize : Cond.selects RX4 yX4_cutterSize yX4_cutterSize ∈ qT := qT_in (by decide +kernel) (by decide +kernel)
theorem mX4_111 : qLkV RX4 111 M_X4_cutterSize 0 := ⟨lkX4_cutterSize, kdX4_cutterSize, slX4_cutterSize, Or.inl lkmX4_111⟩
theorem cdX4_decimals : Cond.code yX4_decimals cX4_decimals 1 (some .int) ∈ qT := qT_in (by decide +kernel) (by decide +kernel)
theorem lkX4_decimals : qLk M_X4_decimals 1 := ⟨cdX4_decimals, iniX4, by decide +kernel, by decide +kernel⟩
theorem lkmX4_114 : Cond.methodLink RX4 114 yX4_decimals ∈ qT := qT_in (by decide +kernel) (by decide +kernel)
theorem kdX4_decimals : Cond.static yX4_decimals ∈ qT := qT_in (by decide +kernel) (by decide +kernel)
theorem mX4_114 : qLkS RX4 114 M_X4_decimals 1 := ⟨lkX4_decimals, kdX4_decimals, Or.inl lkmX4_114⟩
theorem cdX4_order : Cond.code yX4_order cX4_order 6 (some .int) ∈ qT := qT_in (by decide +kernel) (by decide +kernel)
theorem lkX4_order : qLk M_X4_order 3 := ⟨cdX4_order, iniX4, by decide +kernel, by decide +kernel⟩
theorem lkmX4_121 : Cond.methodLink RX4 121 yX4_order ∈ qT := qT_in (by decide +kernel) (by decide +kernel)
theorem kdX4_order : Cond.instanceMethod yX4_order ∈ qT := qT_in (by decide +kernel) (by decide +kernel)
theorem slX4_order : Cond.selects RX4 yX4_order yX4_order ∈ qT := qT_in (by decide +kernel) (by decide +kernel)
theorem mX4_121 : qLkV RX4 121 M_X4_order 3 := ⟨lkX4_order, kdX4_order, slX4_order, Or.inl lkmX4_121⟩
theorem cdX4_placeOf : Cond.code yX4_placeOf cX4_placeOf 2 (some .int) ∈ qT := qT_in (by decide +kernel) (by decide +kernel)
theorem lkX4_placeOf : qLk M_X4_placeOf 0 := ⟨cdX4_placeOf, iniX4, by decide +kernel, by decide +kernel⟩
theorem lkmX4_125 : Cond.methodLink RX4 125 yX4_placeOf ∈ qT := qT_in (by decide +kernel) (by decide +kernel)
theorem kdX4_placeOf : Cond.instanceMethod yX4_placeOf ∈ qT := qT_in (by decide +kernel) (by decide +kernel)
theorem slX4_placeOf : Cond.selects RX4 yX4_placeOf yX4_placeOf ∈ qT := qT_in (by decide +kernel) (by decide +kernel)
theorem mX4_125 : qLkV RX4 125 M_X4_placeOf 0 := ⟨lkX4_placeOf, kdX4_placeOf, slX4_placeOf, Or.inl lkmX4_125⟩
theorem cdX4_isTaken : Cond.code yX4_isTaken cX4_isTaken 5 (some .boolean) ∈ qT := qT_in (by decide +kernel) (by decide +kernel)
theorem lkX4_isTaken : qLk M_X4_isTaken 0 := ⟨cdX4_isTaken, iniX4, by decide +kernel, by decide +kernel⟩
theorem lkmX4_128 : Cond.methodLink RX4 128 yX4_isTaken ∈ qT := qT_in (by decide +kernel) (by decide +kernel)
theorem kdX4_isTaken : Cond.instanceMethod yX4_isTaken ∈ qT := qT_in (by decide +kernel) (by decide +kernel)
theorem slX4_isTaken : Cond.selects RX4 yX4_isTaken yX4_isTaken ∈ qT := qT_in (by decide +kernel) (by decide +kernel)
theorem mX4_128 : qLkV RX4 128 M_X4_isTaken 0 := ⟨lkX4_isTaken, kdX4_isTaken, slX4_isTaken, Or.inl lkmX4_128⟩
theorem cdL_cell : Cond.code yL_cell cL_cell 2 (some .int) ∈ qT := qT_in (by decide +kernel) (by decide +kernel)
theorem lkL_cell : qLk M_L_cell 2 := ⟨cdL_cell, iniL, by decide +kernel, by decide +kernel⟩
theorem lkmL_15 : Cond.methodLink RL 15 yL_cell ∈ qT := qT_in (by decide +kernel) (by decide +kernel)
theorem kdL_cell : Cond.static yL_cell ∈ qT := qT_in (by decide +kernel) (by decide +kernel)
theorem mL_15 : qLkS RL 15 M_L_cell 2 := ⟨lkL_cell, kdL_cell, Or.inl lkmL_15⟩
theorem cdX3_init : Cond.code yX3_init cX3_init 2 none ∈ qT := qT_in (by decide +kernel) (by decide +kernel)
theorem lkX3_init : qLk M_X3_init 1 := ⟨cdX3_init, iniX3, by decide +kernel, by decide +kernel⟩
theorem lkmL_21 : Cond.methodLink RL 21 yX3_init ∈ qT := qT_in (by decide +kernel) (by decide +kernel)
theorem kdX3_init : Cond.instanceMethod yX3_init ∈ qT := qT_in (by decide +kernel) (by decide +kernel)
theorem mL_21 : qLkI RL 21 M_X3_init 1 := ⟨lkX3_init, rfl, rfl, kdX3_init, Or.inl lkmL_21⟩
theorem cdX4_init : Cond.code yX4_init cX4_init 2 none ∈ qT := qT_in (by decide +kernel) (by decide +kernel)
theorem lkX4_init : qLk M_X4_init 1 := ⟨cdX4_init, iniX4, by decide +kernel, by decide +kernel⟩
theorem lkmL_26 : Cond.methodLink RL 26 yX4_init ∈ qT := qT_in (by decide +kernel) (by decide +kernel)
theorem kdX4_init : Cond.instanceMethod yX4_init ∈ qT := qT_in (by decide +kernel) (by decide +kernel)
theorem mL_26 : qLkI RL 26 M_X4_init 1 := ⟨lkX4_init, rfl, rfl, kdX4_init, Or.inl lkmL_26⟩
theorem cdX3_sign : Cond.code yX3_sign cX3_sign 2 none ∈ qT := qT_in (by decide +kernel) (by decide +kernel)
theorem lkX3_sign : qLk M_X3_sign 1 := ⟨cdX3_sign, iniX3, by decide +kernel, by decide +kernel⟩
theorem lkmL_27 : Cond.methodLink RL 27 yX3_sign ∈ qT := qT_in (by decide +kernel) (by decide +kernel)
theorem kdX3_sign : Cond.instanceMethod yX3_sign ∈ qT := qT_in (by decide +kernel) (by decide +kernel)
theorem slX3_sign : Cond.selects RX3 yX3_sign yX3_sign ∈ qT := qT_in (by decide +kernel) (by decide +kernel)
theorem mL_27 : qLkV RL 27 M_X3_sign 1 := ⟨lkX3_sign, kdX3_sign, slX3_sign, Or.inl lkmL_27⟩
theorem cdX4_sign : Cond.code yX4_sign cX4_sign 2 none ∈ qT := qT_in (by decide +kernel) (by decide +kernel)
theorem lkX4_sign : qLk M_X4_sign 1 := ⟨cdX4_sign, iniX4, by decide +kernel, by decide +kernel⟩
theorem lkmL_30 : Cond.methodLink RL 30 yX4_sign ∈ qT := qT_in (by decide +kernel) (by decide +kernel)
theorem kdX4_sign : Cond.instanceMethod yX4_sign ∈ qT := qT_in (by decide +kernel) (by decide +kernel)
theorem slX4_sign : Cond.selects RX4 yX4_sign yX4_sign ∈ qT := qT_in (by decide +kernel) (by decide +kernel)
theorem mL_30 : qLkV RL 30 M_X4_sign 1 := ⟨lkX4_sign, kdX4_sign, slX4_sign, Or.inl lkmL_30⟩
theorem cdX3_read : Cond.code yX3_read cX3_read 2 (some .int) ∈ qT := qT_in (by decide +kernel) (by decide +kernel)
theorem lkX3_read : qLk M_X3_read 0 := ⟨cdX3_read, iniX3, by decide +kernel, by decide +kernel⟩
theorem lkmL_31 : Cond.methodLink RL 31 yX3_read ∈ qT := qT_in (by decide +kernel) (by decide +kernel)
theorem kdX3_read : Cond.instanceMethod yX3_read ∈ qT := qT_in (by decide +kernel) (by decide +kernel)
theorem slX3_read : Cond.selects RX3 yX3_read yX3_read ∈ qT := qT_in (by decide +kernel) (by decide +kernel)
theorem mL_31 : qLkV RL 31 M_X3_read 0 := ⟨lkX3_read, kdX3_read, slX3_read, Or.inl lkmL_31⟩
theorem cdX4_read : Cond.code yX4_read cX4_read 3 (some .int) ∈ qT := qT_in (by decide +kernel) (by decide +kernel)
theorem lkX4_read : qLk M_X4_read 0 := ⟨cdX4_read, iniX4, by decide +kernel, by decide +kernel⟩
theorem lkmL_35 : Cond.methodLink RL 35 yX4_read ∈ qT := qT_in (by decide +kernel) (by decide +kernel)
theorem kdX4_read : Cond.instanceMethod yX4_read ∈ qT := qT_in (by decide +kernel) (by decide +kernel)
theorem slX4_read : Cond.selects RX4 yX4_read yX4_read ∈ qT := qT_in (by decide +kernel) (by decide +kernel)
theorem mL_35 : qLkV RL 35 M_X4_read 0 := ⟨lkX4_read, kdX4_read, slX4_read, Or.inl lkmL_35⟩
theorem cdX4_part : Cond.code yX4_part cX4_part 2 (some .long) ∈ qT := qT_in (by decide +kernel) (by decide +kernel)
theorem lkX4_part : qLk M_X4_part 1 := ⟨cdX4_part, iniX4, by decide +kernel, by decide +kernel⟩
theorem lkmL_39 : Cond.methodLink RL 39 yX4_part ∈ qT := qT_in (by decide +kernel) (by decide +kernel)
theorem kdX4_part : Cond.instanceMethod yX4_part ∈ qT := qT_in (by decide +kernel) (by decide +kernel)
theorem slX4_part : Cond.selects RX4 yX4_part yX4_part ∈ qT := qT_in (by decide +kernel) (by decide +kernel)
theorem mL_39 : qLkV RL 39 M_X4_part 1 := ⟨lkX4_part, kdX4_part, slX4_part, Or.inl lkmL_39⟩
theorem cdX4_thrown : Cond.code yX4_thrown cX4_thrown 1 (some .int) ∈ qT := qT_in (by decide +kernel) (by decide +kernel)
theorem lkX4_thrown : qLk M_X4_thrown 0 := ⟨cdX4_thrown, iniX4, by decide +kernel, by decide +kernel⟩
theorem lkmL_40 : Cond.methodLink RL 40 yX4_thrown ∈ qT := qT_in (by decide +kernel) (by decide +kernel)
theorem kdX4_thrown : Cond.instanceMethod yX4_thrown ∈ qT := qT_in (by decide +kernel) (by decide +kernel)
theorem slX4_thrown : Cond.selects RX4 yX4_thrown yX4_thrown ∈ qT := qT_in (by decide +kernel) (by decide +kernel)
theorem mL_40 : qLkV RL 40 M_X4_thrown 0 := ⟨lkX4_thrown, kdX4_thrown, slX4_thrown, Or.inl lkmL_40⟩
theorem cdX3_letter : Cond.code yX3_letter cX3_letter 2 (some .int) ∈ qT := qT_in (by decide +kernel) (by decide +kernel)
theorem lkX3_letter : qLk M_X3_letter 1 := ⟨cdX3_letter, iniX3, by decide +kernel, by decide +kernel⟩
theorem lkmL_43 : Cond.methodLink RL 43 yX3_letter ∈ qT := qT_in (by decide +kernel) (by decide +kernel)
theorem kdX3_letter : Cond.instanceMethod yX3_letter ∈ qT := qT_in (by decide +kernel) (by decide +kernel)
theorem slX3_letter : Cond.selects RX3 yX3_letter yX3_letter ∈ qT := qT_in (by decide +kernel) (by decide +kernel)
theorem mL_43 : qLkV RL 43 M_X3_letter 1 := ⟨lkX3_letter, kdX3_letter, slX3_letter, Or.inl lkmL_43⟩
theorem cdX4_letter : Cond.code yX4_letter cX4_letter 3 (some .int) ∈ qT := qT_in (by decide +kernel) (by decide +kernel)
theorem lkX4_letter : qLk M_X4_letter 1 := ⟨cdX4_letter, iniX4, by decide +kernel, by decide +kernel⟩
theorem lkmL_47 : Cond.methodLink RL 47 yX4_letter ∈ qT := qT_in (by decide +kernel) (by decide +kernel)
theorem kdX4_letter : Cond.instanceMethod yX4_letter ∈ qT := qT_in (by decide +kernel) (by decide +kernel)
theorem slX4_letter : Cond.selects RX4 yX4_letter yX4_letter ∈ qT := qT_in (by decide +kernel) (by decide +kernel)
theorem mL_47 : qLkV RL 47 M_X4_letter 1 := ⟨lkX4_letter, kdX4_letter, slX4_letter, Or.inl lkmL_47⟩
theorem cdX3_put : Cond.code yX3_put cX3_put 3 (some .int) ∈ qT := qT_in (by decide +kernel) (by decide +kernel)
theorem lkX3_put : qLk M_X3_put 1 := ⟨cdX3_put, iniX3, by decide +kernel, by decide +kernel⟩
theorem lkmL_48 : Cond.methodLink RL 48 yX3_put ∈ qT := qT_in (by decide +kernel) (by decide +kernel)
theorem kdX3_put : Cond.instanceMethod yX3_put ∈ qT := qT_in (by decide +kernel) (by decide +kernel)
theorem slX3_put : Cond.selects RX3 yX3_put yX3_put ∈ qT := qT_in (by decide +kernel) (by decide +kernel)
theorem mL_48 : qLkV RL 48 M_X3_put 1 := ⟨lkX3_put, kdX3_put, slX3_put, Or.inl lkmL_48⟩
theorem cdX4_put : Cond.code yX4_put cX4_put 5 (some .int) ∈ qT := qT_in (by decide +kernel) (by decide +kernel)
theorem lkX4_put : qLk M_X4_put 1 := ⟨cdX4_put, iniX4, by decide +kernel, by decide +kernel⟩
theorem lkmL_51 : Cond.methodLink RL 51 yX4_put ∈ qT := qT_in (by decide +kernel) (by decide +kernel)
theorem kdX4_put : Cond.instanceMethod yX4_put ∈ qT := qT_in (by decide +kernel) (by decide +kernel)
theorem slX4_put : Cond.selects RX4 yX4_put yX4_put ∈ qT := qT_in (by decide +kernel) (by decide +kernel)
theorem mL_51 : qLkV RL 51 M_X4_put 1 := ⟨lkX4_put, kdX4_put, slX4_put, Or.inl lkmL_51⟩
theorem cdX3_shelf : Cond.code yX3_shelf cX3_shelf 2 (some .int) ∈ qT := qT_in (by decide +kernel) (by decide +kernel)
theorem lkX3_shelf : qLk M_X3_shelf 1 := ⟨cdX3_shelf, iniX3, by decide +kernel, by decide +kernel⟩
theorem lkmL_52 : Cond.methodLink RL 52 yX3_shelf ∈ qT := qT_in (by decide +kernel) (by decide +kernel)
theorem kdX3_shelf : Cond.instanceMethod yX3_shelf ∈ qT := qT_in (by decide +kernel) (by decide +kernel)
theorem slX3_shelf : Cond.selects RX3 yX3_shelf yX3_shelf ∈ qT := qT_in (by decide +kernel) (by decide +kernel)
theorem mL_52 : qLkV RL 52 M_X3_shelf 1 := ⟨lkX3_shelf, kdX3_shelf, slX3_shelf, Or.inl lkmL_52⟩
theorem cdX4_shelf : Cond.code yX4_shelf cX4_shelf 2 (some .int) ∈ qT := qT_in (by decide +kernel) (by decide +kernel)
theorem lkX4_shelf : qLk M_X4_shelf 1 := ⟨cdX4_shelf, iniX4, by decide +kernel, by decide +kernel⟩
theorem lkmL_55 : Cond.methodLink RL 55 yX4_shelf ∈ qT := qT_in (by decide +kernel) (by decide +kernel)
theorem kdX4_shelf : Cond.instanceMethod yX4_shelf ∈ qT := qT_in (by decide +kernel) (by decide +kernel)
theorem slX4_shelf : Cond.selects RX4 yX4_shelf yX4_shelf ∈ qT := qT_in (by decide +kernel) (by decide +kernel)
theorem mL_55 : qLkV RL 55 M_X4_shelf 1 := ⟨lkX4_shelf, kdX4_shelf, slX4_shelf, Or.inl lkmL_55⟩
theorem cdX3_take : Cond.code yX3_take cX3_take 3 (some .int) ∈ qT := qT_in (by decide +kernel) (by decide +kernel)
theorem lkX3_take : qLk M_X3_take 1 := ⟨cdX3_take, iniX3, by decide +kernel, by decide +kernel⟩
theorem lkmL_56 : Cond.methodLink RL 56 yX3_take ∈ qT := qT_in (by decide +kernel) (by decide +kernel)
theorem kdX3_take : Cond.instanceMethod yX3_take ∈ qT := qT_in (by decide +kernel) (by decide +kernel)
theorem slX3_take : Cond.selects RX3 yX3_take yX3_take ∈ qT := qT_in (by decide +kernel) (by decide +kernel)
theorem mL_56 : qLkV RL 56 M_X3_take 1 := ⟨lkX3_take, kdX3_take, slX3_take, Or.inl lkmL_56⟩
theorem cdX4_take : Cond.code yX4_take cX4_take 5 (some .int) ∈ qT := qT_in (by decide +kernel) (by decide +kernel)
theorem lkX4_take : qLk M_X4_take 1 := ⟨cdX4_take, iniX4, by decide +kernel, by decide +kernel⟩
theorem lkmL_59 : Cond.methodLink RL 59 yX4_take ∈ qT := qT_in (by decide +kernel) (by decide +kernel)
theorem kdX4_take : Cond.instanceMethod yX4_take ∈ qT := qT_in (by decide +kernel) (by decide +kernel)
theorem slX4_take : Cond.selects RX4 yX4_take yX4_take ∈ qT := qT_in (by decide +kernel) (by decide +kernel)
theorem mL_59 : qLkV RL 59 M_X4_take 1 := ⟨lkX4_take, kdX4_take, slX4_take, Or.inl lkmL_59⟩
theorem cdX3_compare : Cond.code yX3_compare cX3_compare 5 (some .int) ∈ qT := qT_in (by decide +kernel) (by decide +kernel)
theorem lkX3_compare : qLk M_X3_compare 2 := ⟨cdX3_compare, iniX3, by decide +kernel, by decide +kernel⟩
theorem lkmL_60 : Cond.methodLink RL 60 yX3_compare ∈ qT := qT_in (by decide +kernel) (by decide +kernel)
theorem kdX3_compare : Cond.instanceMethod yX3_compare ∈ qT := qT_in (by decide +kernel) (by decide +kernel)
theorem slX3_compare : Cond.selects RX3 yX3_compare yX3_compare ∈ qT := qT_in (by decide +kernel) (by decide +kernel)
theorem mL_60 : qLkV RL 60 M_X3_compare 2 := ⟨lkX3_compare, kdX3_compare, slX3_compare, Or.inl lkmL_60⟩
theorem cdX4_compare : Cond.code yX4_compare cX4_compare 3 (some .int) ∈ qT := qT_in (by decide +kernel) (by decide +kernel)
theorem lkX4_compare : qLk M_X4_compare 2 := ⟨cdX4_compare, iniX4, by decide +kernel, by decide +kernel⟩
theorem lkmL_64 : Cond.methodLink RL 64 yX4_compare ∈ qT := qT_in (by decide +kernel) (by decide +kernel)
theorem kdX4_compare : Cond.instanceMethod yX4_compare ∈ qT := qT_in (by decide +kernel) (by decide +kernel)
theorem slX4_compare : Cond.selects RX4 yX4_compare yX4_compare ∈ qT := qT_in (by decide +kernel) (by decide +kernel)
theorem mL_64 : qLkV RL 64 M_X4_compare 2 := ⟨lkX4_compare, kdX4_compare, slX4_compare, Or.inl lkmL_64⟩
theorem cdX3_before : Cond.code yX3_before cX3_before 1 (some .int) ∈ qT := qT_in (by decide +kernel) (by decide +kernel)
theorem lkX3_before : qLk M_X3_before 0 := ⟨cdX3_before, iniX3, by decide +kernel, by decide +kernel⟩
theorem lkmL_65 : Cond.methodLink RL 65 yX3_before ∈ qT := qT_in (by decide +kernel) (by decide +kernel)
theorem kdX3_before : Cond.instanceMethod yX3_before ∈ qT := qT_in (by decide +kernel) (by decide +kernel)
theorem slX3_before : Cond.selects RX3 yX3_before yX3_before ∈ qT := qT_in (by decide +kernel) (by decide +kernel)
theorem mL_65 : qLkV RL 65 M_X3_before 0 := ⟨lkX3_before, kdX3_before, slX3_before, Or.inl lkmL_65⟩
theorem cdX4_before : Cond.code yX4_before cX4_before 1 (some .int) ∈ qT := qT_in (by decide +kernel) (by decide +kernel)
theorem lkX4_before : qLk M_X4_before 0 := ⟨cdX4_before, iniX4, by decide +kernel, by decide +kernel⟩
theorem lkmL_68 : Cond.methodLink RL 68 yX4_before ∈ qT := qT_in (by decide +kernel) (by decide +kernel)
theorem kdX4_before : Cond.instanceMethod yX4_before ∈ qT := qT_in (by decide +kernel) (by decide +kernel)
theorem slX4_before : Cond.selects RX4 yX4_before yX4_before ∈ qT := qT_in (by decide +kernel) (by decide +kernel)
theorem mL_68 : qLkV RL 68 M_X4_before 0 := ⟨lkX4_before, kdX4_before, slX4_before, Or.inl lkmL_68⟩
theorem cdX3_free : Cond.code yX3_free cX3_free 3 (some .int) ∈ qT := qT_in (by decide +kernel) (by decide +kernel)
theorem lkX3_free : qLk M_X3_free 0 := ⟨cdX3_free, iniX3, by decide +kernel, by decide +kernel⟩
theorem lkmL_69 : Cond.methodLink RL 69 yX3_free ∈ qT := qT_in (by decide +kernel) (by decide +kernel)
theorem kdX3_free : Cond.instanceMethod yX3_free ∈ qT := qT_in (by decide +kernel) (by decide +kernel)
theorem slX3_free : Cond.selects RX3 yX3_free yX3_free ∈ qT := qT_in (by decide +kernel) (by decide +kernel)
theorem mL_69 : qLkV RL 69 M_X3_free 0 := ⟨lkX3_free, kdX3_free, slX3_free, Or.inl lkmL_69⟩
theorem cdX4_free : Cond.code yX4_free cX4_free 8 (some .int) ∈ qT := qT_in (by decide +kernel) (by decide +kernel)
theorem lkX4_free : qLk M_X4_free 0 := ⟨cdX4_free, iniX4, by decide +kernel, by decide +kernel⟩
theorem lkmL_72 : Cond.methodLink RL 72 yX4_free ∈ qT := qT_in (by decide +kernel) (by decide +kernel)
theorem kdX4_free : Cond.instanceMethod yX4_free ∈ qT := qT_in (by decide +kernel) (by decide +kernel)
theorem slX4_free : Cond.selects RX4 yX4_free yX4_free ∈ qT := qT_in (by decide +kernel) (by decide +kernel)
theorem mL_72 : qLkV RL 72 M_X4_free 0 := ⟨lkX4_free, kdX4_free, slX4_free, Or.inl lkmL_72⟩
theorem cdX3_spine : Cond.code yX3_spine cX3_spine 2 (some .int) ∈ qT := qT_in (by decide +kernel) (by decide +kernel)
theorem lkX3_spine : qLk M_X3_spine 1 := ⟨cdX3_spine, iniX3, by decide +kernel, by decide +kernel⟩
theorem lkmL_73 : Cond.methodLink RL 73 yX3_spine ∈ qT := qT_in (by decide +kernel) (by decide +kernel)
theorem kdX3_spine : Cond.instanceMethod yX3_spine ∈ qT := qT_in (by decide +kernel) (by decide +kernel)
theorem slX3_spine : Cond.selects RX3 yX3_spine yX3_spine ∈ qT := qT_in (by decide +kernel) (by decide +kernel)
theorem mL_73 : qLkV RL 73 M_X3_spine 1 := ⟨lkX3_spine, kdX3_spine, slX3_spine, Or.inl lkmL_73⟩
theorem cdX4_spine : Cond.code yX4_spine cX4_spine 3 (some .int) ∈ qT := qT_in (by decide +kernel) (by decide +kernel)
theorem lkX4_spine : qLk M_X4_spine 1 := ⟨cdX4_spine, iniX4, by decide +kernel, by decide +kernel⟩
theorem lkmL_76 : Cond.methodLink RL 76 yX4_spine ∈ qT := qT_in (by decide +kernel) (by decide +kernel)
theorem kdX4_spine : Cond.instanceMethod yX4_spine ∈ qT := qT_in (by decide +kernel) (by decide +kernel)
theorem slX4_spine : Cond.selects RX4 yX4_spine yX4_spine ∈ qT := qT_in (by decide +kernel) (by decide +kernel)
theorem mL_76 : qLkV RL 76 M_X4_spine 1 := ⟨lkX4_spine, kdX4_spine, slX4_spine, Or.inl lkmL_76⟩
theorem cdX3_pass : Cond.code yX3_pass cX3_pass 4 (some .int) ∈ qT := qT_in (by decide +kernel) (by decide +kernel)
theorem lkX3_pass : qLk M_X3_pass 1 := ⟨cdX3_pass, iniX3, by decide +kernel, by decide +kernel⟩
theorem lkmL_77 : Cond.methodLink RL 77 yX3_pass ∈ qT := qT_in (by decide +kernel) (by decide +kernel)
theorem kdX3_pass : Cond.instanceMethod yX3_pass ∈ qT := qT_in (by decide +kernel) (by decide +kernel)
theorem slX3_pass : Cond.selects RX3 yX3_pass yX3_pass ∈ qT := qT_in (by decide +kernel) (by decide +kernel)
theorem mL_77 : qLkV RL 77 M_X3_pass 1 := ⟨lkX3_pass, kdX3_pass, slX3_pass, Or.inl lkmL_77⟩
theorem cdX4_pass : Cond.code yX4_pass cX4_pass 5 (some .int) ∈ qT := qT_in (by decide +kernel) (by decide +kernel)
theorem lkX4_pass : qLk M_X4_pass 1 := ⟨cdX4_pass, iniX4, by decide +kernel, by decide +kernel⟩
theorem lkmL_80 : Cond.methodLink RL 80 yX4_pass ∈ qT := qT_in (by decide +kernel) (by decide +kernel)
theorem kdX4_pass : Cond.instanceMethod yX4_pass ∈ qT := qT_in (by decide +kernel) (by decide +kernel)
theorem slX4_pass : Cond.selects RX4 yX4_pass yX4_pass ∈ qT := qT_in (by decide +kernel) (by decide +kernel)
theorem mL_80 : qLkV RL 80 M_X4_pass 1 := ⟨lkX4_pass, kdX4_pass, slX4_pass, Or.inl lkmL_80⟩
theorem oiX0_3 : Cond.methodLink RX0 3 objectInit ∈ qT := qT_in (by decide +kernel) (by decide +kernel)
theorem oiX1_3 : Cond.methodLink RX1 3 objectInit ∈ qT := qT_in (by decide +kernel) (by decide +kernel)
theorem oiX2_3 : Cond.methodLink RX2 3 objectInit ∈ qT := qT_in (by decide +kernel) (by decide +kernel)
theorem oiX3_1 : Cond.methodLink RX3 1 objectInit ∈ qT := qT_in (by decide +kernel) (by decide +kernel)
theorem oiX4_1 : Cond.methodLink RX4 1 objectInit ∈ qT := qT_in (by decide +kernel) (by decide +kernel)
theorem oi_in : Cond.instanceMethod objectInit ∈ qT := qT_in (by decide +kernel) (by decide +kernel)
theorem oi_cd : Cond.code objectInit ⟨#[0xb1]⟩ 1 none ∈ qT := qT_in (by decide +kernel) (by decide +kernel)
theorem clX1_26 : Cond.classLink RX1 26 RX0 ∈ qT := qT_in (by decide +kernel) (by decide +kernel)
theorem isX0 : Cond.instantiable RX0 13 ∈ qT := qT_in (by decide +kernel) (by decide +kernel)
theorem nX1_26 : qNw RX1 26 1 13 := ⟨_, clsX0, rfl, clX1_26, isX0, iniX0⟩
theorem klX1_132 : Cond.constantLong RX1 132 (10) ∈ qT := qT_in (by decide +kernel) (by decide +kernel)
theorem clX2_9 : Cond.classLink RX2 9 RX0 ∈ qT := qT_in (by decide +kernel) (by decide +kernel)
theorem clX3_7 : Cond.classLink RX3 7 RX1 ∈ qT := qT_in (by decide +kernel) (by decide +kernel)
theorem isX1 : Cond.instantiable RX1 4 ∈ qT := qT_in (by decide +kernel) (by decide +kernel)
theorem nX3_7 : qNw RX3 7 2 4 := ⟨_, clsX1, rfl, clX3_7, isX1, iniX1⟩
theorem clX3_18 : Cond.classLink RX3 18 RX2 ∈ qT := qT_in (by decide +kernel) (by decide +kernel)
theorem isX2 : Cond.instantiable RX2 3 ∈ qT := qT_in (by decide +kernel) (by decide +kernel)
theorem nX3_18 : qNw RX3 18 3 3 := ⟨_, clsX2, rfl, clX3_18, isX2, iniX2⟩
theorem klX3_134 : Cond.constantLong RX3 134 (10) ∈ qT := qT_in (by decide +kernel) (by decide +kernel)
theorem klX4_95 : Cond.constantLong RX4 95 (10) ∈ qT := qT_in (by decide +kernel) (by decide +kernel)
theorem klX4_97 : Cond.constantLong RX4 97 (1000000000) ∈ qT := qT_in (by decide +kernel) (by decide +kernel)
theorem klX4_103 : Cond.constantLong RX4 103 (10000) ∈ qT := qT_in (by decide +kernel) (by decide +kernel)
theorem clL_8 : Cond.classLink RL 8 RX3 ∈ qT := qT_in (by decide +kernel) (by decide +kernel)
theorem isX3 : Cond.instantiable RX3 4 ∈ qT := qT_in (by decide +kernel) (by decide +kernel)
theorem nL_8 : qNw RL 8 4 4 := ⟨_, clsX3, rfl, clL_8, isX3, iniX3⟩
theorem clL_24 : Cond.classLink RL 24 RX4 ∈ qT := qT_in (by decide +kernel) (by decide +kernel)
theorem isX4 : Cond.instantiable RX4 14 ∈ qT := qT_in (by decide +kernel) (by decide +kernel)
theorem nL_24 : qNw RL 24 5 14 := ⟨_, clsX4, rfl, clL_24, isX4, iniX4⟩
theorem acI : Cond.arrayClass .int ∈ qT := qT_in (by decide +kernel) (by decide +kernel)
theorem acB : Cond.arrayClass .byte ∈ qT := qT_in (by decide +kernel) (by decide +kernel)
theorem acL : Cond.arrayClass .long ∈ qT := qT_in (by decide +kernel) (by decide +kernel)
theorem aoC : Cond.arrayOver (.object RX0) ∈ qN := qN_in (by decide +kernel) rfl
end
section
def qI (Q : Int32 → qH → Prop) : Option Value → qH → Prop := fun r h' => ∃ v, r = some (.int v) ∧ Q v h'
def qJ (Q : Int64 → qH → Prop) : Option Value → qH → Prop := fun r h' => ∃ v, r = some (.long v) ∧ Q v h'
def qA (Q : Option Nat → qH → Prop) : Option Value → qH → Prop := fun r h' => ∃ v, r = some (va_rf v) ∧ Q v h'
def qV (Q : qH → Prop) : Option Value → qH → Prop := fun r h' => r = none ∧ Q h'
section QPT
variable {G : qG} {M : qM} {E : qX} {Z : qZ} {pc : Nat} {L : List (Option Value)} {st : List Value} {h : qH} {cn sn : Nat}
theorem qv_I {index ci b n : Nat} {fs As st0 : List Value} {M' : qM} {Q' : Int32 → qH → Prop} (hd : decode M.2.1 pc = .ok (.invokevirtual index, 3)) (hlk : qLkV M.1.cls index M' n) (hm : qMet G M' (.ref b :: As) h (qI Q')) (hh : h b = some (.inr (ci, fs))) (hcl : (vwCl[ci]?).map (fun r => r.1) = some M'.1.cls) (hst : st0 = As.reverse ++ .ref b :: st) (hn : As.length = n) (hrm : (Nat.ble (M'.2.2.2.2.frames + 1) M.2.2.2.2.frames && Nat.ble (8 + (M'.2.2.1 + 11) + M'.2.2.2.2.locals) M.2.2.2.2.locals) = true) (hW : Nat.ble ((st.map fun v => v.category).sum) 8 = true) (hc : Nat.ble (cn + M'.2.2.2.2.cells) M.2.2.2.2.cells = true) (hs : Nat.ble (sn + M'.2.2.2.2.slots) M.2.2.2.2.slots = true) (k : ∀ (v : Int32) (h' : qH), Q' v h' → QP G M E Z (pc + 3) L (.int v :: st) h' (cn + M'.2.2.2.2.cells) (sn + M'.2.2.2.2.slots)) : QP G M E Z pc L st0 h cn sn := by
  have hrm' := Bool.and_eq_true_iff.mp hrm
  exact qp_callV hd hlk ⟨Nat.le_of_ble_eq_true hrm'.1, Nat.le_of_ble_eq_true hrm'.2⟩ hm hh hcl hst hn (Nat.le_of_ble_eq_true hW) (Nat.le_of_ble_eq_true hc) (Nat.le_of_ble_eq_true hs) (fun r h' ⟨v, e, hq⟩ => by subst e; exact k v h' hq)
theorem qs_I {index n : Nat} {As st0 : List Value} {M' : qM} {Q' : Int32 → qH → Prop} (hd : decode M.2.1 pc = .ok (.invokestatic index, 3)) (hlk : qLkS M.1.cls index M' n) (hm : qMet G M' As h (qI Q')) (hst : st0 = As.reverse ++ st) (hn : As.length = n) (hrm : (Nat.ble (M'.2.2.2.2.frames + 1) M.2.2.2.2.frames && Nat.ble (8 + (M'.2.2.1 + 11) + M'.2.2.2.2.locals) M.2.2.2.2.locals) = true) (hW : Nat.ble ((st.map fun v => v.category).sum) 8 = true) (hc : Nat.ble (cn + M'.2.2.2.2.cells) M.2.2.2.2.cells = true) (hs : Nat.ble (sn + M'.2.2.2.2.slots) M.2.2.2.2.slots = true) (k : ∀ (v : Int32) (h' : qH), Q' v h' → QP G M E Z (pc + 3) L (.int v :: st) h' (cn + M'.2.2.2.2.cells) (sn + M'.2.2.2.2.slots)) : QP G M E Z pc L st0 h cn sn := by
  have hrm' := Bool.and_eq_true_iff.mp hrm
  exact qp_callS hd hlk ⟨Nat.le_of_ble_eq_true hrm'.1, Nat.le_of_ble_eq_true hrm'.2⟩ hm hst hn (Nat.le_of_ble_eq_true hW) (Nat.le_of_ble_eq_true hc) (Nat.le_of_ble_eq_true hs) (fun r h' ⟨v, e, hq⟩ => by subst e; exact k v h' hq)
theorem qv_J {index ci b n : Nat} {fs As st0 : List Value} {M' : qM} {Q' : Int64 → qH → Prop} (hd : decode M.2.1 pc = .ok (.invokevirtual index, 3)) (hlk : qLkV M.1.cls index M' n) (hm : qMet G M' (.ref b :: As) h (qJ Q')) (hh : h b = some (.inr (ci, fs))) (hcl : (vwCl[ci]?).map (fun r => r.1) = some M'.1.cls) (hst : st0 = As.reverse ++ .ref b :: st) (hn : As.length = n) (hrm : (Nat.ble (M'.2.2.2.2.frames + 1) M.2.2.2.2.frames && Nat.ble (8 + (M'.2.2.1 + 11) + M'.2.2.2.2.locals) M.2.2.2.2.locals) = true) (hW : Nat.ble ((st.map fun v => v.category).sum) 8 = true) (hc : Nat.ble (cn + M'.2.2.2.2.cells) M.2.2.2.2.cells = true) (hs : Nat.ble (sn + M'.2.2.2.2.slots) M.2.2.2.2.slots = true) (k : ∀ (v : Int64) (h' : qH), Q' v h' → QP G M E Z (pc + 3) L (.long v :: st) h' (cn + M'.2.2.2.2.cells) (sn + M'.2.2.2.2.slots)) : QP G M E Z pc L st0 h cn sn := by
  have hrm' := Bool.and_eq_true_iff.mp hrm
  exact qp_callV hd hlk ⟨Nat.le_of_ble_eq_true hrm'.1, Nat.le_of_ble_eq_true hrm'.2⟩ hm hh hcl hst hn (Nat.le_of_ble_eq_true hW) (Nat.le_of_ble_eq_true hc) (Nat.le_of_ble_eq_true hs) (fun r h' ⟨v, e, hq⟩ => by subst e; exact k v h' hq)
theorem qs_J {index n : Nat} {As st0 : List Value} {M' : qM} {Q' : Int64 → qH → Prop} (hd : decode M.2.1 pc = .ok (.invokestatic index, 3)) (hlk : qLkS M.1.cls index M' n) (hm : qMet G M' As h (qJ Q')) (hst : st0 = As.reverse ++ st) (hn : As.length = n) (hrm : (Nat.ble (M'.2.2.2.2.frames + 1) M.2.2.2.2.frames && Nat.ble (8 + (M'.2.2.1 + 11) + M'.2.2.2.2.locals) M.2.2.2.2.locals) = true) (hW : Nat.ble ((st.map fun v => v.category).sum) 8 = true) (hc : Nat.ble (cn + M'.2.2.2.2.cells) M.2.2.2.2.cells = true) (hs : Nat.ble (sn + M'.2.2.2.2.slots) M.2.2.2.2.slots = true) (k : ∀ (v : Int64) (h' : qH), Q' v h' → QP G M E Z (pc + 3) L (.long v :: st) h' (cn + M'.2.2.2.2.cells) (sn + M'.2.2.2.2.slots)) : QP G M E Z pc L st0 h cn sn := by
  have hrm' := Bool.and_eq_true_iff.mp hrm
  exact qp_callS hd hlk ⟨Nat.le_of_ble_eq_true hrm'.1, Nat.le_of_ble_eq_true hrm'.2⟩ hm hst hn (Nat.le_of_ble_eq_true hW) (Nat.le_of_ble_eq_true hc) (Nat.le_of_ble_eq_true hs) (fun r h' ⟨v, e, hq⟩ => by subst e; exact k v h' hq)
theorem qv_A {index ci b n : Nat} {fs As st0 : List Value} {M' : qM} {Q' : Option Nat → qH → Prop} (hd : decode M.2.1 pc = .ok (.invokevirtual index, 3)) (hlk : qLkV M.1.cls index M' n) (hm : qMet G M' (.ref b :: As) h (qA Q')) (hh : h b = some (.inr (ci, fs))) (hcl : (vwCl[ci]?).map (fun r => r.1) = some M'.1.cls) (hst : st0 = As.reverse ++ .ref b :: st) (hn : As.length = n) (hrm : (Nat.ble (M'.2.2.2.2.frames + 1) M.2.2.2.2.frames && Nat.ble (8 + (M'.2.2.1 + 11) + M'.2.2.2.2.locals) M.2.2.2.2.locals) = true) (hW : Nat.ble ((st.map fun v => v.category).sum) 8 = true) (hc : Nat.ble (cn + M'.2.2.2.2.cells) M.2.2.2.2.cells = true) (hs : Nat.ble (sn + M'.2.2.2.2.slots) M.2.2.2.2.slots = true) (k : ∀ (v : Option Nat) (h' : qH), Q' v h' → QP G M E Z (pc + 3) L (va_rf v :: st) h' (cn + M'.2.2.2.2.cells) (sn + M'.2.2.2.2.slots)) : QP G M E Z pc L st0 h cn sn := by
  have hrm' := Bool.and_eq_true_iff.mp hrm
  exact qp_callV hd hlk ⟨Nat.le_of_ble_eq_true hrm'.1, Nat.le_of_ble_eq_true hrm'.2⟩ hm hh hcl hst hn (Nat.le_of_ble_eq_true hW) (Nat.le_of_ble_eq_true hc) (Nat.le_of_ble_eq_true hs) (fun r h' ⟨v, e, hq⟩ => by subst e; exact k v h' hq)
theorem qs_A {index n : Nat} {As st0 : List Value} {M' : qM} {Q' : Option Nat → qH → Prop} (hd : decode M.2.1 pc = .ok (.invokestatic index, 3)) (hlk : qLkS M.1.cls index M' n) (hm : qMet G M' As h (qA Q')) (hst : st0 = As.reverse ++ st) (hn : As.length = n) (hrm : (Nat.ble (M'.2.2.2.2.frames + 1) M.2.2.2.2.frames && Nat.ble (8 + (M'.2.2.1 + 11) + M'.2.2.2.2.locals) M.2.2.2.2.locals) = true) (hW : Nat.ble ((st.map fun v => v.category).sum) 8 = true) (hc : Nat.ble (cn + M'.2.2.2.2.cells) M.2.2.2.2.cells = true) (hs : Nat.ble (sn + M'.2.2.2.2.slots) M.2.2.2.2.slots = true) (k : ∀ (v : Option Nat) (h' : qH), Q' v h' → QP G M E Z (pc + 3) L (va_rf v :: st) h' (cn + M'.2.2.2.2.cells) (sn + M'.2.2.2.2.slots)) : QP G M E Z pc L st0 h cn sn := by
  have hrm' := Bool.and_eq_true_iff.mp hrm
  exact qp_callS hd hlk ⟨Nat.le_of_ble_eq_true hrm'.1, Nat.le_of_ble_eq_true hrm'.2⟩ hm hst hn (Nat.le_of_ble_eq_true hW) (Nat.le_of_ble_eq_true hc) (Nat.le_of_ble_eq_true hs) (fun r h' ⟨v, e, hq⟩ => by subst e; exact k v h' hq)
theorem qv_V {index ci b n : Nat} {fs As st0 : List Value} {M' : qM} {Q' : qH → Prop} (hd : decode M.2.1 pc = .ok (.invokevirtual index, 3)) (hlk : qLkV M.1.cls index M' n) (hm : qMet G M' (.ref b :: As) h (qV Q')) (hh : h b = some (.inr (ci, fs))) (hcl : (vwCl[ci]?).map (fun r => r.1) = some M'.1.cls) (hst : st0 = As.reverse ++ .ref b :: st) (hn : As.length = n) (hrm : (Nat.ble (M'.2.2.2.2.frames + 1) M.2.2.2.2.frames && Nat.ble (8 + (M'.2.2.1 + 11) + M'.2.2.2.2.locals) M.2.2.2.2.locals) = true) (hW : Nat.ble ((st.map fun v => v.category).sum) 8 = true) (hc : Nat.ble (cn + M'.2.2.2.2.cells) M.2.2.2.2.cells = true) (hs : Nat.ble (sn + M'.2.2.2.2.slots) M.2.2.2.2.slots = true) (k : ∀ (h' : qH), Q' h' → QP G M E Z (pc + 3) L st h' (cn + M'.2.2.2.2.cells) (sn + M'.2.2.2.2.slots)) : QP G M E Z pc L st0 h cn sn := by
  have hrm' := Bool.and_eq_true_iff.mp hrm
  exact qp_callV hd hlk ⟨Nat.le_of_ble_eq_true hrm'.1, Nat.le_of_ble_eq_true hrm'.2⟩ hm hh hcl hst hn (Nat.le_of_ble_eq_true hW) (Nat.le_of_ble_eq_true hc) (Nat.le_of_ble_eq_true hs) (fun r h' ⟨e, hq⟩ => by subst e; exact k h' hq)
theorem qs_V {index n : Nat} {As st0 : List Value} {M' : qM} {Q' : qH → Prop} (hd : decode M.2.1 pc = .ok (.invokestatic index, 3)) (hlk : qLkS M.1.cls index M' n) (hm : qMet G M' As h (qV Q')) (hst : st0 = As.reverse ++ st) (hn : As.length = n) (hrm : (Nat.ble (M'.2.2.2.2.frames + 1) M.2.2.2.2.frames && Nat.ble (8 + (M'.2.2.1 + 11) + M'.2.2.2.2.locals) M.2.2.2.2.locals) = true) (hW : Nat.ble ((st.map fun v => v.category).sum) 8 = true) (hc : Nat.ble (cn + M'.2.2.2.2.cells) M.2.2.2.2.cells = true) (hs : Nat.ble (sn + M'.2.2.2.2.slots) M.2.2.2.2.slots = true) (k : ∀ (h' : qH), Q' h' → QP G M E Z (pc + 3) L st h' (cn + M'.2.2.2.2.cells) (sn + M'.2.2.2.2.slots)) : QP G M E Z pc L st0 h cn sn := by
  have hrm' := Bool.and_eq_true_iff.mp hrm
  exact qp_callS hd hlk ⟨Nat.le_of_ble_eq_true hrm'.1, Nat.le_of_ble_eq_true hrm'.2⟩ hm hst hn (Nat.le_of_ble_eq_true hW) (Nat.le_of_ble_eq_true hc) (Nat.le_of_ble_eq_true hs) (fun r h' ⟨e, hq⟩ => by subst e; exact k h' hq)
theorem qi_V {index b n : Nat} {As st0 : List Value} {M' : qM} {Q' : qH → Prop} (hd : decode M.2.1 pc = .ok (.invokespecial index, 3)) (hlk : qLkI M.1.cls index M' n) (hm : qMet G M' (.ref b :: As) h (qV Q')) (hst : st0 = As.reverse ++ .ref b :: st) (hn : As.length = n) (hrm : (Nat.ble (M'.2.2.2.2.frames + 1) M.2.2.2.2.frames && Nat.ble (8 + (M'.2.2.1 + 11) + M'.2.2.2.2.locals) M.2.2.2.2.locals) = true) (hW : Nat.ble ((st.map fun v => v.category).sum) 8 = true) (hc : Nat.ble (cn + M'.2.2.2.2.cells) M.2.2.2.2.cells = true) (hs : Nat.ble (sn + M'.2.2.2.2.slots) M.2.2.2.2.slots = true) (k : ∀ (h' : qH), Q' h' → QP G M E Z (pc + 3) L st h' (cn + M'.2.2.2.2.cells) (sn + M'.2.2.2.2.slots)) : QP G M E Z pc L st0 h cn sn := by
  have hrm' := Bool.and_eq_true_iff.mp hrm
  exact qp_callI hd hlk ⟨Nat.le_of_ble_eq_true hrm'.1, Nat.le_of_ble_eq_true hrm'.2⟩ hm hst hn (Nat.le_of_ble_eq_true hW) (Nat.le_of_ble_eq_true hc) (Nat.le_of_ble_eq_true hs) (fun r h' ⟨e, hq⟩ => by subst e; exact k h' hq)
theorem qv_Ip {index ci b n : Nat} {fs As st0 : List Value} {M' : qM} {r : Int32} (hd : decode M.2.1 pc = .ok (.invokevirtual index, 3)) (hlk : qLkV M.1.cls index M' n) (hm : qMet G M' (.ref b :: As) h (qI (fun v h1 => h1 = h ∧ v = r))) (hh : h b = some (.inr (ci, fs))) (hcl : (vwCl[ci]?).map (fun r => r.1) = some M'.1.cls) (hst : st0 = As.reverse ++ .ref b :: st) (hn : As.length = n) (hrm : (Nat.ble (M'.2.2.2.2.frames + 1) M.2.2.2.2.frames && Nat.ble (8 + (M'.2.2.1 + 11) + M'.2.2.2.2.locals) M.2.2.2.2.locals) = true) (hW : Nat.ble ((st.map fun v => v.category).sum) 8 = true) (hc : Nat.ble (cn + M'.2.2.2.2.cells) M.2.2.2.2.cells = true) (hs : Nat.ble (sn + M'.2.2.2.2.slots) M.2.2.2.2.slots = true) (k : QP G M E Z (pc + 3) L (.int r :: st) h (cn + M'.2.2.2.2.cells) (sn + M'.2.2.2.2.slots)) : QP G M E Z pc L st0 h cn sn :=
  qv_I hd hlk hm hh hcl hst hn hrm hW hc hs (fun v h1 ⟨e1, e2⟩ => by subst e1; subst e2; exact k)
theorem qs_Ip {index n : Nat} {As st0 : List Value} {M' : qM} {r : Int32} (hd : decode M.2.1 pc = .ok (.invokestatic index, 3)) (hlk : qLkS M.1.cls index M' n) (hm : qMet G M' As h (qI (fun v h1 => h1 = h ∧ v = r))) (hst : st0 = As.reverse ++ st) (hn : As.length = n) (hrm : (Nat.ble (M'.2.2.2.2.frames + 1) M.2.2.2.2.frames && Nat.ble (8 + (M'.2.2.1 + 11) + M'.2.2.2.2.locals) M.2.2.2.2.locals) = true) (hW : Nat.ble ((st.map fun v => v.category).sum) 8 = true) (hc : Nat.ble (cn + M'.2.2.2.2.cells) M.2.2.2.2.cells = true) (hs : Nat.ble (sn + M'.2.2.2.2.slots) M.2.2.2.2.slots = true) (k : QP G M E Z (pc + 3) L (.int r :: st) h (cn + M'.2.2.2.2.cells) (sn + M'.2.2.2.2.slots)) : QP G M E Z pc L st0 h cn sn :=
  qs_I hd hlk hm hst hn hrm hW hc hs (fun v h1 ⟨e1, e2⟩ => by subst e1; subst e2; exact k)
theorem qv_Jp {index ci b n : Nat} {fs As st0 : List Value} {M' : qM} {r : Int64} (hd : decode M.2.1 pc = .ok (.invokevirtual index, 3)) (hlk : qLkV M.1.cls index M' n) (hm : qMet G M' (.ref b :: As) h (qJ (fun v h1 => h1 = h ∧ v = r))) (hh : h b = some (.inr (ci, fs))) (hcl : (vwCl[ci]?).map (fun r => r.1) = some M'.1.cls) (hst : st0 = As.reverse ++ .ref b :: st) (hn : As.length = n) (hrm : (Nat.ble (M'.2.2.2.2.frames + 1) M.2.2.2.2.frames && Nat.ble (8 + (M'.2.2.1 + 11) + M'.2.2.2.2.locals) M.2.2.2.2.locals) = true) (hW : Nat.ble ((st.map fun v => v.category).sum) 8 = true) (hc : Nat.ble (cn + M'.2.2.2.2.cells) M.2.2.2.2.cells = true) (hs : Nat.ble (sn + M'.2.2.2.2.slots) M.2.2.2.2.slots = true) (k : QP G M E Z (pc + 3) L (.long r :: st) h (cn + M'.2.2.2.2.cells) (sn + M'.2.2.2.2.slots)) : QP G M E Z pc L st0 h cn sn :=
  qv_J hd hlk hm hh hcl hst hn hrm hW hc hs (fun v h1 ⟨e1, e2⟩ => by subst e1; subst e2; exact k)
theorem qs_Jp {index n : Nat} {As st0 : List Value} {M' : qM} {r : Int64} (hd : decode M.2.1 pc = .ok (.invokestatic index, 3)) (hlk : qLkS M.1.cls index M' n) (hm : qMet G M' As h (qJ (fun v h1 => h1 = h ∧ v = r))) (hst : st0 = As.reverse ++ st) (hn : As.length = n) (hrm : (Nat.ble (M'.2.2.2.2.frames + 1) M.2.2.2.2.frames && Nat.ble (8 + (M'.2.2.1 + 11) + M'.2.2.2.2.locals) M.2.2.2.2.locals) = true) (hW : Nat.ble ((st.map fun v => v.category).sum) 8 = true) (hc : Nat.ble (cn + M'.2.2.2.2.cells) M.2.2.2.2.cells = true) (hs : Nat.ble (sn + M'.2.2.2.2.slots) M.2.2.2.2.slots = true) (k : QP G M E Z (pc + 3) L (.long r :: st) h (cn + M'.2.2.2.2.cells) (sn + M'.2.2.2.2.slots)) : QP G M E Z pc L st0 h cn sn :=
  qs_J hd hlk hm hst hn hrm hW hc hs (fun v h1 ⟨e1, e2⟩ => by subst e1; subst e2; exact k)
theorem qv_Ap {index ci b n : Nat} {fs As st0 : List Value} {M' : qM} {r : Option Nat} (hd : decode M.2.1 pc = .ok (.invokevirtual index, 3)) (hlk : qLkV M.1.cls index M' n) (hm : qMet G M' (.ref b :: As) h (qA (fun v h1 => h1 = h ∧ v = r))) (hh : h b = some (.inr (ci, fs))) (hcl : (vwCl[ci]?).map (fun r => r.1) = some M'.1.cls) (hst : st0 = As.reverse ++ .ref b :: st) (hn : As.length = n) (hrm : (Nat.ble (M'.2.2.2.2.frames + 1) M.2.2.2.2.frames && Nat.ble (8 + (M'.2.2.1 + 11) + M'.2.2.2.2.locals) M.2.2.2.2.locals) = true) (hW : Nat.ble ((st.map fun v => v.category).sum) 8 = true) (hc : Nat.ble (cn + M'.2.2.2.2.cells) M.2.2.2.2.cells = true) (hs : Nat.ble (sn + M'.2.2.2.2.slots) M.2.2.2.2.slots = true) (k : QP G M E Z (pc + 3) L (va_rf r :: st) h (cn + M'.2.2.2.2.cells) (sn + M'.2.2.2.2.slots)) : QP G M E Z pc L st0 h cn sn :=
  qv_A hd hlk hm hh hcl hst hn hrm hW hc hs (fun v h1 ⟨e1, e2⟩ => by subst e1; subst e2; exact k)
theorem qs_Ap {index n : Nat} {As st0 : List Value} {M' : qM} {r : Option Nat} (hd : decode M.2.1 pc = .ok (.invokestatic index, 3)) (hlk : qLkS M.1.cls index M' n) (hm : qMet G M' As h (qA (fun v h1 => h1 = h ∧ v = r))) (hst : st0 = As.reverse ++ st) (hn : As.length = n) (hrm : (Nat.ble (M'.2.2.2.2.frames + 1) M.2.2.2.2.frames && Nat.ble (8 + (M'.2.2.1 + 11) + M'.2.2.2.2.locals) M.2.2.2.2.locals) = true) (hW : Nat.ble ((st.map fun v => v.category).sum) 8 = true) (hc : Nat.ble (cn + M'.2.2.2.2.cells) M.2.2.2.2.cells = true) (hs : Nat.ble (sn + M'.2.2.2.2.slots) M.2.2.2.2.slots = true) (k : QP G M E Z (pc + 3) L (va_rf r :: st) h (cn + M'.2.2.2.2.cells) (sn + M'.2.2.2.2.slots)) : QP G M E Z pc L st0 h cn sn :=
  qs_A hd hlk hm hst hn hrm hW hc hs (fun v h1 ⟨e1, e2⟩ => by subst e1; subst e2; exact k)
theorem qv_Iq {index ci b n : Nat} {fs As st0 : List Value} {M' : qM} {r : Int32} {P : qH → Prop} (hd : decode M.2.1 pc = .ok (.invokevirtual index, 3)) (hlk : qLkV M.1.cls index M' n) (hm : qMet G M' (.ref b :: As) h (qI (fun v h1 => v = r ∧ P h1))) (hh : h b = some (.inr (ci, fs))) (hcl : (vwCl[ci]?).map (fun r => r.1) = some M'.1.cls) (hst : st0 = As.reverse ++ .ref b :: st) (hn : As.length = n) (hrm : (Nat.ble (M'.2.2.2.2.frames + 1) M.2.2.2.2.frames && Nat.ble (8 + (M'.2.2.1 + 11) + M'.2.2.2.2.locals) M.2.2.2.2.locals) = true) (hW : Nat.ble ((st.map fun v => v.category).sum) 8 = true) (hc : Nat.ble (cn + M'.2.2.2.2.cells) M.2.2.2.2.cells = true) (hs : Nat.ble (sn + M'.2.2.2.2.slots) M.2.2.2.2.slots = true) (k : ∀ h1 : qH, P h1 → QP G M E Z (pc + 3) L (.int r :: st) h1 (cn + M'.2.2.2.2.cells) (sn + M'.2.2.2.2.slots)) : QP G M E Z pc L st0 h cn sn :=
  qv_I hd hlk hm hh hcl hst hn hrm hW hc hs (fun v h1 ⟨e1, e2⟩ => by subst e1; exact k h1 e2)
theorem qv_Jq {index ci b n : Nat} {fs As st0 : List Value} {M' : qM} {r : Int64} {P : qH → Prop} (hd : decode M.2.1 pc = .ok (.invokevirtual index, 3)) (hlk : qLkV M.1.cls index M' n) (hm : qMet G M' (.ref b :: As) h (qJ (fun v h1 => v = r ∧ P h1))) (hh : h b = some (.inr (ci, fs))) (hcl : (vwCl[ci]?).map (fun r => r.1) = some M'.1.cls) (hst : st0 = As.reverse ++ .ref b :: st) (hn : As.length = n) (hrm : (Nat.ble (M'.2.2.2.2.frames + 1) M.2.2.2.2.frames && Nat.ble (8 + (M'.2.2.1 + 11) + M'.2.2.2.2.locals) M.2.2.2.2.locals) = true) (hW : Nat.ble ((st.map fun v => v.category).sum) 8 = true) (hc : Nat.ble (cn + M'.2.2.2.2.cells) M.2.2.2.2.cells = true) (hs : Nat.ble (sn + M'.2.2.2.2.slots) M.2.2.2.2.slots = true) (k : ∀ h1 : qH, P h1 → QP G M E Z (pc + 3) L (.long r :: st) h1 (cn + M'.2.2.2.2.cells) (sn + M'.2.2.2.2.slots)) : QP G M E Z pc L st0 h cn sn :=
  qv_J hd hlk hm hh hcl hst hn hrm hW hc hs (fun v h1 ⟨e1, e2⟩ => by subst e1; exact k h1 e2)
theorem qv_Aq {index ci b n : Nat} {fs As st0 : List Value} {M' : qM} {r : Option Nat} {P : qH → Prop} (hd : decode M.2.1 pc = .ok (.invokevirtual index, 3)) (hlk : qLkV M.1.cls index M' n) (hm : qMet G M' (.ref b :: As) h (qA (fun v h1 => v = r ∧ P h1))) (hh : h b = some (.inr (ci, fs))) (hcl : (vwCl[ci]?).map (fun r => r.1) = some M'.1.cls) (hst : st0 = As.reverse ++ .ref b :: st) (hn : As.length = n) (hrm : (Nat.ble (M'.2.2.2.2.frames + 1) M.2.2.2.2.frames && Nat.ble (8 + (M'.2.2.1 + 11) + M'.2.2.2.2.locals) M.2.2.2.2.locals) = true) (hW : Nat.ble ((st.map fun v => v.category).sum) 8 = true) (hc : Nat.ble (cn + M'.2.2.2.2.cells) M.2.2.2.2.cells = true) (hs : Nat.ble (sn + M'.2.2.2.2.slots) M.2.2.2.2.slots = true) (k : ∀ h1 : qH, P h1 → QP G M E Z (pc + 3) L (va_rf r :: st) h1 (cn + M'.2.2.2.2.cells) (sn + M'.2.2.2.2.slots)) : QP G M E Z pc L st0 h cn sn :=
  qv_A hd hlk hm hh hcl hst hn hrm hW hc hs (fun v h1 ⟨e1, e2⟩ => by subst e1; exact k h1 e2)
theorem qr_i {v : Int32} {Q : Int32 → qH → Prop} (hd : decode M.2.1 pc = .ok (.ireturn, 1)) (hrt : M.2.2.2.1 = some .int) (hc : Nat.ble cn M.2.2.2.2.cells = true) (hs : Nat.ble sn M.2.2.2.2.slots = true) (hq : Q v h) : QP G M E (qMZ G M (qI Q)) pc L [.int v] h cn sn := qp_iret hd hrt (Nat.le_of_ble_eq_true hc) (Nat.le_of_ble_eq_true hs) ⟨v, rfl, hq⟩
theorem qr_z {v : Int32} {Q : Int32 → qH → Prop} (hd : decode M.2.1 pc = .ok (.ireturn, 1)) (hrt : M.2.2.2.1 = some .boolean) (hz : narrow .boolean (.int v) = .int v) (hc : Nat.ble cn M.2.2.2.2.cells = true) (hs : Nat.ble sn M.2.2.2.2.slots = true) (hq : Q v h) : QP G M E (qMZ G M (qI Q)) pc L [.int v] h cn sn := qp_zret hd hrt hz (Nat.le_of_ble_eq_true hc) (Nat.le_of_ble_eq_true hs) ⟨v, rfl, hq⟩
theorem qr_l {v : Int64} {Q : Int64 → qH → Prop} (hd : decode M.2.1 pc = .ok (.lreturn, 1)) (hrt : M.2.2.2.1 = some .long) (hc : Nat.ble cn M.2.2.2.2.cells = true) (hs : Nat.ble sn M.2.2.2.2.slots = true) (hq : Q v h) : QP G M E (qMZ G M (qJ Q)) pc L [.long v] h cn sn := qp_lret hd hrt (Nat.le_of_ble_eq_true hc) (Nat.le_of_ble_eq_true hs) ⟨v, rfl, hq⟩
theorem qr_v {Q : qH → Prop} (hd : decode M.2.1 pc = .ok (.return_, 1)) (hrt : M.2.2.2.1 = none) (hc : Nat.ble cn M.2.2.2.2.cells = true) (hs : Nat.ble sn M.2.2.2.2.slots = true) (hq : Q h) : QP G M E (qMZ G M (qV Q)) pc L [] h cn sn := qp_vret hd hrt (Nat.le_of_ble_eq_true hc) (Nat.le_of_ble_eq_true hs) ⟨rfl, hq⟩
theorem qr_a {v : Option Nat} {Q : Option Nat → qH → Prop} {nm : String} (hd : decode M.2.1 pc = .ok (.areturn, 1)) (hrt : M.2.2.2.1 = some (.object nm)) (hc : Nat.ble cn M.2.2.2.2.cells = true) (hs : Nat.ble sn M.2.2.2.2.slots = true) (hq : Q v h) : QP G M E (qMZ G M (qA Q)) pc L [va_rf v] h cn sn := qp_aret hd hrt (by cases v; exact Or.inl rfl; exact Or.inr ⟨_, rfl⟩) (Nat.le_of_ble_eq_true hc) (Nat.le_of_ble_eq_true hs) ⟨v, rfl, hq⟩
theorem qk_put {index ci kf a : Nat} {fs : List Value} {v : Value} {ty : FieldType} (hd : decode M.2.1 pc = .ok (.putfield index, 3)) (hf : qFld M.1.cls index ci kf) (hh : h a = some (.inr (ci, fs))) (ha : G.2.1 ≤ a) (hfin : qFin ci kf = false) (hl : Nat.ble (kf + 1) fs.length = true) (hty : qfty ci kf = ty) (hn : narrow ty v = v) (hfit : fits ty v = true)
    (k : ∀ h1 : qH, h1 a = some (.inr (ci, fs.set kf v)) → (∀ b : Nat, b ≠ a → h1 b = h b) → QP G M E Z (pc + 3) L st h1 cn sn) : QP G M E Z pc L (v :: .ref a :: st) h cn sn := qp_put hd hf hh ha hfin hl hty hn hfit (k _ (qUp_self _ _ _) (fun _ hb => qUp_ne hb))
theorem qk_putF {index ci kf a : Nat} {fs : List Value} {v : Value} {ty : FieldType} (hd : decode M.2.1 pc = .ok (.putfield index, 3)) (hf : ∃ r, qCls ci r ∧ kf < r.2.2 ∧ Cond.fieldLink M.1.cls index (r.2.1 kf).1 (r.2.1 kf).2.1 (r.2.1 kf).2.2.1 ∈ qT) (hh : h a = some (.inr (ci, fs))) (ha : G.2.1 ≤ a) (hfin : qFin ci kf = true) (hdc : qDecl ci kf = M.1.cls) (hini : M.1.name = "<init>") (hl : Nat.ble (kf + 1) fs.length = true) (hty : qfty ci kf = ty) (hn : narrow ty v = v) (hfit : fits ty v = true)
    (k : ∀ h1 : qH, h1 a = some (.inr (ci, fs.set kf v)) → (∀ b : Nat, b ≠ a → h1 b = h b) → QP G M E Z (pc + 3) L st h1 cn sn) : QP G M E Z pc L (v :: .ref a :: st) h cn sn := qp_putF hd hf hh ha hfin hdc hini hl hty hn hfit (k _ (qUp_self _ _ _) (fun _ hb => qUp_ne hb))
theorem qk_new {index ci N : Nat} {fs : List Value} (hd : decode M.2.1 pc = .ok (.new index, 3)) (hc : qNw M.1.cls index ci N) (hfs : qNewFs ci N = fs) (hcells : Nat.ble (cn + 1) M.2.2.2.2.cells = true) (hslots : Nat.ble (sn + N) M.2.2.2.2.slots = true)
    (k : ∀ (a : Nat) (h1 : qH), G.2.1 ≤ a → h a = none → h1 a = some (.inr (ci, fs)) → (∀ b : Nat, b ≠ a → h1 b = h b) → QP G M E Z (pc + 3) L (.ref a :: st) h1 (cn + 1) (sn + N)) : QP G M E Z pc L st h cn sn := qp_new hd hc hfs (Nat.le_of_ble_eq_true hcells) (Nat.le_of_ble_eq_true hslots) (fun a ha hn => k a _ ha hn (qUp_self _ _ _) (fun _ hb => qUp_ne hb))
theorem qk_newaI {n : Int32} (N : Nat) (hd : decode M.2.1 pc = .ok (.newarray .int, 2)) (hw : Cond.arrayClass .int ∈ qT) (hn : ¬ n < 0) (hN : n.toNatClampNeg = N) (hbytes : N * componentBytes .int ≤ 536870912) (hcells : Nat.ble (cn + 1) M.2.2.2.2.cells = true) (hslots : Nat.ble (sn + N) M.2.2.2.2.slots = true)
    (k : ∀ (a : Nat) (h1 : qH), G.2.1 ≤ a → h a = none → h1 a = some (.inl (0, N, .inl (fun _ => 0))) → (∀ b : Nat, b ≠ a → h1 b = h b) → QP G M E Z (pc + 2) L (.ref a :: st) h1 (cn + 1) (sn + N)) : QP G M E Z pc L (.int n :: st) h cn sn := qp_newaI hd hw hn hN hbytes (Nat.le_of_ble_eq_true hcells) (Nat.le_of_ble_eq_true hslots) (fun a ha hn => k a _ ha hn (qUp_self _ _ _) (fun _ hb => qUp_ne hb))
theorem qk_newaB {n : Int32} (N : Nat) (hd : decode M.2.1 pc = .ok (.newarray .byte, 2)) (hw : Cond.arrayClass .byte ∈ qT) (hn : ¬ n < 0) (hN : n.toNatClampNeg = N) (hbytes : N * componentBytes .byte ≤ 536870912) (hcells : Nat.ble (cn + 1) M.2.2.2.2.cells = true) (hslots : Nat.ble (sn + N) M.2.2.2.2.slots = true)
    (k : ∀ (a : Nat) (h1 : qH), G.2.1 ≤ a → h a = none → h1 a = some (.inl (1, N, .inl (fun _ => 0))) → (∀ b : Nat, b ≠ a → h1 b = h b) → QP G M E Z (pc + 2) L (.ref a :: st) h1 (cn + 1) (sn + N)) : QP G M E Z pc L (.int n :: st) h cn sn := qp_newaB hd hw hn hN hbytes (Nat.le_of_ble_eq_true hcells) (Nat.le_of_ble_eq_true hslots) (fun a ha hn => k a _ ha hn (qUp_self _ _ _) (fun _ hb => qUp_ne hb))
theorem qk_newaL {n : Int32} (N : Nat) (hd : decode M.2.1 pc = .ok (.newarray .long, 2)) (hw : Cond.arrayClass .long ∈ qT) (hn : ¬ n < 0) (hN : n.toNatClampNeg = N) (hbytes : N * componentBytes .long ≤ 536870912) (hcells : Nat.ble (cn + 1) M.2.2.2.2.cells = true) (hslots : Nat.ble (sn + N) M.2.2.2.2.slots = true)
    (k : ∀ (a : Nat) (h1 : qH), G.2.1 ≤ a → h a = none → h1 a = some (.inl (2, N, .inr (.inl (fun _ => 0)))) → (∀ b : Nat, b ≠ a → h1 b = h b) → QP G M E Z (pc + 2) L (.ref a :: st) h1 (cn + 1) (sn + N)) : QP G M E Z pc L (.int n :: st) h cn sn := qp_newaL hd hw hn hN hbytes (Nat.le_of_ble_eq_true hcells) (Nat.le_of_ble_eq_true hslots) (fun a ha hn => k a _ ha hn (qUp_self _ _ _) (fun _ hb => qUp_ne hb))
theorem qk_newq {index : Nat} {n : Int32} (N : Nat) (hd : decode M.2.1 pc = .ok (.anewarray index, 3)) (hw : Cond.classLink M.1.cls index RX0 ∈ qT) (ho : Cond.arrayOver (.object RX0) ∈ qN) (hn : ¬ n < 0) (hN : n.toNatClampNeg = N) (hbytes : N * 4 ≤ 536870912) (hcells : Nat.ble (cn + 1) M.2.2.2.2.cells = true) (hslots : Nat.ble (sn + N) M.2.2.2.2.slots = true)
    (k : ∀ (a : Nat) (h1 : qH), G.2.1 ≤ a → h a = none → h1 a = some (.inl (3, N, .inr (.inr (.inr (.inr (fun _ => none)))))) → (∀ b : Nat, b ≠ a → h1 b = h b) → QP G M E Z (pc + 3) L (.ref a :: st) h1 (cn + 1) (sn + N)) : QP G M E Z pc L (.int n :: st) h cn sn := qp_newq hd hw ho hn hN hbytes (Nat.le_of_ble_eq_true hcells) (Nat.le_of_ble_eq_true hslots) (fun a ha hn => k a _ ha hn (qUp_self _ _ _) (fun _ hb => qUp_ne hb))
theorem qk_iast {a n : Nat} {f : Nat → Int32} {i : Int32} {x : Int32} (j : Nat) (hd : decode M.2.1 pc = .ok (.iastore, 1)) (hh : h a = some (.inl (0, n, .inl f))) (ha : G.2.1 ≤ a) (hi : i = nI j) (hj : j < n) (hn : n < 2147483648)
    (k : ∀ h1 : qH, h1 a = some (.inl (0, n, .inl (upd f j x))) → (∀ b : Nat, b ≠ a → h1 b = h b) → QP G M E Z (pc + 1) L st h1 cn sn) : QP G M E Z pc L (.int x :: .int i :: .ref a :: st) h cn sn := qp_iastN j hd hh ha hi hj hn (k _ (qUp_self _ _ _) (fun _ hb => qUp_ne hb))
theorem qk_bast {a n : Nat} {f : Nat → Int32} {i : Int32} {x : Int32} (j : Nat) (hd : decode M.2.1 pc = .ok (.bastore, 1)) (hh : h a = some (.inl (1, n, .inl f))) (ha : G.2.1 ≤ a) (hi : i = nI j) (hj : j < n) (hn : n < 2147483648)
    (k : ∀ h1 : qH, h1 a = some (.inl (1, n, .inl (upd f j (vp_nar .byte x)))) → (∀ b : Nat, b ≠ a → h1 b = h b) → QP G M E Z (pc + 1) L st h1 cn sn) : QP G M E Z pc L (.int x :: .int i :: .ref a :: st) h cn sn := qp_bastN j hd hh ha hi hj hn (k _ (qUp_self _ _ _) (fun _ hb => qUp_ne hb))
theorem qk_last {a n : Nat} {f : Nat → Int64} {i : Int32} {x : Int64} (j : Nat) (hd : decode M.2.1 pc = .ok (.lastore, 1)) (hh : h a = some (.inl (2, n, .inr (.inl f)))) (ha : G.2.1 ≤ a) (hi : i = nI j) (hj : j < n) (hn : n < 2147483648)
    (k : ∀ h1 : qH, h1 a = some (.inl (2, n, .inr (.inl (vp_updL f j x)))) → (∀ b : Nat, b ≠ a → h1 b = h b) → QP G M E Z (pc + 1) L st h1 cn sn) : QP G M E Z pc L (.long x :: .int i :: .ref a :: st) h cn sn := qp_lastN j hd hh ha hi hj hn (k _ (qUp_self _ _ _) (fun _ hb => qUp_ne hb))
theorem qk_aast {a n v : Nat} {fs : List Value} {f : Nat → Option Nat} {i : Int32} (j : Nat) (hd : decode M.2.1 pc = .ok (.aastore, 1)) (hh : h a = some (.inl (3, n, .inr (.inr (.inr (.inr f)))))) (hv : h v = some (.inr (1, fs))) (ha : G.2.1 ≤ a) (hi : i = nI j) (hj : j < n) (hn : n < 2147483648)
    (k : ∀ h1 : qH, h1 a = some (.inl (3, n, .inr (.inr (.inr (.inr (va_up f j (some v))))))) → (∀ b : Nat, b ≠ a → h1 b = h b) → QP G M E Z (pc + 1) L st h1 cn sn) : QP G M E Z pc L (.ref v :: .int i :: .ref a :: st) h cn sn := by
  subst hi
  refine qp_aast hd hh hv ha (vp_in_nI hj hn) ?_
  rw [nI_clamp (by omega)]
  exact k _ (qUp_self _ _ _) (fun _ hb => qUp_ne hb)
theorem qk_aastO {a n : Nat} {o : Option Nat} {f : Nat → Option Nat} {i : Int32} (j : Nat) (hd : decode M.2.1 pc = .ok (.aastore, 1)) (hh : h a = some (.inl (3, n, .inr (.inr (.inr (.inr f)))))) (hv : ∀ v, o = some v → ∃ fs, h v = some (.inr (1, fs))) (ha : G.2.1 ≤ a) (hi : i = nI j) (hj : j < n) (hn : n < 2147483648)
    (k : ∀ h1 : qH, h1 a = some (.inl (3, n, .inr (.inr (.inr (.inr (va_up f j o)))))) → (∀ b : Nat, b ≠ a → h1 b = h b) → QP G M E Z (pc + 1) L st h1 cn sn) : QP G M E Z pc L (va_rf o :: .int i :: .ref a :: st) h cn sn := by
  cases o with
  | some v =>
    obtain ⟨fs, hfs⟩ := hv v rfl
    exact qk_aast j hd hh hfs ha hi hj hn k
  | none =>
    subst hi
    refine qp_aastNull hd hh ha (vp_in_nI hj hn) ?_
    rw [nI_clamp (by omega)]
    exact k _ (qUp_self _ _ _) (fun _ hb => qUp_ne hb)
theorem qp_ifnullO {o : Option Nat} {off : Int} (tgt : Nat) (hd : decode M.2.1 pc = .ok (.ifnull off, 3)) (ht : (pc : Int) + off = (tgt : Int)) (kt : o = none → QP G M E Z tgt L st h cn sn) (kf : ∀ x, o = some x → QP G M E Z (pc + 3) L st h cn sn) : QP G M E Z pc L (va_rf o :: st) h cn sn := by
  cases o with
  | none => exact qp_ifnullN tgt hd ht (kt rfl)
  | some x => exact qp_ifnull hd (kf x rfl)
theorem qp_ifnonnullO {o : Option Nat} {off : Int} (tgt : Nat) (hd : decode M.2.1 pc = .ok (.ifnonnull off, 3)) (ht : (pc : Int) + off = (tgt : Int)) (kt : ∀ x, o = some x → QP G M E Z tgt L st h cn sn) (kf : o = none → QP G M E Z (pc + 3) L st h cn sn) : QP G M E Z pc L (va_rf o :: st) h cn sn := by
  cases o with
  | none => exact qp_ifnonnullN hd (kf rfl)
  | some x => exact qp_ifnonnull tgt hd ht (kt x rfl)
theorem QP.locsE {L1 : List (Option Value)} (e : L = L1) (k : QP G M E Z pc L1 st h cn sn) : QP G M E Z pc L st h cn sn := by subst e; exact k
theorem QP.nameI {x : Int32} (k : ∀ y : Int32, y = x → QP G M E Z pc L (.int y :: st) h cn sn) : QP G M E Z pc L (.int x :: st) h cn sn := k x rfl
theorem QP.nameJ {x : Int64} (k : ∀ y : Int64, y = x → QP G M E Z pc L (.long y :: st) h cn sn) : QP G M E Z pc L (.long x :: st) h cn sn := k x rfl
theorem QP.topI {x y : Int32} (e : x = y) (k : QP G M E Z pc L (.int y :: st) h cn sn) : QP G M E Z pc L (.int x :: st) h cn sn := by subst e; exact k
theorem QP.topJ {x y : Int64} (e : x = y) (k : QP G M E Z pc L (.long y :: st) h cn sn) : QP G M E Z pc L (.long x :: st) h cn sn := by subst e; exact k
theorem QP.topO {x y : Option Nat} (e : x = y) (k : QP G M E Z pc L (va_rf y :: st) h cn sn) : QP G M E Z pc L (va_rf x :: st) h cn sn := by subst e; exact k
theorem qp_aload_nO {i : Fin 4} {o : Option Nat} (hd : decode M.2.1 pc = .ok (.aload_n i, 1)) (hl : L[(i : Nat)]? = some (some (va_rf o))) (k : QP G M E Z (pc + 1) L (va_rf o :: st) h cn sn) : QP G M E Z pc L st h cn sn := by
  cases o with
  | none => exact qp_aload_nN hd hl k
  | some x => exact qp_aload_n hd hl k
theorem qp_aloadO {i : Nat} {o : Option Nat} (hd : decode M.2.1 pc = .ok (.aload i, 2)) (hl : L[i]? = some (some (va_rf o))) (k : QP G M E Z (pc + 2) L (va_rf o :: st) h cn sn) : QP G M E Z pc L st h cn sn := by
  cases o with
  | none => exact qp_aloadN hd hl k
  | some x => exact qp_aload hd hl k
theorem qp_astore_nO {i : Fin 4} {o : Option Nat} (hd : decode M.2.1 pc = .ok (.astore_n i, 1)) (hn : (i : Nat) < M.2.2.1) (k : QP G M E Z (pc + 1) (qS1 L (i : Nat) (va_rf o)) st h cn sn) : QP G M E Z pc L (va_rf o :: st) h cn sn := by
  cases o with
  | none => exact qp_astore_nN hd hn k
  | some x => exact qp_astore_n hd hn k
theorem qp_astoreO {i : Nat} {o : Option Nat} (hd : decode M.2.1 pc = .ok (.astore i, 2)) (hn : i < M.2.2.1) (k : QP G M E Z (pc + 2) (qS1 L i (va_rf o)) st h cn sn) : QP G M E Z pc L (va_rf o :: st) h cn sn := by
  cases o with
  | none => exact qp_astoreN hd hn k
  | some x => exact qp_astore hd hn k
end QPT
theorem ne_of_cells {h : qH} {a b : Nat} {x y : qE} (ha : h a = some x) (hb : h b = some y) (hxy : x ≠ y) : a ≠ b := fun e => hxy (Option.some.inj (by rw [← ha, ← hb, e]))
theorem ne_of_none {h : qH} {a b : Nat} {x : qE} (ha : h a = some x) (hb : h b = none) : a ≠ b := fun e => by rw [e, hb] at ha; cases ha
def bI (b : Bool) : Int32 := if b then 1 else 0
theorem bI_t : bI true = 1 := rfl
theorem bI_f : bI false = 0 := rfl
theorem bI_0 {b : Bool} : bI b = 0 ↔ b = false := by cases b <;> decide
theorem bI_n0 {b : Bool} : ¬ bI b = 0 ↔ b = true := by cases b <;> decide
theorem bI_nar (b : Bool) : narrow .boolean (.int (bI b)) = .int (bI b) := by cases b <;> rfl
theorem nar_0 : narrow .boolean (.int 0) = .int 0 := rfl
theorem nar_1 : narrow .boolean (.int 1) = .int 1 := rfl
end
section
/-- a call number's own numbers: class letters, how many, class digits, capital, cutter, its digits, year, volume, its letter, mark, its letters, lines -/
abbrev CNv : Type := Int32 × Int32 × Int64 × Int32 × Int32 × Int32 × Int32 × Int32 × Int32 × Int64 × Int32 × Int32
abbrev CNv.cl (x : CNv) : Int32 := x.1
abbrev CNv.cc (x : CNv) : Int32 := x.2.1
abbrev CNv.cd (x : CNv) : Int64 := x.2.2.1
abbrev CNv.cap (x : CNv) : Int32 := x.2.2.2.1
abbrev CNv.cut (x : CNv) : Int32 := x.2.2.2.2.1
abbrev CNv.cutn (x : CNv) : Int32 := x.2.2.2.2.2.1
abbrev CNv.year (x : CNv) : Int32 := x.2.2.2.2.2.2.1
abbrev CNv.vol (x : CNv) : Int32 := x.2.2.2.2.2.2.2.1
abbrev CNv.voll (x : CNv) : Int32 := x.2.2.2.2.2.2.2.2.1
abbrev CNv.mark (x : CNv) : Int64 := x.2.2.2.2.2.2.2.2.2.1
abbrev CNv.markn (x : CNv) : Int32 := x.2.2.2.2.2.2.2.2.2.2.1
abbrev CNv.lc (x : CNv) : Int32 := x.2.2.2.2.2.2.2.2.2.2.2
abbrev cnCell (x : CNv) (ln : Nat) : qE := .inr (1, [.int x.1, .int x.2.1, .long x.2.2.1, .int x.2.2.2.1, .int x.2.2.2.2.1, .int x.2.2.2.2.2.1, .int x.2.2.2.2.2.2.1, .int x.2.2.2.2.2.2.2.1, .int x.2.2.2.2.2.2.2.2.1, .long x.2.2.2.2.2.2.2.2.2.1, .int x.2.2.2.2.2.2.2.2.2.2.1, .ref ln, .int x.2.2.2.2.2.2.2.2.2.2.2])
abbrev lnCell (f : Nat → Int32) : qE := .inl (0, 6, .inl f)
def sLineAt (lc : Int32) (f : Nat → Int32) (i : Int32) : Int32 := if 0 ≤ i ∧ i < lc ∧ i < 6 then f i.toNatClampNeg else -1
theorem i32_nlt {a b : Int32} : ¬ a < b ↔ b ≤ a := Int32.not_lt
theorem i32_nle {a b : Int32} : ¬ a ≤ b ↔ b < a := Int32.not_le
theorem in_of {i : Int32} {n : Nat} {m : Int32} (hm : m = nI n) (hn : n < 2147483648) (h0 : 0 ≤ i) (h1 : i < m) : vp_in i n := by
  rw [vp_in_iff]
  subst hm
  rw [Int32.le_iff_toInt_le, Int32.toInt_zero] at h0
  rw [Int32.lt_iff_toInt_lt, nI_toInt (by omega)] at h1
  exact ⟨h0, h1⟩
set_option maxHeartbeats 4000000 in
set_option maxRecDepth 100000 in
theorem c_lineAt (G : qG) {h : qH} {a ln : Nat} {x : CNv} {f : Nat → Int32} (i : Int32) (ga : h a = some (cnCell x ln)) (gl : h ln = some (lnCell f)) : qMet G M_X0_lineAt [.ref a, .int i] h (qI (fun v h1 => h1 = h ∧ v = sLineAt x.lc f i)) := by
  refine qMet.of (by decide) (Nat.le_of_ble_eq_true rfl) rfl ?_
  refine QP.locsE (L1 := [some (.ref a), some (.int (i))]) rfl ?_
  refine qp_iload_n dX0_lineAt_0 rfl ?_
  refine qp_if_lt 30 dX0_lineAt_1 (by decide) (fun c_1 => ?_) (fun c_1 => ?_)
  · refine qp_iconst (v := -1) dX0_lineAt_30 (by decide) ?_
    exact qr_i dX0_lineAt_31 rfl rfl rfl ⟨rfl, by simp only [sLineAt]; rw [if_neg (fun q => absurd q.1 (i32_nle.mpr c_1))]⟩
  · refine qp_iload_n dX0_lineAt_4 rfl ?_
    refine qp_aload_n dX0_lineAt_5 rfl ?_
    refine qp_getf dX0_lineAt_6 fX0_15 ga rfl ?_
    refine qp_icmp_ge 30 dX0_lineAt_9 (by decide) (fun c_9 => ?_) (fun c_9 => ?_)
    · refine qp_iconst (v := -1) dX0_lineAt_30 (by decide) ?_
      exact qr_i dX0_lineAt_31 rfl rfl rfl ⟨rfl, by simp only [sLineAt]; rw [if_neg (fun q => absurd c_9 (i32_nle.mpr q.2.1))]⟩
    · refine qp_iload_n dX0_lineAt_12 rfl ?_
      refine qp_aload_n dX0_lineAt_13 rfl ?_
      refine qp_getf dX0_lineAt_14 fX0_9 ga rfl ?_
      refine qp_alen (v := 6) dX0_lineAt_17 gl rfl ?_
      refine qp_icmp_ge 30 dX0_lineAt_18 (by decide) (fun c_18 => ?_) (fun c_18 => ?_)
      · refine qp_iconst (v := -1) dX0_lineAt_30 (by decide) ?_
        exact qr_i dX0_lineAt_31 rfl rfl rfl ⟨rfl, by simp only [sLineAt]; rw [if_neg (fun q => absurd c_18 (i32_nle.mpr q.2.2))]⟩
      · refine qp_aload_n dX0_lineAt_21 rfl ?_
        refine qp_getf dX0_lineAt_22 fX0_9 ga rfl ?_
        refine qp_iload_n dX0_lineAt_25 rfl ?_
        refine qp_iald dX0_lineAt_26 gl (in_of (n := 6) (m := 6) (by decide) (by decide) (i32_nlt.mp c_1) (i32_nle.mp c_18)) ?_
        refine qp_goto 31 dX0_lineAt_27 (by decide) ?_
        exact qr_i dX0_lineAt_31 rfl rfl rfl ⟨rfl, by simp only [sLineAt]; rw [if_pos ⟨i32_nlt.mp c_1, i32_nle.mp c_9, i32_nle.mp c_18⟩]⟩
def sPartCount (x : CNv) : Int32 := if 0 < x.cc then x.lc - 1 else x.lc
set_option maxHeartbeats 4000000 in
set_option maxRecDepth 100000 in
theorem c_partCount (G : qG) {h : qH} {a ln : Nat} {x : CNv} (ga : h a = some (cnCell x ln)) : qMet G M_X0_partCount [.ref a] h (qI (fun v h1 => h1 = h ∧ v = sPartCount x)) := by
  refine qMet.of (by decide) (Nat.le_of_ble_eq_true rfl) rfl ?_
  refine QP.locsE (L1 := [some (.ref a)]) rfl ?_
  refine qp_aload_n dX0_partCount_0 rfl ?_
  refine qp_getf dX0_partCount_1 fX0_19 ga rfl ?_
  refine qp_if_le 16 dX0_partCount_4 (by decide) (fun c_4 => ?_) (fun c_4 => ?_)
  · refine qp_aload_n dX0_partCount_16 rfl ?_
    refine qp_getf dX0_partCount_17 fX0_15 ga rfl ?_
    exact qr_i dX0_partCount_20 rfl rfl rfl ⟨rfl, by simp only [sPartCount]; rw [if_neg (i32_nlt.mpr c_4)]⟩
  · refine qp_aload_n dX0_partCount_7 rfl ?_
    refine qp_getf dX0_partCount_8 fX0_15 ga rfl ?_
    refine qp_iconst (v := 1) dX0_partCount_11 (by decide) ?_
    refine qp_isub dX0_partCount_12 ?_
    refine qp_goto 20 dX0_partCount_13 (by decide) ?_
    exact qr_i dX0_partCount_20 rfl rfl rfl ⟨rfl, by simp only [sPartCount]; rw [if_pos (i32_nle.mp c_4)]⟩
def sCapitalAt (x : CNv) (i : Int32) : Int32 := if i < 0 then 0 else if x.cc < i then 0 else if i = x.cc then x.cap else (x.cl >>> ((8 * (2 - i)) &&& 31)) &&& 255
set_option maxHeartbeats 4000000 in
set_option maxRecDepth 100000 in
theorem c_capitalAt (G : qG) {h : qH} {a ln : Nat} {x : CNv} (i : Int32) (ga : h a = some (cnCell x ln)) : qMet G M_X0_capitalAt [.ref a, .int i] h (qI (fun v h1 => h1 = h ∧ v = sCapitalAt x i)) := by
  refine qMet.of (by decide) (Nat.le_of_ble_eq_true rfl) rfl ?_
  refine QP.locsE (L1 := [some (.ref a), some (.int (i))]) rfl ?_
  refine qp_iload_n dX0_capitalAt_0 rfl ?_
  refine qp_if_lt 12 dX0_capitalAt_1 (by decide) (fun c_1 => ?_) (fun c_1 => ?_)
  · refine qp_iconst (v := 0) dX0_capitalAt_12 (by decide) ?_
    exact qr_i dX0_capitalAt_13 rfl rfl rfl ⟨rfl, by simp only [sCapitalAt]; rw [if_pos c_1]⟩
  · refine qp_iload_n dX0_capitalAt_4 rfl ?_
    refine qp_aload_n dX0_capitalAt_5 rfl ?_
    refine qp_getf dX0_capitalAt_6 fX0_19 ga rfl ?_
    refine qp_icmp_le 14 dX0_capitalAt_9 (by decide) (fun c_9 => ?_) (fun c_9 => ?_)
    · refine qp_iload_n dX0_capitalAt_14 rfl ?_
      refine qp_aload_n dX0_capitalAt_15 rfl ?_
      refine qp_getf dX0_capitalAt_16 fX0_19 ga rfl ?_
      refine qp_icmp_ne 27 dX0_capitalAt_19 (by decide) (fun c_19 => ?_) (fun c_19 => ?_)
      · refine qp_aload_n dX0_capitalAt_27 rfl ?_
        refine qp_getf dX0_capitalAt_28 fX0_25 ga rfl ?_
        refine qp_bipush (v := 8) dX0_capitalAt_31 (by decide) ?_
        refine qp_iconst (v := 2) dX0_capitalAt_33 (by decide) ?_
        refine qp_iload_n dX0_capitalAt_34 rfl ?_
        refine qp_isub dX0_capitalAt_35 ?_
        refine qp_imul dX0_capitalAt_36 ?_
        refine qp_ishr dX0_capitalAt_37 ?_
        refine qp_sipush (v := 255) dX0_capitalAt_38 (by decide) ?_
        refine qp_iand dX0_capitalAt_41 ?_
        exact qr_i dX0_capitalAt_42 rfl rfl rfl ⟨rfl, by simp only [sCapitalAt]; rw [if_neg c_1, if_neg (i32_nlt.mpr c_9), if_neg c_19]⟩
      · refine qp_aload_n dX0_capitalAt_22 rfl ?_
        refine qp_getf dX0_capitalAt_23 fX0_22 ga rfl ?_
        exact qr_i dX0_capitalAt_26 rfl rfl rfl ⟨rfl, by simp only [sCapitalAt]; rw [if_neg c_1, if_neg (i32_nlt.mpr c_9), if_pos c_19]⟩
    · refine qp_iconst (v := 0) dX0_capitalAt_12 (by decide) ?_
      exact qr_i dX0_capitalAt_13 rfl rfl rfl ⟨rfl, by simp only [sCapitalAt]; rw [if_neg c_1, if_pos (i32_nle.mp c_9)]⟩
def sHasClass (x y : CNv) : Bool := decide (x.cl = y.cl) && decide (x.cd = y.cd)
set_option maxHeartbeats 4000000 in
set_option maxRecDepth 100000 in
theorem c_hasClassOf (G : qG) {h : qH} {a b ln ln2 : Nat} {x y : CNv} (ga : h a = some (cnCell x ln)) (gb : h b = some (cnCell y ln2)) : qMet G M_X0_hasClassOf [.ref a, .ref b] h (qI (fun v h1 => h1 = h ∧ v = bI (sHasClass x y))) := by
  refine qMet.of (by decide) (Nat.le_of_ble_eq_true rfl) rfl ?_
  refine QP.locsE (L1 := [some (.ref a), some (.ref b)]) rfl ?_
  refine qp_aload_n dX0_hasClassOf_0 rfl ?_
  refine qp_getf dX0_hasClassOf_1 fX0_25 ga rfl ?_
  refine qp_aload_n dX0_hasClassOf_4 rfl ?_
  refine qp_getf dX0_hasClassOf_5 fX0_25 gb rfl ?_
  refine qp_icmp_ne 27 dX0_hasClassOf_8 (by decide) (fun c_8 => ?_) (fun c_8 => ?_)
  · refine qp_iconst (v := 0) dX0_hasClassOf_27 (by decide) ?_
    exact qr_z dX0_hasClassOf_28 rfl nar_0 rfl rfl ⟨rfl, by simp [sHasClass, c_8, bI]⟩
  · refine qp_aload_n dX0_hasClassOf_11 rfl ?_
    refine qp_getf dX0_hasClassOf_12 fX0_34 ga rfl ?_
    refine qp_aload_n dX0_hasClassOf_15 rfl ?_
    refine qp_getf dX0_hasClassOf_16 fX0_34 gb rfl ?_
    refine qp_lcmp dX0_hasClassOf_19 ?_
    refine qp_if_ne 27 dX0_hasClassOf_20 (by decide) (fun c_20 => ?_) (fun c_20 => ?_)
    · refine qp_iconst (v := 0) dX0_hasClassOf_27 (by decide) ?_
      exact qr_z dX0_hasClassOf_28 rfl nar_0 rfl rfl ⟨rfl, by rw [lg_cmp_eq] at c_20; simp [sHasClass, c_20, bI]⟩
    · refine qp_iconst (v := 1) dX0_hasClassOf_23 (by decide) ?_
      refine qp_goto 28 dX0_hasClassOf_24 (by decide) ?_
      exact qr_z dX0_hasClassOf_28 rfl nar_1 rfl rfl ⟨rfl, by rw [lg_cmp_eq] at c_20; simp [sHasClass, c_8, c_20, bI]⟩
abbrev cnNew : CNv := (0, 0, 0, 0, 0, 0, 0, 0, 0, 0, 0, 0)
abbrev cnBorn : qE := .inr (1, [.int 0, .int 0, .long 0, .int 0, .int 0, .int 0, .int 0, .int 0, .int 0, .long 0, .int 0, .null, .int 0])
set_option maxHeartbeats 4000000 in
set_option maxRecDepth 100000 in
theorem c_cnInit (G : qG) {h : qH} {a : Nat} (na : G.2.1 ≤ a) (ga : h a = some cnBorn) : qMet G M_X0_init [.ref a] h (qV (fun h1 => ∃ ln : Nat, G.2.1 ≤ ln ∧ h ln = none ∧ h1 a = some (cnCell cnNew ln) ∧ h1 ln = some (lnCell (fun _ => 0)) ∧ ∀ b : Nat, b ≠ a → b ≠ ln → h1 b = h b)) := by
  refine qMet.of (by decide) (Nat.le_of_ble_eq_true rfl) rfl ?_
  refine QP.locsE (L1 := [some (.ref a)]) rfl ?_
  refine qp_aload_n dX0_init_0 rfl ?_
  refine qp_objInit dX0_init_1 oiX0_3 oi_in oi_cd (Nat.le_of_ble_eq_true rfl) (Nat.le_of_ble_eq_true rfl) ?_
  refine qp_aload_n dX0_init_4 rfl ?_
  refine qp_bipush (v := 6) dX0_init_5 (by decide) ?_
  refine qk_newaI 6 dX0_init_7 acI (by decide) (by decide) (by decide) rfl rfl (fun ln h1 n4 z5 g2 o3 => ?_)
  have z6 : h ln = none := z5
  have g7 : h1 a = some (.inr (1, [.int (0), .int (0), .long (0), .int (0), .int (0), .int (0), .int (0), .int (0), .int (0), .long (0), .int (0), .null, .int (0)])) := (o3 _ (ne_of_none ga z5)).trans ga
  have g2 : h1 ln = some (.inl (0, 6, .inl (fun _ => 0))) := g2
  refine qk_putF dX0_init_9 ffX0_9 g7 na rfl rfl rfl rfl rfl rfl rfl (fun h8 g9 o10 => ?_)
  have g11 : h8 ln = some (.inl (0, 6, .inl (fun _ => 0))) := (o10 _ (ne_of_cells g2 g7 (by simp))).trans g2
  have g9 : h8 a = some (.inr (1, [.int (0), .int (0), .long (0), .int (0), .int (0), .int (0), .int (0), .int (0), .int (0), .long (0), .int (0), .ref ln, .int (0)])) := g9
  exact qr_v dX0_init_12 rfl rfl rfl ⟨ln, n4, z6, g9, g11, fun b hb hb2 => ((o10 b hb).trans (o3 b hb2))⟩
set_option maxHeartbeats 4000000 in
set_option maxRecDepth 100000 in
theorem c_addLine (G : qG) {h : qH} {a ln k : Nat} {x : CNv} {f : Nat → Int32} (v : Int32) (na : G.2.1 ≤ a) (nl : G.2.1 ≤ ln) (hk : x.lc = nI k) (hk6 : k < 6) (ga : h a = some (cnCell x ln)) (gl : h ln = some (lnCell f)) : qMet G M_X0_addLine [.ref a, .int v] h (qV (fun h1 => h1 a = some (cnCell (x.1, x.2.1, x.2.2.1, x.2.2.2.1, x.2.2.2.2.1, x.2.2.2.2.2.1, x.2.2.2.2.2.2.1, x.2.2.2.2.2.2.2.1, x.2.2.2.2.2.2.2.2.1, x.2.2.2.2.2.2.2.2.2.1, x.2.2.2.2.2.2.2.2.2.2.1, nI (k + 1)) ln) ∧ h1 ln = some (lnCell (upd f k v)) ∧ ∀ b : Nat, b ≠ a → b ≠ ln → h1 b = h b)) := by
  refine qMet.of (by decide) (Nat.le_of_ble_eq_true rfl) rfl ?_
  refine QP.locsE (L1 := [some (.ref a), some (.int (v))]) rfl ?_
  refine qp_aload_n dX0_addLine_0 rfl ?_
  refine qp_getf dX0_addLine_1 fX0_15 ga rfl ?_
  refine qp_aload_n dX0_addLine_4 rfl ?_
  refine qp_getf dX0_addLine_5 fX0_9 ga rfl ?_
  refine qp_alen (v := 6) dX0_addLine_8 gl rfl ?_
  refine qp_icmp_ge 32 dX0_addLine_9 (by decide) (fun c_9 => absurd c_9 (show ¬ (6 : Int32) ≤ x.lc by rw [hk]; exact i32_nle.mpr (nI_lt (b := 6) hk6 (by decide)))) (fun c_9 => ?_)
  refine qp_aload_n dX0_addLine_12 rfl ?_
  refine qp_getf dX0_addLine_13 fX0_9 ga rfl ?_
  refine qp_aload_n dX0_addLine_16 rfl ?_
  refine qp_getf dX0_addLine_17 fX0_15 ga rfl ?_
  refine qp_iload_n dX0_addLine_20 rfl ?_
  refine qk_iast (k) dX0_addLine_21 gl nl hk hk6 (by decide) (fun h1 g2 o3 => ?_)
  have g4 : h1 a = some (.inr (1, [.int (x.cl), .int (x.cc), .long (x.cd), .int (x.cap), .int (x.cut), .int (x.cutn), .int (x.year), .int (x.vol), .int (x.voll), .long (x.mark), .int (x.markn), .ref ln, .int (x.lc)])) := (o3 _ (ne_of_cells ga gl (by simp))).trans ga
  have g2 : h1 ln = some (.inl (0, 6, .inl (upd (f) (k) (v)))) := g2
  refine qp_aload_n dX0_addLine_22 rfl ?_
  refine qp_dup dX0_addLine_23 rfl ?_
  refine qp_getf dX0_addLine_24 fX0_15 g4 rfl ?_
  refine qp_iconst (v := 1) dX0_addLine_27 (by decide) ?_
  refine qp_iadd dX0_addLine_28 ?_
  refine QP.topI (y := nI (k + 1)) (show x.lc + 1 = nI (k + 1) by rw [hk]; exact nI_1 k) ?_
  refine qk_put dX0_addLine_29 fX0_15 g4 na rfl rfl rfl rfl rfl (fun h5 g6 o7 => ?_)
  have g8 : h5 ln = some (.inl (0, 6, .inl (upd (f) (k) (v)))) := (o7 _ (ne_of_cells g2 g4 (by simp))).trans g2
  have g6 : h5 a = some (.inr (1, [.int (x.cl), .int (x.cc), .long (x.cd), .int (x.cap), .int (x.cut), .int (x.cutn), .int (x.year), .int (x.vol), .int (x.voll), .long (x.mark), .int (x.markn), .ref ln, .int (nI (k + 1))])) := g6
  exact qr_v dX0_addLine_32 rfl rfl rfl ⟨g6, g8, fun b hb hb2 => ((o7 b hb).trans (o3 b hb2))⟩
theorem nI_of_ge {x : Int32} {k : Nat} (h : x = nI k) (hk : k < 2147483648) (hge : (6 : Int32) ≤ x) : 6 ≤ k := by
  subst h
  exact (nI_leI (a := 6) (by decide) hk).mp hge
theorem nI_of_nge {x : Int32} {k : Nat} (h : x = nI k) (hk : k < 2147483648) (hge : ¬ (6 : Int32) ≤ x) : k < 6 := by
  subst h
  exact Nat.not_le.mp fun q => hge ((nI_leI (a := 6) (by decide) hk).mpr q)
set_option maxHeartbeats 4000000 in
set_option maxRecDepth 100000 in
theorem l_cutterAsWritten {G : qG} {h : qH} {a : Nat} {r : Int32} : ∀ (n k c : Nat), 6 < k + n → k ≤ 6 → c < 2147483648 → r = nI (c / 10 ^ (6 - k)) → QP G M_X0_cutterAsWritten qTr (qMZ G M_X0_cutterAsWritten (qI (fun v h1 => h1 = h ∧ v = r))) 10 [some (.ref a), some (.int (nI c)), some (.int (nI k))] [] h 0 0 := by
  intro n
  induction n with
  | zero =>
    intro k c h1 h2
    omega
  | succ n ih =>
    intro k c h1 h2 h3 hQ
    refine qp_iload_n dX0_cutterAsWritten_10 rfl ?_
    refine qp_bipush (v := 6) dX0_cutterAsWritten_11 (by decide) ?_
    refine qp_icmp_ge 27 dX0_cutterAsWritten_13 (by decide) (fun c_13 => ?_) (fun c_13 => ?_)
    · have hk6 := nI_of_ge rfl (by omega) c_13
      refine qp_iload_n dX0_cutterAsWritten_27 rfl ?_
      exact qr_i dX0_cutterAsWritten_28 rfl rfl rfl ⟨rfl, by rw [hQ, show 6 - k = 0 by omega]; simp⟩
    · have hk6 := nI_of_nge rfl (by omega) c_13
      refine qp_iload_n dX0_cutterAsWritten_16 rfl ?_
      refine qp_bipush (v := 10) dX0_cutterAsWritten_17 (by decide) ?_
      refine qp_idiv dX0_cutterAsWritten_19 (by decide) ?_
      refine QP.topI (y := nI (c / 10)) (pk_div (by omega) (by decide) (by decide)) ?_
      refine qp_istore_n dX0_cutterAsWritten_20 (by decide) ?_
      refine QP.locsE (L1 := [some (.ref a), some (.int (nI (c / 10))), some (.int (nI k))]) rfl ?_
      refine qp_iinc (v := nI (k + 1)) dX0_cutterAsWritten_21 rfl (by decide) (nI_1 k) ?_
      refine QP.locsE (L1 := [some (.ref a), some (.int (nI (c / 10))), some (.int (nI (k + 1)))]) rfl ?_
      refine qp_goto 10 dX0_cutterAsWritten_24 (by decide) ?_
      refine ih (k + 1) (c / 10) (by omega) (by omega) (by omega) ?_
      rw [hQ, show 6 - k = (6 - (k + 1)) + 1 by omega, Nat.pow_succ, Nat.mul_comm, Nat.div_div_eq_div_mul]
set_option maxHeartbeats 4000000 in
set_option maxRecDepth 100000 in
theorem c_cutterAsWritten (G : qG) {h : qH} {a ln c n : Nat} {x : CNv} (hc : x.cut = nI c) (hn : x.cutn = nI n) (hn6 : n ≤ 6) (hc31 : c < 2147483648) (ga : h a = some (cnCell x ln)) : qMet G M_X0_cutterAsWritten [.ref a] h (qI (fun v h1 => h1 = h ∧ v = nI (c / 10 ^ (6 - n)))) := by
  refine qMet.of (by decide) (Nat.le_of_ble_eq_true rfl) rfl ?_
  refine QP.locsE (L1 := [some (.ref a), none, none]) rfl ?_
  refine qp_aload_n dX0_cutterAsWritten_0 rfl ?_
  refine qp_getf dX0_cutterAsWritten_1 fX0_28 ga rfl ?_
  refine qp_istore_n dX0_cutterAsWritten_4 (by decide) ?_
  refine QP.locsE (L1 := [some (.ref a), some (.int (x.cut)), none]) rfl ?_
  refine qp_aload_n dX0_cutterAsWritten_5 rfl ?_
  refine qp_getf dX0_cutterAsWritten_6 fX0_31 ga rfl ?_
  refine qp_istore_n dX0_cutterAsWritten_9 (by decide) ?_
  refine QP.locsE (L1 := [some (.ref a), some (.int (x.cut)), some (.int (x.cutn))]) rfl ?_
  rw [hc, hn]
  exact l_cutterAsWritten 7 n c (by omega) hn6 hc31 rfl
end
section
def sSide (a b : Int64) : Int32 := if a = b then 0 else if a < b then -1 else 1
set_option maxHeartbeats 4000000 in
set_option maxRecDepth 100000 in
theorem c_side (G : qG) {h : qH} (a b : Int64) : qMet G M_X3_side [.long a, .long b] h (qI (fun v h1 => h1 = h ∧ v = sSide a b)) := by
  refine qMet.of (by decide) (Nat.le_of_ble_eq_true rfl) rfl ?_
  refine QP.locsE (L1 := [some (.long (a)), none, some (.long (b)), none]) rfl ?_
  refine qp_lload_n dX3_side_0 rfl ?_
  refine qp_lload_n dX3_side_1 rfl ?_
  refine qp_lcmp dX3_side_2 ?_
  refine qp_if_ne 8 dX3_side_3 (by decide) (fun c_3 => ?_) (fun c_3 => ?_)
  · refine qp_lload_n dX3_side_8 rfl ?_
    refine qp_lload_n dX3_side_9 rfl ?_
    refine qp_lcmp dX3_side_10 ?_
    refine qp_if_ge 18 dX3_side_11 (by decide) (fun c_11 => ?_) (fun c_11 => ?_)
    · refine qp_iconst (v := 1) dX3_side_18 (by decide) ?_
      exact qr_i dX3_side_19 rfl rfl rfl ⟨rfl, by rw [lg_cmp_eq] at c_3; rw [lg_cmp_ge, Int64.le_iff_toInt_le] at c_11; simp only [sSide]; rw [if_neg c_3, if_neg (by rw [Int64.lt_iff_toInt_lt]; omega)]⟩
    · refine qp_iconst (v := -1) dX3_side_14 (by decide) ?_
      refine qp_goto 19 dX3_side_15 (by decide) ?_
      exact qr_i dX3_side_19 rfl rfl rfl ⟨rfl, by rw [lg_cmp_eq] at c_3; rw [lg_cmp_ge, Int64.le_iff_toInt_le] at c_11; simp only [sSide]; rw [if_neg c_3, if_pos (by rw [Int64.lt_iff_toInt_lt]; omega)]⟩
  · refine qp_iconst (v := 0) dX3_side_6 (by decide) ?_
    exact qr_i dX3_side_7 rfl rfl rfl ⟨rfl, by rw [lg_cmp_eq] at c_3; simp [sSide, c_3]⟩
def sThen (v t : Int32) : Int32 := if v = 0 then t else v
def oR7 (x y : CNv) (v : Int32) : Int32 := sThen v (sSide x.mark y.mark)
def oR6 (x y : CNv) (v : Int32) : Int32 := oR7 x y (sThen v (sSide x.voll.toInt64 y.voll.toInt64))
def oR5 (x y : CNv) (v : Int32) : Int32 := oR6 x y (sThen v (sSide x.vol.toInt64 y.vol.toInt64))
def oR4 (x y : CNv) (v : Int32) : Int32 := oR5 x y (sThen v (sSide x.year.toInt64 y.year.toInt64))
def oR3 (x y : CNv) (v : Int32) : Int32 := oR4 x y (sThen v (sSide x.cut.toInt64 y.cut.toInt64))
def oR2 (x y : CNv) (v : Int32) : Int32 := oR3 x y (sThen v (sSide x.cap.toInt64 y.cap.toInt64))
def oR1 (x y : CNv) (v : Int32) : Int32 := oR2 x y (sThen v (sSide x.cd y.cd))
def sOrder (x y : CNv) : Int32 := oR1 x y (sSide x.cl.toInt64 y.cl.toInt64)
set_option maxHeartbeats 4000000 in
set_option maxRecDepth 100000 in
theorem l_order7 {G : qG} {h : qH} {a b ln ln2 : Nat} {x y : CNv} {r : Int32} (ga : h a = some (cnCell x ln)) (gb : h b = some (cnCell y ln2)) (v : Int32) (hr : r = oR7 x y v) : QP G M_X3_order qTr (qMZ G M_X3_order (qI (fun w h1 => h1 = h ∧ w = r))) 120 [some (.ref a), some (.ref b), some (.int v)] [] h 0 0 := by
  refine qp_iload_n dX3_order_120 rfl ?_
  refine qp_if_ne 138 dX3_order_121 (by decide) (fun c_121 => ?_) (fun c_121 => ?_)
  · refine qp_iload_n dX3_order_138 rfl ?_
    exact qr_i dX3_order_139 rfl rfl rfl ⟨rfl, by rw [hr]; simp only [oR7, sThen]; rw [if_neg c_121]⟩
  · refine qp_aload_n dX3_order_124 rfl ?_
    refine qp_getf dX3_order_125 fX3_149 ga rfl ?_
    refine qp_aload_n dX3_order_128 rfl ?_
    refine qp_getf dX3_order_129 fX3_149 gb rfl ?_
    refine qs_Ip dX3_order_132 mX3_139 (c_side G (x.mark) (y.mark)) rfl rfl rfl rfl rfl rfl ?_
    refine qp_goto 139 dX3_order_135 (by decide) ?_
    exact qr_i dX3_order_139 rfl rfl rfl ⟨rfl, by rw [hr]; simp only [oR7, sThen]; rw [if_pos c_121]⟩
set_option maxHeartbeats 4000000 in
set_option maxRecDepth 100000 in
theorem l_order6 {G : qG} {h : qH} {a b ln ln2 : Nat} {x y : CNv} {r : Int32} (ga : h a = some (cnCell x ln)) (gb : h b = some (cnCell y ln2)) (v : Int32) (hr : r = oR6 x y v) : QP G M_X3_order qTr (qMZ G M_X3_order (qI (fun w h1 => h1 = h ∧ w = r))) 102 [some (.ref a), some (.ref b), some (.int v)] [] h 0 0 := by
  refine qp_iload_n dX3_order_102 rfl ?_
  refine qp_if_ne 120 dX3_order_103 (by decide) (fun c_103 => ?_) (fun c_103 => ?_)
  · exact l_order7 ga gb _ (by rw [hr]; simp only [oR6, sThen]; rw [if_neg c_103])
  · refine qp_aload_n dX3_order_106 rfl ?_
    refine qp_getf dX3_order_107 fX3_146 ga rfl ?_
    refine qp_i2l dX3_order_110 ?_
    refine qp_aload_n dX3_order_111 rfl ?_
    refine qp_getf dX3_order_112 fX3_146 gb rfl ?_
    refine qp_i2l dX3_order_115 ?_
    refine qs_Ip dX3_order_116 mX3_139 (c_side G (Int32.toInt64 (x.voll)) (Int32.toInt64 (y.voll))) rfl rfl rfl rfl rfl rfl ?_
    refine qp_istore_n dX3_order_119 (by decide) ?_
    refine QP.locsE (L1 := [some (.ref a), some (.ref b), some (.int (sSide (Int32.toInt64 (x.voll)) (Int32.toInt64 (y.voll))))]) rfl ?_
    exact l_order7 ga gb _ (by rw [hr]; simp only [oR6, sThen]; rw [if_pos c_103])
set_option maxHeartbeats 4000000 in
set_option maxRecDepth 100000 in
theorem l_order5 {G : qG} {h : qH} {a b ln ln2 : Nat} {x y : CNv} {r : Int32} (ga : h a = some (cnCell x ln)) (gb : h b = some (cnCell y ln2)) (v : Int32) (hr : r = oR5 x y v) : QP G M_X3_order qTr (qMZ G M_X3_order (qI (fun w h1 => h1 = h ∧ w = r))) 84 [some (.ref a), some (.ref b), some (.int v)] [] h 0 0 := by
  refine qp_iload_n dX3_order_84 rfl ?_
  refine qp_if_ne 102 dX3_order_85 (by decide) (fun c_85 => ?_) (fun c_85 => ?_)
  · exact l_order6 ga gb _ (by rw [hr]; simp only [oR5, sThen]; rw [if_neg c_85])
  · refine qp_aload_n dX3_order_88 rfl ?_
    refine qp_getf dX3_order_89 fX3_70 ga rfl ?_
    refine qp_i2l dX3_order_92 ?_
    refine qp_aload_n dX3_order_93 rfl ?_
    refine qp_getf dX3_order_94 fX3_70 gb rfl ?_
    refine qp_i2l dX3_order_97 ?_
    refine qs_Ip dX3_order_98 mX3_139 (c_side G (Int32.toInt64 (x.vol)) (Int32.toInt64 (y.vol))) rfl rfl rfl rfl rfl rfl ?_
    refine qp_istore_n dX3_order_101 (by decide) ?_
    refine QP.locsE (L1 := [some (.ref a), some (.ref b), some (.int (sSide (Int32.toInt64 (x.vol)) (Int32.toInt64 (y.vol))))]) rfl ?_
    exact l_order6 ga gb _ (by rw [hr]; simp only [oR5, sThen]; rw [if_pos c_85])
set_option maxHeartbeats 4000000 in
set_option maxRecDepth 100000 in
theorem l_order4 {G : qG} {h : qH} {a b ln ln2 : Nat} {x y : CNv} {r : Int32} (ga : h a = some (cnCell x ln)) (gb : h b = some (cnCell y ln2)) (v : Int32) (hr : r = oR4 x y v) : QP G M_X3_order qTr (qMZ G M_X3_order (qI (fun w h1 => h1 = h ∧ w = r))) 66 [some (.ref a), some (.ref b), some (.int v)] [] h 0 0 := by
  refine qp_iload_n dX3_order_66 rfl ?_
  refine qp_if_ne 84 dX3_order_67 (by decide) (fun c_67 => ?_) (fun c_67 => ?_)
  · exact l_order5 ga gb _ (by rw [hr]; simp only [oR4, sThen]; rw [if_neg c_67])
  · refine qp_aload_n dX3_order_70 rfl ?_
    refine qp_getf dX3_order_71 fX3_67 ga rfl ?_
    refine qp_i2l dX3_order_74 ?_
    refine qp_aload_n dX3_order_75 rfl ?_
    refine qp_getf dX3_order_76 fX3_67 gb rfl ?_
    refine qp_i2l dX3_order_79 ?_
    refine qs_Ip dX3_order_80 mX3_139 (c_side G (Int32.toInt64 (x.year)) (Int32.toInt64 (y.year))) rfl rfl rfl rfl rfl rfl ?_
    refine qp_istore_n dX3_order_83 (by decide) ?_
    refine QP.locsE (L1 := [some (.ref a), some (.ref b), some (.int (sSide (Int32.toInt64 (x.year)) (Int32.toInt64 (y.year))))]) rfl ?_
    exact l_order5 ga gb _ (by rw [hr]; simp only [oR4, sThen]; rw [if_pos c_67])
set_option maxHeartbeats 4000000 in
set_option maxRecDepth 100000 in
theorem l_order3 {G : qG} {h : qH} {a b ln ln2 : Nat} {x y : CNv} {r : Int32} (ga : h a = some (cnCell x ln)) (gb : h b = some (cnCell y ln2)) (v : Int32) (hr : r = oR3 x y v) : QP G M_X3_order qTr (qMZ G M_X3_order (qI (fun w h1 => h1 = h ∧ w = r))) 48 [some (.ref a), some (.ref b), some (.int v)] [] h 0 0 := by
  refine qp_iload_n dX3_order_48 rfl ?_
  refine qp_if_ne 66 dX3_order_49 (by decide) (fun c_49 => ?_) (fun c_49 => ?_)
  · exact l_order4 ga gb _ (by rw [hr]; simp only [oR3, sThen]; rw [if_neg c_49])
  · refine qp_aload_n dX3_order_52 rfl ?_
    refine qp_getf dX3_order_53 fX3_63 ga rfl ?_
    refine qp_i2l dX3_order_56 ?_
    refine qp_aload_n dX3_order_57 rfl ?_
    refine qp_getf dX3_order_58 fX3_63 gb rfl ?_
    refine qp_i2l dX3_order_61 ?_
    refine qs_Ip dX3_order_62 mX3_139 (c_side G (Int32.toInt64 (x.cut)) (Int32.toInt64 (y.cut))) rfl rfl rfl rfl rfl rfl ?_
    refine qp_istore_n dX3_order_65 (by decide) ?_
    refine QP.locsE (L1 := [some (.ref a), some (.ref b), some (.int (sSide (Int32.toInt64 (x.cut)) (Int32.toInt64 (y.cut))))]) rfl ?_
    exact l_order4 ga gb _ (by rw [hr]; simp only [oR3, sThen]; rw [if_pos c_49])
set_option maxHeartbeats 4000000 in
set_option maxRecDepth 100000 in
theorem l_order2 {G : qG} {h : qH} {a b ln ln2 : Nat} {x y : CNv} {r : Int32} (ga : h a = some (cnCell x ln)) (gb : h b = some (cnCell y ln2)) (v : Int32) (hr : r = oR2 x y v) : QP G M_X3_order qTr (qMZ G M_X3_order (qI (fun w h1 => h1 = h ∧ w = r))) 30 [some (.ref a), some (.ref b), some (.int v)] [] h 0 0 := by
  refine qp_iload_n dX3_order_30 rfl ?_
  refine qp_if_ne 48 dX3_order_31 (by decide) (fun c_31 => ?_) (fun c_31 => ?_)
  · exact l_order3 ga gb _ (by rw [hr]; simp only [oR2, sThen]; rw [if_neg c_31])
  · refine qp_aload_n dX3_order_34 rfl ?_
    refine qp_getf dX3_order_35 fX3_143 ga rfl ?_
    refine qp_i2l dX3_order_38 ?_
    refine qp_aload_n dX3_order_39 rfl ?_
    refine qp_getf dX3_order_40 fX3_143 gb rfl ?_
    refine qp_i2l dX3_order_43 ?_
    refine qs_Ip dX3_order_44 mX3_139 (c_side G (Int32.toInt64 (x.cap)) (Int32.toInt64 (y.cap))) rfl rfl rfl rfl rfl rfl ?_
    refine qp_istore_n dX3_order_47 (by decide) ?_
    refine QP.locsE (L1 := [some (.ref a), some (.ref b), some (.int (sSide (Int32.toInt64 (x.cap)) (Int32.toInt64 (y.cap))))]) rfl ?_
    exact l_order3 ga gb _ (by rw [hr]; simp only [oR2, sThen]; rw [if_pos c_31])
set_option maxHeartbeats 4000000 in
set_option maxRecDepth 100000 in
theorem l_order1 {G : qG} {h : qH} {a b ln ln2 : Nat} {x y : CNv} {r : Int32} (ga : h a = some (cnCell x ln)) (gb : h b = some (cnCell y ln2)) (v : Int32) (hr : r = oR1 x y v) : QP G M_X3_order qTr (qMZ G M_X3_order (qI (fun w h1 => h1 = h ∧ w = r))) 14 [some (.ref a), some (.ref b), some (.int v)] [] h 0 0 := by
  refine qp_iload_n dX3_order_14 rfl ?_
  refine qp_if_ne 30 dX3_order_15 (by decide) (fun c_15 => ?_) (fun c_15 => ?_)
  · exact l_order2 ga gb _ (by rw [hr]; simp only [oR1, sThen]; rw [if_neg c_15])
  · refine qp_aload_n dX3_order_18 rfl ?_
    refine qp_getf dX3_order_19 fX3_59 ga rfl ?_
    refine qp_aload_n dX3_order_22 rfl ?_
    refine qp_getf dX3_order_23 fX3_59 gb rfl ?_
    refine qs_Ip dX3_order_26 mX3_139 (c_side G (x.cd) (y.cd)) rfl rfl rfl rfl rfl rfl ?_
    refine qp_istore_n dX3_order_29 (by decide) ?_
    refine QP.locsE (L1 := [some (.ref a), some (.ref b), some (.int (sSide (x.cd) (y.cd)))]) rfl ?_
    exact l_order2 ga gb _ (by rw [hr]; simp only [oR1, sThen]; rw [if_pos c_15])
set_option maxHeartbeats 4000000 in
set_option maxRecDepth 100000 in
theorem c_order (G : qG) {h : qH} {a b ln ln2 : Nat} {x y : CNv} (ga : h a = some (cnCell x ln)) (gb : h b = some (cnCell y ln2)) : qMet G M_X3_order [.ref a, .ref b] h (qI (fun v h1 => h1 = h ∧ v = sOrder x y)) := by
  refine qMet.of (by decide) (Nat.le_of_ble_eq_true rfl) rfl ?_
  refine QP.locsE (L1 := [some (.ref a), some (.ref b), none]) rfl ?_
  refine qp_aload_n dX3_order_0 rfl ?_
  refine qp_getf dX3_order_1 fX3_136 ga rfl ?_
  refine qp_i2l dX3_order_4 ?_
  refine qp_aload_n dX3_order_5 rfl ?_
  refine qp_getf dX3_order_6 fX3_136 gb rfl ?_
  refine qp_i2l dX3_order_9 ?_
  refine qs_Ip dX3_order_10 mX3_139 (c_side G (Int32.toInt64 (x.cl)) (Int32.toInt64 (y.cl))) rfl rfl rfl rfl rfl rfl ?_
  refine qp_istore_n dX3_order_13 (by decide) ?_
  refine QP.locsE (L1 := [some (.ref a), some (.ref b), some (.int (sSide (Int32.toInt64 (x.cl)) (Int32.toInt64 (y.cl))))]) rfl ?_
  exact l_order1 ga gb _ rfl
set_option maxHeartbeats 4000000 in
set_option maxRecDepth 100000 in
theorem l_powerOfTen {G : qG} {h : qH} {e : Nat} (he31 : e < 2147483648) : ∀ (n k : Nat), e < k + n → k ≤ e → QP G M_X3_powerOfTen qTr (qMZ G M_X3_powerOfTen (qJ (fun v h1 => h1 = h ∧ v = lN (10 ^ e)))) 4 [some (.int (nI e)), some (.long (lN (10 ^ k))), none, some (.int (nI k))] [] h 0 0 := by
  intro n
  induction n with
  | zero =>
    intro k h1 h2
    omega
  | succ n ih =>
    intro k h1 h2
    refine qp_iload_n dX3_powerOfTen_4 rfl ?_
    refine qp_iload_n dX3_powerOfTen_5 rfl ?_
    refine qp_icmp_ge 21 dX3_powerOfTen_6 (by decide) (fun c_6 => ?_) (fun c_6 => ?_)
    · have hke : e ≤ k := (nI_leI he31 (by omega)).mp c_6
      refine qp_lload_n dX3_powerOfTen_21 rfl ?_
      exact qr_l dX3_powerOfTen_22 rfl rfl rfl ⟨rfl, by rw [show k = e by omega]⟩
    · have hke : k < e := Nat.not_le.mp fun q => c_6 ((nI_leI he31 (by omega)).mpr q)
      refine qp_lload_n dX3_powerOfTen_9 rfl ?_
      refine qp_ldc2 dX3_powerOfTen_10 klX3_134 ?_
      refine qp_lmul dX3_powerOfTen_13 ?_
      refine QP.topJ (y := lN (10 ^ (k + 1))) (by rw [show (10 : Int64) = lN 10 from rfl, lN_mul, Nat.pow_succ]) ?_
      refine qp_lstore_n dX3_powerOfTen_14 (by decide) ?_
      refine QP.locsE (L1 := [some (.int (nI e)), some (.long (lN (10 ^ (k + 1)))), none, some (.int (nI k))]) rfl ?_
      refine qp_iinc (v := nI (k + 1)) dX3_powerOfTen_15 rfl (by decide) (nI_1 k) ?_
      refine QP.locsE (L1 := [some (.int (nI e)), some (.long (lN (10 ^ (k + 1)))), none, some (.int (nI (k + 1)))]) rfl ?_
      refine qp_goto 4 dX3_powerOfTen_18 (by decide) ?_
      exact ih (k + 1) (by omega) (by omega)
set_option maxHeartbeats 4000000 in
set_option maxRecDepth 100000 in
theorem c_powerOfTen (G : qG) {h : qH} (e : Nat) (he31 : e < 2147483648) : qMet G M_X3_powerOfTen [.int (nI e)] h (qJ (fun v h1 => h1 = h ∧ v = lN (10 ^ e))) := by
  refine qMet.of (by decide) (Nat.le_of_ble_eq_true rfl) rfl ?_
  refine QP.locsE (L1 := [some (.int (nI e)), none, none, none]) rfl ?_
  refine qp_lconst (v := 1) dX3_powerOfTen_0 (by decide) ?_
  refine qp_lstore_n dX3_powerOfTen_1 (by decide) ?_
  refine QP.locsE (L1 := [some (.int (nI e)), some (.long (1)), none, none]) rfl ?_
  refine qp_iconst (v := 0) dX3_powerOfTen_2 (by decide) ?_
  refine qp_istore_n dX3_powerOfTen_3 (by decide) ?_
  refine QP.locsE (L1 := [some (.int (nI e)), some (.long (1)), none, some (.int (0))]) rfl ?_
  exact l_powerOfTen he31 (e + 1) 0 (by omega) (by omega)
def nzf : Nat → Nat → Bool
  | 0, _ => true
  | f + 1, t => if t = 0 then true else if t % 10 = 0 then false else nzf f (t / 10)
set_option maxHeartbeats 4000000 in
set_option maxRecDepth 100000 in
theorem l_hasNoZero {G : qG} {h : qH} {t0 : Int32} {r : Bool} : ∀ (n k t : Nat), 6 < k + n → k ≤ 6 → t < 2147483648 → r = nzf (6 - k) t → QP G M_X3_hasNoZero qTr (qMZ G M_X3_hasNoZero (qI (fun v h1 => h1 = h ∧ v = bI r))) 4 [some (.int t0), some (.int (nI t)), some (.int (nI k))] [] h 0 0 := by
  intro n
  induction n with
  | zero =>
    intro k t h1 h2
    omega
  | succ n ih =>
    intro k t h1 h2 ht hr
    refine qp_iload_n dX3_hasNoZero_4 rfl ?_
    refine qp_bipush (v := 6) dX3_hasNoZero_5 (by decide) ?_
    refine qp_icmp_ge 34 dX3_hasNoZero_7 (by decide) (fun c_7 => ?_) (fun c_7 => ?_)
    · have hk6 := nI_of_ge rfl (by omega) c_7
      refine qp_iconst (v := 1) dX3_hasNoZero_34 (by decide) ?_
      exact qr_z dX3_hasNoZero_35 rfl nar_1 rfl rfl ⟨rfl, by rw [hr, show 6 - k = 0 by omega]; rfl⟩
    · have hk6 := nI_of_nge rfl (by omega) c_7
      refine qp_iload_n dX3_hasNoZero_10 rfl ?_
      refine qp_if_le 34 dX3_hasNoZero_11 (by decide) (fun c_11 => ?_) (fun c_11 => ?_)
      · have ht0 : t = 0 := Nat.eq_zero_of_not_pos fun q => nI_nle q ht c_11
        refine qp_iconst (v := 1) dX3_hasNoZero_34 (by decide) ?_
        exact qr_z dX3_hasNoZero_35 rfl nar_1 rfl rfl ⟨rfl, by rw [hr, show 6 - k = (6 - (k + 1)) + 1 by omega, nzf, if_pos ht0]; rfl⟩
      · have ht0 : ¬ t = 0 := fun q => c_11 (by rw [q]; decide)
        refine qp_iload_n dX3_hasNoZero_14 rfl ?_
        refine qp_bipush (v := 10) dX3_hasNoZero_15 (by decide) ?_
        refine qp_irem dX3_hasNoZero_17 (by decide) ?_
        refine QP.topI (y := nI (t % 10)) (pk_rem ht (by decide) (by decide)) ?_
        refine qp_if_ne 23 dX3_hasNoZero_18 (by decide) (fun c_18 => ?_) (fun c_18 => ?_)
        · have hm : ¬ t % 10 = 0 := fun q => c_18 (by rw [q]; decide)
          refine qp_iload_n dX3_hasNoZero_23 rfl ?_
          refine qp_bipush (v := 10) dX3_hasNoZero_24 (by decide) ?_
          refine qp_idiv dX3_hasNoZero_26 (by decide) ?_
          refine QP.topI (y := nI (t / 10)) (pk_div ht (by decide) (by decide)) ?_
          refine qp_istore_n dX3_hasNoZero_27 (by decide) ?_
          refine QP.locsE (L1 := [some (.int (t0)), some (.int (nI (t / 10))), some (.int (nI k))]) rfl ?_
          refine qp_iinc (v := nI (k + 1)) dX3_hasNoZero_28 rfl (by decide) (nI_1 k) ?_
          refine QP.locsE (L1 := [some (.int (t0)), some (.int (nI (t / 10))), some (.int (nI (k + 1)))]) rfl ?_
          refine qp_goto 4 dX3_hasNoZero_31 (by decide) ?_
          refine ih (k + 1) (t / 10) (by omega) (by omega) (by omega) ?_
          rw [hr, show 6 - k = (6 - (k + 1)) + 1 by omega, nzf, if_neg ht0, if_neg hm]
        · have hm : t % 10 = 0 := (nI_eq (b := 0) (by omega) (by decide)).mp c_18
          refine qp_iconst (v := 0) dX3_hasNoZero_21 (by decide) ?_
          exact qr_z dX3_hasNoZero_22 rfl nar_0 rfl rfl ⟨rfl, by rw [hr, show 6 - k = (6 - (k + 1)) + 1 by omega, nzf, if_neg ht0, if_pos hm]; rfl⟩
set_option maxHeartbeats 4000000 in
set_option maxRecDepth 100000 in
theorem c_hasNoZero (G : qG) {h : qH} (t : Nat) (ht : t < 2147483648) : qMet G M_X3_hasNoZero [.int (nI t)] h (qI (fun v h1 => h1 = h ∧ v = bI (nzf 6 t))) := by
  refine qMet.of (by decide) (Nat.le_of_ble_eq_true rfl) rfl ?_
  refine QP.locsE (L1 := [some (.int (nI t)), none, none]) rfl ?_
  refine qp_iload_n dX3_hasNoZero_0 rfl ?_
  refine qp_istore_n dX3_hasNoZero_1 (by decide) ?_
  refine QP.locsE (L1 := [some (.int (nI t)), some (.int (nI t)), none]) rfl ?_
  refine qp_iconst (v := 0) dX3_hasNoZero_2 (by decide) ?_
  refine qp_istore_n dX3_hasNoZero_3 (by decide) ?_
  refine QP.locsE (L1 := [some (.int (nI t)), some (.int (nI t)), some (.int (0))]) rfl ?_
  exact l_hasNoZero 7 0 t (by omega) (by omega) ht rfl
end
section
theorem QP.forget {G : qG} {M : qM} {E : qX} {Z : qZ} {pc : Nat} {L : List (Option Value)} {st : List Value} {h : qH} {cn sn : Nat} (i : Nat) (k : QP G M E Z pc (L.set i none) st h cn sn) : QP G M E Z pc L st h cn sn := by
  refine QP.locs (fun j v hj => ?_) k
  by_cases hji : j = i
  · subst hji
    have hl : j < L.length := by
      have := (List.getElem?_eq_some_iff.mp hj).1
      simpa using this
    rw [List.getElem?_set_self hl] at hj
    cases hj
  · rw [List.getElem?_set_ne (Ne.symm hji)] at hj
    exact hj
abbrev shCell (nb rc : Nat) (c : Int32) : qE := .inr (3, [.ref nb, .ref rc, .int c])
abbrev nbCell (N : Nat → Option Nat) : qE := .inl (3, 60, .inr (.inr (.inr (.inr N))))
abbrev rcCell (R : Nat → Int32) : qE := .inl (0, 60, .inl R)
/-- the places below c hold call numbers -/
def ShOk (h : qH) (c : Nat) (N : Nat → Option Nat) (X : Nat → CNv) : Prop := ∀ i, i < c → ∃ a ln, N i = some a ∧ h a = some (cnCell (X i) ln)
def sHas (c : Nat) (p : Int32) : Bool := decide (0 ≤ p.toInt ∧ p.toInt < c)
theorem sHas_in {c : Nat} {p : Int32} (h : sHas c p = true) (hc : c ≤ 60) : vp_in p 60 := by
  simp only [sHas, decide_eq_true_eq] at h
  rw [vp_in_iff]
  omega
theorem sHas_nI {c k : Nat} (h : k < c) (hc : c ≤ 60) : sHas c (nI k) = true := by
  simp only [sHas, decide_eq_true_eq]
  rw [nI_toInt (by omega)]
  omega
theorem sHas_out {c k : Nat} (h : c ≤ k) (hk : k < 2147483648) : sHas c (nI k) = false := by
  simp only [sHas, decide_eq_false_iff_not]
  rw [nI_toInt (by omega)]
  omega
theorem i32_lt0 {p : Int32} : p < 0 ↔ p.toInt < 0 := by rw [Int32.lt_iff_toInt_lt, Int32.toInt_zero]
theorem i32_nIle {p : Int32} {c : Nat} (hc : c < 2147483648) : nI c ≤ p ↔ (c : Int) ≤ p.toInt := by rw [Int32.le_iff_toInt_le, nI_toInt hc]
theorem i32_60le {p : Int32} : (60 : Int32) ≤ p ↔ 60 ≤ p.toInt := by rw [Int32.le_iff_toInt_le]; exact Iff.rfl
set_option maxHeartbeats 4000000 in
set_option maxRecDepth 100000 in
theorem c_has (G : qG) {h : qH} {k0 nb rc c : Nat} (p : Int32) (hc : c ≤ 60) (gk : h k0 = some (shCell nb rc (nI c))) : qMet G M_X2_has [.ref k0, .int p] h (qI (fun v h1 => h1 = h ∧ v = bI (sHas c p))) := by
  refine qMet.of (by decide) (Nat.le_of_ble_eq_true rfl) rfl ?_
  refine QP.locsE (L1 := [some (.ref k0), some (.int (p))]) rfl ?_
  refine qp_iload_n dX2_has_0 rfl ?_
  refine qp_if_lt 22 dX2_has_1 (by decide) (fun c_1 => ?_) (fun c_1 => ?_)
  · refine qp_iconst (v := 0) dX2_has_22 (by decide) ?_
    exact qr_z dX2_has_23 rfl nar_0 rfl rfl ⟨rfl, by rw [i32_lt0] at c_1; rw [show sHas c p = false by simp only [sHas, decide_eq_false_iff_not]; omega]; rfl⟩
  · refine qp_iload_n dX2_has_4 rfl ?_
    refine qp_aload_n dX2_has_5 rfl ?_
    refine qp_getf dX2_has_6 fX2_21 gk rfl ?_
    refine qp_icmp_ge 22 dX2_has_9 (by decide) (fun c_9 => ?_) (fun c_9 => ?_)
    · refine qp_iconst (v := 0) dX2_has_22 (by decide) ?_
      exact qr_z dX2_has_23 rfl nar_0 rfl rfl ⟨rfl, by rw [i32_nIle (by omega)] at c_9; rw [show sHas c p = false by simp only [sHas, decide_eq_false_iff_not]; omega]; rfl⟩
    · refine qp_iload_n dX2_has_12 rfl ?_
      refine qp_bipush (v := 60) dX2_has_13 (by decide) ?_
      refine qp_icmp_ge 22 dX2_has_15 (by decide) (fun c_15 => ?_) (fun c_15 => ?_)
      · refine qp_iconst (v := 0) dX2_has_22 (by decide) ?_
        exact qr_z dX2_has_23 rfl nar_0 rfl rfl ⟨rfl, by rw [i32_60le] at c_15; rw [show sHas c p = false by simp only [sHas, decide_eq_false_iff_not]; omega]; rfl⟩
      · refine qp_iconst (v := 1) dX2_has_18 (by decide) ?_
        refine qp_goto 23 dX2_has_19 (by decide) ?_
        exact qr_z dX2_has_23 rfl nar_1 rfl rfl ⟨rfl, by rw [i32_lt0] at c_1; rw [i32_nIle (by omega)] at c_9; rw [show sHas c p = true by simp only [sHas, decide_eq_true_eq]; omega]; rfl⟩
def sNumAt (c : Nat) (N : Nat → Option Nat) (p : Int32) : Option Nat := if sHas c p = true then N p.toNatClampNeg else none
set_option maxHeartbeats 4000000 in
set_option maxRecDepth 100000 in
theorem c_numberAt (G : qG) {h : qH} {k0 nb rc c : Nat} {N : Nat → Option Nat} (p : Int32) (hc : c ≤ 60) (gk : h k0 = some (shCell nb rc (nI c))) (gn : h nb = some (nbCell N)) : qMet G M_X2_numberAt [.ref k0, .int p] h (qA (fun v h1 => h1 = h ∧ v = sNumAt c N p)) := by
  refine qMet.of (by decide) (Nat.le_of_ble_eq_true rfl) rfl ?_
  refine QP.locsE (L1 := [some (.ref k0), some (.int (p))]) rfl ?_
  refine qp_aload_n dX2_numberAt_0 rfl ?_
  refine qp_iload_n dX2_numberAt_1 rfl ?_
  refine qv_Ip dX2_numberAt_2 mX2_25 (c_has G (p) hc gk) gk rfl rfl rfl rfl rfl rfl rfl ?_
  refine qp_if_eq 17 dX2_numberAt_5 (by decide) (fun c_5 => ?_) (fun c_5 => ?_)
  · rw [bI_0] at c_5
    refine qp_null dX2_numberAt_17 ?_
    exact qr_a (v := none) dX2_numberAt_18 rfl rfl rfl ⟨rfl, by simp only [sNumAt]; rw [if_neg (by rw [c_5]; decide)]⟩
  · rw [bI_n0] at c_5
    refine qp_aload_n dX2_numberAt_8 rfl ?_
    refine qp_getf dX2_numberAt_9 fX2_11 gk rfl ?_
    refine qp_iload_n dX2_numberAt_12 rfl ?_
    refine qp_aald dX2_numberAt_13 gn (sHas_in c_5 hc) ?_
    refine qp_goto 18 dX2_numberAt_14 (by decide) ?_
    exact qr_a (v := N (Int32.toNatClampNeg (p))) dX2_numberAt_18 rfl rfl rfl ⟨rfl, by simp only [sNumAt]; rw [if_pos c_5]⟩
theorem c_numberAtN (G : qG) {h : qH} {k0 nb rc c : Nat} {N : Nat → Option Nat} {a : Nat} (k : Nat) (hk : k < c) (hN : N k = some a) (hc : c ≤ 60) (gk : h k0 = some (shCell nb rc (nI c))) (gn : h nb = some (nbCell N)) : qMet G M_X2_numberAt [.ref k0, .int (nI k)] h (qA (fun v h1 => h1 = h ∧ v = some a)) := by
  refine (c_numberAt G (nI k) hc gk gn).mono (fun r h1 ⟨v, e, h2, h3⟩ => ⟨v, e, h2, ?_⟩)
  rw [h3, sNumAt, if_pos (sHas_nI hk hc), nI_clamp (by omega), hN]
def sRecAt (c : Nat) (R : Nat → Int32) (p : Int32) : Int32 := if sHas c p = true then R p.toNatClampNeg else -1
set_option maxHeartbeats 4000000 in
set_option maxRecDepth 100000 in
theorem c_recordAt (G : qG) {h : qH} {k0 nb rc c : Nat} {R : Nat → Int32} (p : Int32) (hc : c ≤ 60) (gk : h k0 = some (shCell nb rc (nI c))) (gr : h rc = some (rcCell R)) : qMet G M_X2_recordAt [.ref k0, .int p] h (qI (fun v h1 => h1 = h ∧ v = sRecAt c R p)) := by
  refine qMet.of (by decide) (Nat.le_of_ble_eq_true rfl) rfl ?_
  refine QP.locsE (L1 := [some (.ref k0), some (.int (p))]) rfl ?_
  refine qp_aload_n dX2_recordAt_0 rfl ?_
  refine qp_iload_n dX2_recordAt_1 rfl ?_
  refine qv_Ip dX2_recordAt_2 mX2_25 (c_has G (p) hc gk) gk rfl rfl rfl rfl rfl rfl rfl ?_
  refine qp_if_eq 17 dX2_recordAt_5 (by decide) (fun c_5 => ?_) (fun c_5 => ?_)
  · rw [bI_0] at c_5
    refine qp_iconst (v := -1) dX2_recordAt_17 (by decide) ?_
    exact qr_i dX2_recordAt_18 rfl rfl rfl ⟨rfl, by simp only [sRecAt]; rw [if_neg (by rw [c_5]; decide)]⟩
  · rw [bI_n0] at c_5
    refine qp_aload_n dX2_recordAt_8 rfl ?_
    refine qp_getf dX2_recordAt_9 fX2_17 gk rfl ?_
    refine qp_iload_n dX2_recordAt_12 rfl ?_
    refine qp_iald dX2_recordAt_13 gr (sHas_in c_5 hc) ?_
    refine qp_goto 18 dX2_recordAt_14 (by decide) ?_
    exact qr_i dX2_recordAt_18 rfl rfl rfl ⟨rfl, by simp only [sRecAt]; rw [if_pos c_5]⟩
def cntB (X : Nat → CNv) (y : CNv) : Nat → Nat
  | 0 => 0
  | k + 1 => cntB X y k + if sOrder (X k) y < 0 then 1 else 0
theorem cntB_le (X : Nat → CNv) (y : CNv) : ∀ k, cntB X y k ≤ k
  | 0 => Nat.le_refl _
  | k + 1 => by
    have := cntB_le X y k
    simp only [cntB]
    split <;> omega
set_option maxHeartbeats 4000000 in
set_option maxRecDepth 100000 in
theorem l_countBefore {G : qG} {h : qH} {k0 nb rc c : Nat} {N : Nat → Option Nat} {X : Nat → CNv} {a ln : Nat} {y : CNv} (hc : c ≤ 60) (gk : h k0 = some (shCell nb rc (nI c))) (gn : h nb = some (nbCell N)) (hok : ShOk h c N X) (ga : h a = some (cnCell y ln)) : ∀ (n k : Nat), c < k + n → k ≤ c → QP G M_X2_countBefore qTr (qMZ G M_X2_countBefore (qI (fun v h1 => h1 = h ∧ v = nI (cntB X y c)))) 4 [some (.ref k0), some (.ref a), some (.int (nI (cntB X y k))), some (.int (nI k)), none] [] h 0 0 := by
  intro n
  induction n with
  | zero =>
    intro k h1 h2
    omega
  | succ n ih =>
    intro k h1 h2
    refine qp_iload_n dX2_countBefore_4 rfl ?_
    refine qp_aload_n dX2_countBefore_5 rfl ?_
    refine qp_getf dX2_countBefore_6 fX2_21 gk rfl ?_
    refine qp_icmp_ge 42 dX2_countBefore_9 (by decide) (fun c_9 => ?_) (fun c_9 => ?_)
    · have hk : c ≤ k := (nI_leI (by omega) (by omega)).mp c_9
      refine qp_iload_n dX2_countBefore_42 rfl ?_
      exact qr_i dX2_countBefore_43 rfl rfl rfl ⟨rfl, by rw [show k = c by omega]⟩
    · have hk : k < c := Nat.not_le.mp fun q => c_9 ((nI_leI (by omega) (by omega)).mpr q)
      obtain ⟨a1, ln1, hN, ha1⟩ := hok k hk
      refine qp_aload_n dX2_countBefore_12 rfl ?_
      refine qp_iload_n dX2_countBefore_13 rfl ?_
      refine qv_Ap dX2_countBefore_14 mX2_29 (c_numberAtN G k hk hN hc gk gn) gk rfl rfl rfl rfl rfl rfl rfl ?_
      refine qp_astore dX2_countBefore_17 (by decide) ?_
      refine QP.locsE (L1 := [some (.ref k0), some (.ref a), some (.int (nI (cntB X y k))), some (.int (nI k)), some (.ref a1)]) rfl ?_
      refine qp_aload dX2_countBefore_19 rfl ?_
      refine qp_ifnull dX2_countBefore_21 ?_
      refine qp_aload dX2_countBefore_24 rfl ?_
      refine qp_aload_n dX2_countBefore_26 rfl ?_
      refine qs_Ip dX2_countBefore_27 mX2_33 (c_order G ha1 ga) rfl rfl rfl rfl rfl rfl ?_
      refine qp_if_ge 36 dX2_countBefore_30 (by decide) (fun c_30 => ?_) (fun c_30 => ?_)
      · refine qp_iinc (v := nI (k + 1)) dX2_countBefore_36 rfl (by decide) (nI_1 k) ?_
        refine QP.locsE (L1 := [some (.ref k0), some (.ref a), some (.int (nI (cntB X y k))), some (.int (nI (k + 1))), some (.ref a1)]) rfl ?_
        refine qp_goto 4 dX2_countBefore_39 (by decide) ?_
        refine QP.forget 4 ?_
        have hs : cntB X y (k + 1) = cntB X y k := by simp only [cntB]; rw [if_neg (i32_nlt.mpr c_30), Nat.add_zero]
        rw [← hs]
        exact ih (k + 1) (by omega) (by omega)
      · refine qp_iinc (v := nI (cntB X y k + 1)) dX2_countBefore_33 rfl (by decide) (nI_1 _) ?_
        refine QP.locsE (L1 := [some (.ref k0), some (.ref a), some (.int (nI (cntB X y k + 1))), some (.int (nI k)), some (.ref a1)]) rfl ?_
        refine qp_iinc (v := nI (k + 1)) dX2_countBefore_36 rfl (by decide) (nI_1 k) ?_
        refine QP.locsE (L1 := [some (.ref k0), some (.ref a), some (.int (nI (cntB X y k + 1))), some (.int (nI (k + 1))), some (.ref a1)]) rfl ?_
        refine qp_goto 4 dX2_countBefore_39 (by decide) ?_
        refine QP.forget 4 ?_
        have hs : cntB X y (k + 1) = cntB X y k + 1 := by simp only [cntB]; rw [if_pos (i32_nle.mp c_30)]
        rw [← hs]
        exact ih (k + 1) (by omega) (by omega)
set_option maxHeartbeats 4000000 in
set_option maxRecDepth 100000 in
theorem c_countBefore (G : qG) {h : qH} {k0 nb rc c : Nat} {N : Nat → Option Nat} {X : Nat → CNv} {a ln : Nat} {y : CNv} (hc : c ≤ 60) (gk : h k0 = some (shCell nb rc (nI c))) (gn : h nb = some (nbCell N)) (hok : ShOk h c N X) (ga : h a = some (cnCell y ln)) : qMet G M_X2_countBefore [.ref k0, .ref a] h (qI (fun v h1 => h1 = h ∧ v = nI (cntB X y c))) := by
  refine qMet.of (by decide) (Nat.le_of_ble_eq_true rfl) rfl ?_
  refine QP.locsE (L1 := [some (.ref k0), some (.ref a), none, none, none]) rfl ?_
  refine qp_iconst (v := 0) dX2_countBefore_0 (by decide) ?_
  refine qp_istore_n dX2_countBefore_1 (by decide) ?_
  refine QP.locsE (L1 := [some (.ref k0), some (.ref a), some (.int (0)), none, none]) rfl ?_
  refine qp_iconst (v := 0) dX2_countBefore_2 (by decide) ?_
  refine qp_istore_n dX2_countBefore_3 (by decide) ?_
  refine QP.locsE (L1 := [some (.ref k0), some (.ref a), some (.int (0)), some (.int (0)), none]) rfl ?_
  exact l_countBefore hc gk gn hok ga (c + 1) 0 (by omega) (by omega)
def sSame (c : Nat) (X : Nat → CNv) (y : CNv) (k : Nat) : Bool := decide (k < c) && decide (sOrder (X k) y = 0)
set_option maxHeartbeats 4000000 in
set_option maxRecDepth 100000 in
theorem c_isSameAt (G : qG) {h : qH} {k0 nb rc c : Nat} {N : Nat → Option Nat} {X : Nat → CNv} {a ln : Nat} {y : CNv} (k : Nat) (hk60 : k ≤ 60) (hc : c ≤ 60) (gk : h k0 = some (shCell nb rc (nI c))) (gn : h nb = some (nbCell N)) (hok : ShOk h c N X) (ga : h a = some (cnCell y ln)) : qMet G M_X2_isSameAt [.ref k0, .int (nI k), .ref a] h (qI (fun v h1 => h1 = h ∧ v = bI (sSame c X y k))) := by
  refine qMet.of (by decide) (Nat.le_of_ble_eq_true rfl) rfl ?_
  rcases Nat.lt_or_ge k c with hk | hk
  · obtain ⟨a1, ln1, hN, ha1⟩ := hok k hk
    refine QP.locsE (L1 := [some (.ref k0), some (.int (nI k)), some (.ref a), none]) rfl ?_
    refine qp_aload_n dX2_isSameAt_0 rfl ?_
    refine qp_iload_n dX2_isSameAt_1 rfl ?_
    refine qv_Ap dX2_isSameAt_2 mX2_29 (c_numberAtN G k hk hN hc gk gn) gk rfl rfl rfl rfl rfl rfl rfl ?_
    refine qp_astore_n dX2_isSameAt_5 (by decide) ?_
    refine QP.locsE (L1 := [some (.ref k0), some (.int (nI k)), some (.ref a), some (.ref a1)]) rfl ?_
    refine qp_aload_n dX2_isSameAt_6 rfl ?_
    refine qp_ifnull dX2_isSameAt_7 ?_
    refine qp_aload_n dX2_isSameAt_10 rfl ?_
    refine qp_aload_n dX2_isSameAt_11 rfl ?_
    refine qs_Ip dX2_isSameAt_12 mX2_33 (c_order G ha1 ga) rfl rfl rfl rfl rfl rfl ?_
    refine qp_if_ne 22 dX2_isSameAt_15 (by decide) (fun c_15 => ?_) (fun c_15 => ?_)
    · refine qp_iconst (v := 0) dX2_isSameAt_22 (by decide) ?_
      exact qr_z dX2_isSameAt_23 rfl nar_0 rfl rfl ⟨rfl, by simp [sSame, hk, c_15, bI]⟩
    · refine qp_iconst (v := 1) dX2_isSameAt_18 (by decide) ?_
      refine qp_goto 23 dX2_isSameAt_19 (by decide) ?_
      exact qr_z dX2_isSameAt_23 rfl nar_1 rfl rfl ⟨rfl, by simp [sSame, hk, c_15, bI]⟩
  · skip
    refine QP.locsE (L1 := [some (.ref k0), some (.int (nI k)), some (.ref a), none]) rfl ?_
    refine qp_aload_n dX2_isSameAt_0 rfl ?_
    refine qp_iload_n dX2_isSameAt_1 rfl ?_
    refine qv_Ap dX2_isSameAt_2 mX2_29 ((c_numberAt G (nI k) hc gk gn).mono (Q' := qA (fun v h1 => h1 = h ∧ v = none)) (fun r h1 ⟨v, e, h2, h3⟩ => ⟨v, e, h2, by rw [h3, sNumAt, sHas_out hk (by omega)]; rfl⟩)) gk rfl rfl rfl rfl rfl rfl rfl ?_
    refine qp_astore_nN dX2_isSameAt_5 (by decide) ?_
    refine QP.locsE (L1 := [some (.ref k0), some (.int (nI k)), some (.ref a), some (.null)]) rfl ?_
    refine qp_aload_nN dX2_isSameAt_6 rfl ?_
    refine qp_ifnullN 22 dX2_isSameAt_7 (by decide) ?_
    refine qp_iconst (v := 0) dX2_isSameAt_22 (by decide) ?_
    exact qr_z dX2_isSameAt_23 rfl nar_0 rfl rfl ⟨rfl, by simp [sSame, Nat.not_lt.mpr hk, bI]⟩
def sFirst (R : Nat → Int32) (rec : Int32) : Nat → Nat → Int32
  | 0, _ => -1
  | n + 1, k => if R k = rec then nI k else sFirst R rec n (k + 1)
set_option maxHeartbeats 4000000 in
set_option maxRecDepth 100000 in
theorem l_firstWith {G : qG} {h : qH} {k0 nb rc c : Nat} {R : Nat → Int32} {rec r : Int32} (hc : c ≤ 60) (gk : h k0 = some (shCell nb rc (nI c))) (gr : h rc = some (rcCell R)) : ∀ (n k : Nat), c < k + n → k ≤ c → r = sFirst R rec (c - k) k → QP G M_X2_firstWith qTr (qMZ G M_X2_firstWith (qI (fun v h1 => h1 = h ∧ v = r))) 2 [some (.ref k0), some (.int rec), some (.int (nI k))] [] h 0 0 := by
  intro n
  induction n with
  | zero =>
    intro k h1 h2
    omega
  | succ n ih =>
    intro k h1 h2 hr
    refine qp_iload_n dX2_firstWith_2 rfl ?_
    refine qp_aload_n dX2_firstWith_3 rfl ?_
    refine qp_getf dX2_firstWith_4 fX2_21 gk rfl ?_
    refine qp_icmp_ge 28 dX2_firstWith_7 (by decide) (fun c_7 => ?_) (fun c_7 => ?_)
    · have hk : c ≤ k := (nI_leI (by omega) (by omega)).mp c_7
      refine qp_iconst (v := -1) dX2_firstWith_28 (by decide) ?_
      exact qr_i dX2_firstWith_29 rfl rfl rfl ⟨rfl, by rw [hr, show c - k = 0 by omega]; rfl⟩
    · have hk : k < c := Nat.not_le.mp fun q => c_7 ((nI_leI (by omega) (by omega)).mpr q)
      refine qp_aload_n dX2_firstWith_10 rfl ?_
      refine qp_getf dX2_firstWith_11 fX2_17 gk rfl ?_
      refine qp_iload_n dX2_firstWith_14 rfl ?_
      refine qp_ialdN (k) dX2_firstWith_15 gr rfl (by omega) (by decide) ?_
      refine qp_iload_n dX2_firstWith_16 rfl ?_
      refine qp_icmp_ne 22 dX2_firstWith_17 (by decide) (fun c_17 => ?_) (fun c_17 => ?_)
      · refine qp_iinc (v := nI (k + 1)) dX2_firstWith_22 rfl (by decide) (nI_1 k) ?_
        refine QP.locsE (L1 := [some (.ref k0), some (.int (rec)), some (.int (nI (k + 1)))]) rfl ?_
        refine qp_goto 2 dX2_firstWith_25 (by decide) ?_
        refine ih (k + 1) (by omega) (by omega) ?_
        rw [hr, show c - k = (c - (k + 1)) + 1 by omega, sFirst, if_neg c_17]
      · refine qp_iload_n dX2_firstWith_20 rfl ?_
        exact qr_i dX2_firstWith_21 rfl rfl rfl ⟨rfl, by rw [hr, show c - k = (c - (k + 1)) + 1 by omega, sFirst, if_pos c_17]⟩
set_option maxHeartbeats 4000000 in
set_option maxRecDepth 100000 in
theorem c_firstWith (G : qG) {h : qH} {k0 nb rc c : Nat} {R : Nat → Int32} (rec : Int32) (hc : c ≤ 60) (gk : h k0 = some (shCell nb rc (nI c))) (gr : h rc = some (rcCell R)) : qMet G M_X2_firstWith [.ref k0, .int rec] h (qI (fun v h1 => h1 = h ∧ v = sFirst R rec c 0)) := by
  refine qMet.of (by decide) (Nat.le_of_ble_eq_true rfl) rfl ?_
  refine QP.locsE (L1 := [some (.ref k0), some (.int (rec)), none]) rfl ?_
  refine qp_iconst (v := 0) dX2_firstWith_0 (by decide) ?_
  refine qp_istore_n dX2_firstWith_1 (by decide) ?_
  refine QP.locsE (L1 := [some (.ref k0), some (.int (rec)), some (.int (0))]) rfl ?_
  exact l_firstWith hc gk gr (c + 1) 0 (by omega) (by omega) rfl
def sAny (p : Nat → Bool) : Nat → Nat → Bool
  | 0, _ => false
  | n + 1, k => p k || sAny p n (k + 1)
def sCutAt (X : Nat → CNv) (y : CNv) (cut : Int32) (k : Nat) : Bool := sHasClass (X k) y && (decide ((X k).cap = y.cap) && decide ((X k).cut = cut))
set_option maxHeartbeats 4000000 in
set_option maxRecDepth 100000 in
theorem l_hasCutter {G : qG} {h : qH} {k0 nb rc c : Nat} {N : Nat → Option Nat} {X : Nat → CNv} {a ln : Nat} {y : CNv} {cut : Int32} {r : Bool} (hc : c ≤ 60) (gk : h k0 = some (shCell nb rc (nI c))) (gn : h nb = some (nbCell N)) (hok : ShOk h c N X) (ga : h a = some (cnCell y ln)) : ∀ (n k : Nat), c < k + n → k ≤ c → r = sAny (sCutAt X y cut) (c - k) k → QP G M_X2_hasCutter qTr (qMZ G M_X2_hasCutter (qI (fun v h1 => h1 = h ∧ v = bI r))) 2 [some (.ref k0), some (.ref a), some (.int cut), some (.int (nI k)), none] [] h 0 0 := by
  intro n
  induction n with
  | zero =>
    intro k h1 h2
    omega
  | succ n ih =>
    intro k h1 h2 hr
    refine qp_iload_n dX2_hasCutter_2 rfl ?_
    refine qp_aload_n dX2_hasCutter_3 rfl ?_
    refine qp_getf dX2_hasCutter_4 fX2_21 gk rfl ?_
    refine qp_icmp_ge 60 dX2_hasCutter_7 (by decide) (fun c_7 => ?_) (fun c_7 => ?_)
    · have hk : c ≤ k := (nI_leI (by omega) (by omega)).mp c_7
      refine qp_iconst (v := 0) dX2_hasCutter_60 (by decide) ?_
      exact qr_z dX2_hasCutter_61 rfl nar_0 rfl rfl ⟨rfl, by rw [hr, show c - k = 0 by omega]; rfl⟩
    · have hk : k < c := Nat.not_le.mp fun q => c_7 ((nI_leI (by omega) (by omega)).mpr q)
      obtain ⟨a1, ln1, hN, ha1⟩ := hok k hk
      refine qp_aload_n dX2_hasCutter_10 rfl ?_
      refine qp_iload_n dX2_hasCutter_11 rfl ?_
      refine qv_Ap dX2_hasCutter_12 mX2_29 (c_numberAtN G k hk hN hc gk gn) gk rfl rfl rfl rfl rfl rfl rfl ?_
      refine qp_astore dX2_hasCutter_15 (by decide) ?_
      refine QP.locsE (L1 := [some (.ref k0), some (.ref a), some (.int (cut)), some (.int (nI k)), some (.ref a1)]) rfl ?_
      refine qp_aload dX2_hasCutter_17 rfl ?_
      refine qp_ifnull dX2_hasCutter_19 ?_
      refine qp_aload dX2_hasCutter_22 rfl ?_
      refine qp_aload_n dX2_hasCutter_24 rfl ?_
      refine qv_Ip dX2_hasCutter_25 mX2_37 (c_hasClassOf G ha1 ga) ha1 rfl rfl rfl rfl rfl rfl rfl ?_
      refine qp_if_eq 54 dX2_hasCutter_28 (by decide) (fun c_28 => ?_) (fun c_28 => ?_)
      · rw [bI_0] at c_28
        refine qp_iinc (v := nI (k + 1)) dX2_hasCutter_54 rfl (by decide) (nI_1 k) ?_
        refine QP.locsE (L1 := [some (.ref k0), some (.ref a), some (.int (cut)), some (.int (nI (k + 1))), some (.ref a1)]) rfl ?_
        refine qp_goto 2 dX2_hasCutter_57 (by decide) ?_
        refine QP.forget 4 ?_
        refine ih (k + 1) (by omega) (by omega) ?_
        rw [hr, show c - k = (c - (k + 1)) + 1 by omega, sAny, show sCutAt X y cut k = false by simp [sCutAt, c_28], Bool.false_or]
      · rw [bI_n0] at c_28
        refine qp_aload dX2_hasCutter_31 rfl ?_
        refine qp_getf dX2_hasCutter_33 fX2_41 ha1 rfl ?_
        refine qp_aload_n dX2_hasCutter_36 rfl ?_
        refine qp_getf dX2_hasCutter_37 fX2_41 ga rfl ?_
        refine qp_icmp_ne 54 dX2_hasCutter_40 (by decide) (fun c_40 => ?_) (fun c_40 => ?_)
        · refine qp_iinc (v := nI (k + 1)) dX2_hasCutter_54 rfl (by decide) (nI_1 k) ?_
          refine QP.locsE (L1 := [some (.ref k0), some (.ref a), some (.int (cut)), some (.int (nI (k + 1))), some (.ref a1)]) rfl ?_
          refine qp_goto 2 dX2_hasCutter_57 (by decide) ?_
          refine QP.forget 4 ?_
          refine ih (k + 1) (by omega) (by omega) ?_
          rw [hr, show c - k = (c - (k + 1)) + 1 by omega, sAny, show sCutAt X y cut k = false by simp [sCutAt, c_40], Bool.false_or]
        · refine qp_aload dX2_hasCutter_43 rfl ?_
          refine qp_getf dX2_hasCutter_45 fX2_44 ha1 rfl ?_
          refine qp_iload_n dX2_hasCutter_48 rfl ?_
          refine qp_icmp_ne 54 dX2_hasCutter_49 (by decide) (fun c_49 => ?_) (fun c_49 => ?_)
          · refine qp_iinc (v := nI (k + 1)) dX2_hasCutter_54 rfl (by decide) (nI_1 k) ?_
            refine QP.locsE (L1 := [some (.ref k0), some (.ref a), some (.int (cut)), some (.int (nI (k + 1))), some (.ref a1)]) rfl ?_
            refine qp_goto 2 dX2_hasCutter_57 (by decide) ?_
            refine QP.forget 4 ?_
            refine ih (k + 1) (by omega) (by omega) ?_
            rw [hr, show c - k = (c - (k + 1)) + 1 by omega, sAny, show sCutAt X y cut k = false by simp [sCutAt, c_49], Bool.false_or]
          · refine qp_iconst (v := 1) dX2_hasCutter_52 (by decide) ?_
            exact qr_z dX2_hasCutter_53 rfl nar_1 rfl rfl ⟨rfl, by rw [hr, show c - k = (c - (k + 1)) + 1 by omega, sAny, show sCutAt X y cut k = true by simp [sCutAt, c_28, c_40, c_49]]; rfl⟩
set_option maxHeartbeats 4000000 in
set_option maxRecDepth 100000 in
theorem c_hasCutter (G : qG) {h : qH} {k0 nb rc c : Nat} {N : Nat → Option Nat} {X : Nat → CNv} {a ln : Nat} {y : CNv} (cut : Int32) (hc : c ≤ 60) (gk : h k0 = some (shCell nb rc (nI c))) (gn : h nb = some (nbCell N)) (hok : ShOk h c N X) (ga : h a = some (cnCell y ln)) : qMet G M_X2_hasCutter [.ref k0, .ref a, .int cut] h (qI (fun v h1 => h1 = h ∧ v = bI (sAny (sCutAt X y cut) c 0))) := by
  refine qMet.of (by decide) (Nat.le_of_ble_eq_true rfl) rfl ?_
  refine QP.locsE (L1 := [some (.ref k0), some (.ref a), some (.int (cut)), none, none]) rfl ?_
  refine qp_iconst (v := 0) dX2_hasCutter_0 (by decide) ?_
  refine qp_istore_n dX2_hasCutter_1 (by decide) ?_
  refine QP.locsE (L1 := [some (.ref k0), some (.ref a), some (.int (cut)), some (.int (0)), none]) rfl ?_
  exact l_hasCutter hc gk gn hok ga (c + 1) 0 (by omega) (by omega) rfl
end
section
theorem ShOk.kept {h h1 : qH} {c q : Nat} {N : Nat → Option Nat} {X : Nat → CNv} {e : Nat × vp_A} (hok : ShOk h c N X) (gq : h q = some (.inl e)) (o : ∀ b : Nat, b ≠ q → h1 b = h b) : ShOk h1 c N X := fun i hi => by
  obtain ⟨a, ln, e1, e2⟩ := hok i hi
  exact ⟨a, ln, e1, by rw [o a (ne_of_cells e2 gq (by simp))]; exact e2⟩
/-- the places above k up to c have moved up by one -/
def shU {α : Type} (f : Nat → α) (k c : Nat) : Nat → α := fun i => if k < i ∧ i ≤ c then f (i - 1) else f i
/-- a new one at j -/
def insF {α : Type} (f : Nat → α) (j c : Nat) (x : α) : Nat → α := fun i => if i = j then x else if j < i ∧ i ≤ c then f (i - 1) else f i
/-- the places from p up to k have moved down by one -/
def shD {α : Type} (f : Nat → α) (p k : Nat) : Nat → α := fun i => if p ≤ i ∧ i < k then f (i + 1) else f i
theorem shU_0 {α : Type} (f : Nat → α) (c : Nat) : shU f c c = f := by
  funext i
  simp only [shU]
  rw [if_neg (by omega)]
theorem shD_0 {α : Type} (f : Nat → α) (p : Nat) : shD f p p = f := by
  funext i
  simp only [shD]
  rw [if_neg (by omega)]
theorem shU_q {f : Nat → Option Nat} {k c : Nat} (hk : k < c) : va_up (shU f (k + 1) c) (k + 1) (shU f (k + 1) c k) = shU f k c := by
  funext i
  simp only [va_up, shU]
  by_cases h1 : i = k + 1
  · subst h1
    rw [if_pos rfl, if_neg (by omega), if_pos (by omega)]
    rfl
  · rw [if_neg h1]
    by_cases h2 : k < i ∧ i ≤ c
    · rw [if_pos (by omega), if_pos h2]
    · rw [if_neg (by omega), if_neg h2]
theorem shU_i {f : Nat → Int32} {k c : Nat} (hk : k < c) : upd (shU f (k + 1) c) (k + 1) (shU f (k + 1) c k) = shU f k c := by
  funext i
  simp only [upd, shU]
  by_cases h1 : i = k + 1
  · subst h1
    rw [if_pos rfl, if_neg (by omega), if_pos (by omega)]
    rfl
  · rw [if_neg h1]
    by_cases h2 : k < i ∧ i ≤ c
    · rw [if_pos (by omega), if_pos h2]
    · rw [if_neg (by omega), if_neg h2]
theorem ins_q {f : Nat → Option Nat} {j c : Nat} {x : Option Nat} : va_up (shU f j c) j x = insF f j c x := rfl
theorem ins_i {f : Nat → Int32} {j c : Nat} {x : Int32} : upd (shU f j c) j x = insF f j c x := rfl
theorem shD_q {f : Nat → Option Nat} {p k : Nat} (hk : p ≤ k) : va_up (shD f p k) k (shD f p k (k + 1)) = shD f p (k + 1) := by
  funext i
  simp only [va_up, shD]
  by_cases h1 : i = k
  · subst h1
    rw [if_pos rfl, if_neg (by omega), if_pos (by omega)]
  · rw [if_neg h1]
    by_cases h2 : p ≤ i ∧ i < k
    · rw [if_pos (by omega), if_pos (by omega)]
    · rw [if_neg (by omega), if_neg (by omega)]
theorem shD_i {f : Nat → Int32} {p k : Nat} (hk : p ≤ k) : upd (shD f p k) k (shD f p k (k + 1)) = shD f p (k + 1) := by
  funext i
  simp only [upd, shD]
  by_cases h1 : i = k
  · subst h1
    rw [if_pos rfl, if_neg (by omega), if_pos (by omega)]
  · rw [if_neg h1]
    by_cases h2 : p ≤ i ∧ i < k
    · rw [if_pos (by omega), if_pos (by omega)]
    · rw [if_neg (by omega), if_neg (by omega)]
set_option maxHeartbeats 4000000 in
set_option maxRecDepth 100000 in
theorem c_insertFull (G : qG) {h : qH} {k0 nb rc c : Nat} {a : Nat} (p rec : Int32) (hc : c = 60) (gk : h k0 = some (shCell nb rc (nI c))) : qMet G M_X2_insert [.ref k0, .int p, .ref a, .int rec] h (qI (fun v h1 => h1 = h ∧ v = 0)) := by
  refine qMet.of (by decide) (Nat.le_of_ble_eq_true rfl) rfl ?_
  refine QP.locsE (L1 := [some (.ref k0), some (.int (p)), some (.ref a), some (.int (rec)), none]) rfl ?_
  refine qp_aload_n dX2_insert_0 rfl ?_
  refine qp_getf dX2_insert_1 fX2_21 gk rfl ?_
  refine qp_bipush (v := 60) dX2_insert_4 (by decide) ?_
  refine qp_icmp_ge 21 dX2_insert_6 (by decide) (fun c_6 => ?_) (fun c_6 => absurd ((nI_leI (a := 60) (by decide) (by omega)).mpr (by omega)) c_6)
  refine qp_iconst (v := 0) dX2_insert_21 (by decide) ?_
  exact qr_z dX2_insert_22 rfl nar_0 rfl rfl ⟨rfl, rfl⟩
theorem shU_at {α : Type} {f : Nat → α} {k c : Nat} (hk : 0 < k) : shU f k c (k - 1) = f (k - 1) := by
  simp only [shU]
  rw [if_neg (by omega)]
theorem shD_at {α : Type} {f : Nat → α} {p k : Nat} : shD f p k (k + 1) = f (k + 1) := by
  simp only [shD]
  rw [if_neg (by omega)]
set_option maxHeartbeats 4000000 in
set_option maxRecDepth 100000 in
theorem l_insert {G : qG} {h0 : qH} {k0 nb rc c a ln j : Nat} {N : Nat → Option Nat} {R : Nat → Int32} {X : Nat → CNv} {y : CNv} {rec : Int32} (nk : G.2.1 ≤ k0) (nn : G.2.1 ≤ nb) (nr : G.2.1 ≤ rc) (hc : c < 60) : ∀ (n k : Nat) (h : qH), k < j + n → j ≤ k → k ≤ c → h k0 = some (shCell nb rc (nI c)) → h nb = some (nbCell (shU N k c)) → h rc = some (rcCell (shU R k c)) → h a = some (cnCell y ln) → ShOk h c N X → (∀ b : Nat, b ≠ k0 → b ≠ nb → b ≠ rc → h b = h0 b) → QP G M_X2_insert qTr (qMZ G M_X2_insert (qI (fun v h1 => v = 1 ∧ h1 k0 = some (shCell nb rc (nI (c + 1))) ∧ h1 nb = some (nbCell (insF N j c (some a))) ∧ h1 rc = some (rcCell (insF R j c rec)) ∧ ∀ b : Nat, b ≠ k0 → b ≠ nb → b ≠ rc → h1 b = h0 b))) 29 [some (.ref k0), some (.int (nI j)), some (.ref a), some (.int rec), some (.int (nI k))] [] h 0 0 := by
  intro n
  induction n with
  | zero =>
    intro k h h1 h2
    omega
  | succ n ih =>
    intro k h h1 h2 h3 gk gn gr ga hok hfr
    refine qp_iload dX2_insert_29 rfl ?_
    refine qp_iload_n dX2_insert_31 rfl ?_
    refine qp_icmp_le 73 dX2_insert_32 (by decide) (fun c_32 => ?_) (fun c_32 => ?_)
    · have hkj : k = j := by have := (nI_leI (by omega) (by omega)).mp c_32; omega
      subst hkj
      refine qp_aload_n dX2_insert_73 rfl ?_
      refine qp_getf dX2_insert_74 fX2_11 gk rfl ?_
      refine qp_iload_n dX2_insert_77 rfl ?_
      refine qp_aload_n dX2_insert_78 rfl ?_
      refine qk_aast (k) dX2_insert_79 gn ga nn rfl (by omega) (by decide) (fun h1 g2 o3 => ?_)
      have g4 : h1 k0 = some (.inr (3, [.ref nb, .ref rc, .int (nI c)])) := (o3 _ (ne_of_cells gk gn (by simp))).trans gk
      have g5 : h1 rc = some (.inl (0, 60, .inl (shU R k c))) := (o3 _ (ne_of_cells gr gn (by simp))).trans gr
      have g6 : h1 a = some (.inr (1, [.int (y.cl), .int (y.cc), .long (y.cd), .int (y.cap), .int (y.cut), .int (y.cutn), .int (y.year), .int (y.vol), .int (y.voll), .long (y.mark), .int (y.markn), .ref ln, .int (y.lc)])) := (o3 _ (ne_of_cells ga gn (by simp))).trans ga
      have g2 : h1 nb = some (.inl (3, 60, .inr (.inr (.inr (.inr (va_up (shU N k c) (k) (some a))))))) := g2
      refine qp_aload_n dX2_insert_80 rfl ?_
      refine qp_getf dX2_insert_81 fX2_17 g4 rfl ?_
      refine qp_iload_n dX2_insert_84 rfl ?_
      refine qp_iload_n dX2_insert_85 rfl ?_
      refine qk_iast (k) dX2_insert_86 g5 nr rfl (by omega) (by decide) (fun h7 g8 o9 => ?_)
      have g10 : h7 k0 = some (.inr (3, [.ref nb, .ref rc, .int (nI c)])) := (o9 _ (ne_of_cells g4 g5 (by simp))).trans g4
      have g11 : h7 a = some (.inr (1, [.int (y.cl), .int (y.cc), .long (y.cd), .int (y.cap), .int (y.cut), .int (y.cutn), .int (y.year), .int (y.vol), .int (y.voll), .long (y.mark), .int (y.markn), .ref ln, .int (y.lc)])) := (o9 _ (ne_of_cells g6 g5 (by simp))).trans g6
      have g12 : h7 nb = some (.inl (3, 60, .inr (.inr (.inr (.inr (va_up (shU N k c) (k) (some a))))))) := (o9 _ (ne_of_cells g2 g5 (by simp))).trans g2
      have g8 : h7 rc = some (.inl (0, 60, .inl (upd (shU R k c) (k) (rec)))) := g8
      refine qp_aload_n dX2_insert_87 rfl ?_
      refine qp_dup dX2_insert_88 rfl ?_
      refine qp_getf dX2_insert_89 fX2_21 g10 rfl ?_
      refine qp_iconst (v := 1) dX2_insert_92 (by decide) ?_
      refine qp_iadd dX2_insert_93 ?_
      refine QP.topI (y := nI (c + 1)) (nI_1 c) ?_
      refine qk_put dX2_insert_94 fX2_21 g10 nk rfl rfl rfl rfl rfl (fun h13 g14 o15 => ?_)
      have g16 : h13 a = some (.inr (1, [.int (y.cl), .int (y.cc), .long (y.cd), .int (y.cap), .int (y.cut), .int (y.cutn), .int (y.year), .int (y.vol), .int (y.voll), .long (y.mark), .int (y.markn), .ref ln, .int (y.lc)])) := (o15 _ (ne_of_cells g11 g10 (by simp))).trans g11
      have g17 : h13 nb = some (.inl (3, 60, .inr (.inr (.inr (.inr (va_up (shU N k c) (k) (some a))))))) := (o15 _ (ne_of_cells g12 g10 (by simp))).trans g12
      have g18 : h13 rc = some (.inl (0, 60, .inl (upd (shU R k c) (k) (rec)))) := (o15 _ (ne_of_cells g8 g10 (by simp))).trans g8
      have g14 : h13 k0 = some (.inr (3, [.ref nb, .ref rc, .int (nI (c + 1))])) := g14
      refine qp_iconst (v := 1) dX2_insert_97 (by decide) ?_
      exact qr_z dX2_insert_98 rfl nar_1 rfl rfl ⟨rfl, g14, g17, g18, fun b hb1 hb2 hb3 => (((o15 b hb1).trans (o9 b hb3)).trans (o3 b hb2)).trans (hfr b hb1 hb2 hb3)⟩
    · have hkj : j < k := Nat.not_le.mp fun q => c_32 ((nI_leI (by omega) (by omega)).mpr q)
      refine qp_aload_n dX2_insert_35 rfl ?_
      refine qp_getf dX2_insert_36 fX2_11 gk rfl ?_
      refine qp_iload dX2_insert_39 rfl ?_
      refine qp_aload_n dX2_insert_41 rfl ?_
      refine qp_getf dX2_insert_42 fX2_11 gk rfl ?_
      refine qp_iload dX2_insert_45 rfl ?_
      refine qp_iconst (v := 1) dX2_insert_47 (by decide) ?_
      refine qp_isub dX2_insert_48 ?_
      refine QP.topI (y := nI (k - 1)) (by rw [show k = (k - 1) + 1 by omega]; exact nI_pred _) ?_
      refine qp_aaldN (k - 1) dX2_insert_49 gn rfl (by omega) (by decide) ?_
      refine qk_aastO (k) dX2_insert_50 gn (fun v hv => by obtain ⟨a2, ln2, e3, e4⟩ := hok (k - 1) (by omega); rw [shU_at (by omega), e3] at hv; cases hv; exact ⟨_, e4⟩) nn rfl (by omega) (by decide) (fun h19 g20 o21 => ?_)
      have g22 : h19 k0 = some (.inr (3, [.ref nb, .ref rc, .int (nI c)])) := (o21 _ (ne_of_cells gk gn (by simp))).trans gk
      have g23 : h19 rc = some (.inl (0, 60, .inl (shU R k c))) := (o21 _ (ne_of_cells gr gn (by simp))).trans gr
      have g24 : h19 a = some (.inr (1, [.int (y.cl), .int (y.cc), .long (y.cd), .int (y.cap), .int (y.cut), .int (y.cutn), .int (y.year), .int (y.vol), .int (y.voll), .long (y.mark), .int (y.markn), .ref ln, .int (y.lc)])) := (o21 _ (ne_of_cells ga gn (by simp))).trans ga
      have g20 : h19 nb = some (.inl (3, 60, .inr (.inr (.inr (.inr (va_up (shU N k c) (k) (shU N k c (k - 1)))))))) := g20
      have hok25 := hok.kept gn o21
      refine qp_aload_n dX2_insert_51 rfl ?_
      refine qp_getf dX2_insert_52 fX2_17 g22 rfl ?_
      refine qp_iload dX2_insert_55 rfl ?_
      refine qp_aload_n dX2_insert_57 rfl ?_
      refine qp_getf dX2_insert_58 fX2_17 g22 rfl ?_
      refine qp_iload dX2_insert_61 rfl ?_
      refine qp_iconst (v := 1) dX2_insert_63 (by decide) ?_
      refine qp_isub dX2_insert_64 ?_
      refine QP.topI (y := nI (k - 1)) (by rw [show k = (k - 1) + 1 by omega]; exact nI_pred _) ?_
      refine qp_ialdN (k - 1) dX2_insert_65 g23 rfl (by omega) (by decide) ?_
      refine qk_iast (k) dX2_insert_66 g23 nr rfl (by omega) (by decide) (fun h26 g27 o28 => ?_)
      have g29 : h26 k0 = some (.inr (3, [.ref nb, .ref rc, .int (nI c)])) := (o28 _ (ne_of_cells g22 g23 (by simp))).trans g22
      have g30 : h26 a = some (.inr (1, [.int (y.cl), .int (y.cc), .long (y.cd), .int (y.cap), .int (y.cut), .int (y.cutn), .int (y.year), .int (y.vol), .int (y.voll), .long (y.mark), .int (y.markn), .ref ln, .int (y.lc)])) := (o28 _ (ne_of_cells g24 g23 (by simp))).trans g24
      have g31 : h26 nb = some (.inl (3, 60, .inr (.inr (.inr (.inr (va_up (shU N k c) (k) (shU N k c (k - 1)))))))) := (o28 _ (ne_of_cells g20 g23 (by simp))).trans g20
      have g27 : h26 rc = some (.inl (0, 60, .inl (upd (shU R k c) (k) (shU R k c (k - 1))))) := g27
      have hok32 := hok25.kept g23 o28
      refine qp_iinc (v := nI (k - 1)) dX2_insert_67 rfl (by decide) (by rw [show k = (k - 1) + 1 by omega]; exact pk_m1 _) ?_
      refine QP.locsE (L1 := [some (.ref k0), some (.int (nI j)), some (.ref a), some (.int (rec)), some (.int (nI (k - 1)))]) rfl ?_
      refine qp_goto 29 dX2_insert_70 (by decide) ?_
      rw [shU_at (by omega)] at g31 g27
      obtain ⟨k1, rfl⟩ : ∃ k1, k = k1 + 1 := ⟨k - 1, by omega⟩
      have e8 : shU N (k1 + 1) c k1 = N k1 := shU_at (f := N) (k := k1 + 1) (c := c) (by omega)
      have e9 : shU R (k1 + 1) c k1 = R k1 := shU_at (f := R) (k := k1 + 1) (c := c) (by omega)
      rw [show k1 + 1 - 1 = k1 by omega, ← e8, shU_q (by omega)] at g31
      rw [show k1 + 1 - 1 = k1 by omega, ← e9, shU_i (by omega)] at g27
      exact ih k1 h26 (by omega) (by omega) (by omega) g29 g31 g27 g30 hok32 (fun b hb1 hb2 hb3 => ((o28 b hb3).trans (o21 b hb2)).trans (hfr b hb1 hb2 hb3))
set_option maxHeartbeats 4000000 in
set_option maxRecDepth 100000 in
theorem c_insert (G : qG) {h : qH} {k0 nb rc c a ln : Nat} {N : Nat → Option Nat} {R : Nat → Int32} {X : Nat → CNv} {y : CNv} (j : Nat) (rec : Int32) (nk : G.2.1 ≤ k0) (nn : G.2.1 ≤ nb) (nr : G.2.1 ≤ rc) (hc : c < 60) (hj : j ≤ c) (gk : h k0 = some (shCell nb rc (nI c))) (gn : h nb = some (nbCell N)) (gr : h rc = some (rcCell R)) (ga : h a = some (cnCell y ln)) (hok : ShOk h c N X) : qMet G M_X2_insert [.ref k0, .int (nI j), .ref a, .int rec] h (qI (fun v h1 => v = 1 ∧ h1 k0 = some (shCell nb rc (nI (c + 1))) ∧ h1 nb = some (nbCell (insF N j c (some a))) ∧ h1 rc = some (rcCell (insF R j c rec)) ∧ ∀ b : Nat, b ≠ k0 → b ≠ nb → b ≠ rc → h1 b = h b)) := by
  refine qMet.of (by decide) (Nat.le_of_ble_eq_true rfl) rfl ?_
  refine QP.locsE (L1 := [some (.ref k0), some (.int (nI j)), some (.ref a), some (.int (rec)), none]) rfl ?_
  refine qp_aload_n dX2_insert_0 rfl ?_
  refine qp_getf dX2_insert_1 fX2_21 gk rfl ?_
  refine qp_bipush (v := 60) dX2_insert_4 (by decide) ?_
  refine qp_icmp_ge 21 dX2_insert_6 (by decide) (fun c_6 => absurd c_6 (i32_nle.mpr (nI_lt (b := 60) hc (by decide)))) (fun c_6 => ?_)
  refine qp_iload_n dX2_insert_9 rfl ?_
  refine qp_if_lt 21 dX2_insert_10 (by decide) (fun c_10 => absurd c_10 (nI_pos (by omega))) (fun c_10 => ?_)
  refine qp_iload_n dX2_insert_13 rfl ?_
  refine qp_aload_n dX2_insert_14 rfl ?_
  refine qp_getf dX2_insert_15 fX2_21 gk rfl ?_
  refine qp_icmp_le 23 dX2_insert_18 (by decide) (fun c_18 => ?_) (fun c_18 => absurd ((nI_leI (by omega) (by omega)).mpr hj) c_18)
  refine qp_aload_n dX2_insert_23 rfl ?_
  refine qp_getf dX2_insert_24 fX2_21 gk rfl ?_
  refine qp_istore dX2_insert_27 (by decide) ?_
  refine QP.locsE (L1 := [some (.ref k0), some (.int (nI j)), some (.ref a), some (.int (rec)), some (.int (nI c))]) rfl ?_
  exact l_insert nk nn nr hc (c + 1) c h (by omega) hj (by omega) gk (by rw [shU_0]; exact gn) (by rw [shU_0]; exact gr) ga hok (fun _ _ _ _ => rfl)
def remF (f : Nat → Option Nat) (p c : Nat) : Nat → Option Nat := va_up (shD f p (c - 1)) (c - 1) none
set_option maxHeartbeats 4000000 in
set_option maxRecDepth 100000 in
theorem c_removeNot (G : qG) {h : qH} {k0 nb rc c : Nat} (p : Int32) (hc : c ≤ 60) (hp : sHas c p = false) (gk : h k0 = some (shCell nb rc (nI c))) : qMet G M_X2_remove [.ref k0, .int p] h (qV (fun h1 => h1 = h)) := by
  refine qMet.of (by decide) (Nat.le_of_ble_eq_true rfl) rfl ?_
  refine QP.locsE (L1 := [some (.ref k0), some (.int (p)), none]) rfl ?_
  refine qp_aload_n dX2_remove_0 rfl ?_
  refine qp_iload_n dX2_remove_1 rfl ?_
  refine qv_Ip dX2_remove_2 mX2_25 (c_has G (p) hc gk) gk rfl rfl rfl rfl rfl rfl rfl ?_
  refine qp_if_ne 9 dX2_remove_5 (by decide) (fun c_5 => absurd (show bI (sHas c p) = 0 by rw [hp]; rfl) c_5) (fun c_5 => ?_)
  exact qr_v dX2_remove_8 rfl rfl rfl rfl
set_option maxHeartbeats 4000000 in
set_option maxRecDepth 100000 in
theorem l_remove {G : qG} {h0 : qH} {k0 nb rc c p : Nat} {N : Nat → Option Nat} {R : Nat → Int32} {X : Nat → CNv} (nk : G.2.1 ≤ k0) (nn : G.2.1 ≤ nb) (nr : G.2.1 ≤ rc) (hc : c ≤ 60) : ∀ (n k : Nat) (h : qH), c ≤ k + n → p ≤ k → k < c → h k0 = some (shCell nb rc (nI c)) → h nb = some (nbCell (shD N p k)) → h rc = some (rcCell (shD R p k)) → ShOk h c N X → (∀ b : Nat, b ≠ k0 → b ≠ nb → b ≠ rc → h b = h0 b) → QP G M_X2_remove qTr (qMZ G M_X2_remove (qV (fun h1 => h1 k0 = some (shCell nb rc (nI (c - 1))) ∧ h1 nb = some (nbCell (remF N p c)) ∧ h1 rc = some (rcCell (shD R p (c - 1))) ∧ ∀ b : Nat, b ≠ k0 → b ≠ nb → b ≠ rc → h1 b = h0 b))) 11 [some (.ref k0), some (.int (nI p)), some (.int (nI k))] [] h 0 0 := by
  intro n
  induction n with
  | zero =>
    intro k h h1 h2 h3
    omega
  | succ n ih =>
    intro k h h1 h2 h3 gk gn gr hok hfr
    refine qp_iload_n dX2_remove_11 rfl ?_
    refine qp_aload_n dX2_remove_12 rfl ?_
    refine qp_getf dX2_remove_13 fX2_21 gk rfl ?_
    refine qp_iconst (v := 1) dX2_remove_16 (by decide) ?_
    refine qp_isub dX2_remove_17 ?_
    refine QP.topI (y := nI (c - 1)) (by rw [show c = (c - 1) + 1 by omega]; exact nI_pred _) ?_
    refine qp_icmp_ge 55 dX2_remove_18 (by decide) (fun c_18 => ?_) (fun c_18 => ?_)
    · have hkc : k = c - 1 := by have := (nI_leI (by omega) (by omega)).mp c_18; omega
      refine qp_aload_n dX2_remove_55 rfl ?_
      refine qp_dup dX2_remove_56 rfl ?_
      refine qp_getf dX2_remove_57 fX2_21 gk rfl ?_
      refine qp_iconst (v := 1) dX2_remove_60 (by decide) ?_
      refine qp_isub dX2_remove_61 ?_
      refine QP.topI (y := nI (c - 1)) (by rw [show c = (c - 1) + 1 by omega]; exact nI_pred _) ?_
      refine qk_put dX2_remove_62 fX2_21 gk nk rfl rfl rfl rfl rfl (fun h1 g2 o3 => ?_)
      have g4 : h1 nb = some (.inl (3, 60, .inr (.inr (.inr (.inr (shD N p k)))))) := (o3 _ (ne_of_cells gn gk (by simp))).trans gn
      have g5 : h1 rc = some (.inl (0, 60, .inl (shD R p k))) := (o3 _ (ne_of_cells gr gk (by simp))).trans gr
      have g2 : h1 k0 = some (.inr (3, [.ref nb, .ref rc, .int (nI (c - 1))])) := g2
      refine qp_aload_n dX2_remove_65 rfl ?_
      refine qp_getf dX2_remove_66 fX2_11 g2 rfl ?_
      refine qp_aload_n dX2_remove_69 rfl ?_
      refine qp_getf dX2_remove_70 fX2_21 g2 rfl ?_
      refine qp_null dX2_remove_73 ?_
      refine qk_aastO (o := none) (c - 1) dX2_remove_74 g4 (fun _ q => by cases q) nn rfl (by omega) (by decide) (fun h6 g7 o8 => ?_)
      have g9 : h6 rc = some (.inl (0, 60, .inl (shD R p k))) := (o8 _ (ne_of_cells g5 g4 (by simp))).trans g5
      have g10 : h6 k0 = some (.inr (3, [.ref nb, .ref rc, .int (nI (c - 1))])) := (o8 _ (ne_of_cells g2 g4 (by simp))).trans g2
      have g7 : h6 nb = some (.inl (3, 60, .inr (.inr (.inr (.inr (va_up (shD N p k) (c - 1) none)))))) := g7
      exact qr_v dX2_remove_75 rfl rfl rfl ⟨g10, by rw [hkc] at g7; exact g7, by rw [hkc] at g9; exact g9, fun b hb1 hb2 hb3 => ((o8 b hb2).trans (o3 b hb1)).trans (hfr b hb1 hb2 hb3)⟩
    · have hkc : k < c - 1 := Nat.not_le.mp fun q => c_18 ((nI_leI (by omega) (by omega)).mpr q)
      refine qp_aload_n dX2_remove_21 rfl ?_
      refine qp_getf dX2_remove_22 fX2_11 gk rfl ?_
      refine qp_iload_n dX2_remove_25 rfl ?_
      refine qp_aload_n dX2_remove_26 rfl ?_
      refine qp_getf dX2_remove_27 fX2_11 gk rfl ?_
      refine qp_iload_n dX2_remove_30 rfl ?_
      refine qp_iconst (v := 1) dX2_remove_31 (by decide) ?_
      refine qp_iadd dX2_remove_32 ?_
      refine QP.topI (y := nI (k + 1)) (nI_1 k) ?_
      refine qp_aaldN (k + 1) dX2_remove_33 gn rfl (by omega) (by decide) ?_
      refine qk_aastO (k) dX2_remove_34 gn (fun v hv => by obtain ⟨a2, ln2, e3, e4⟩ := hok (k + 1) (by omega); rw [shD_at, e3] at hv; cases hv; exact ⟨_, e4⟩) nn rfl (by omega) (by decide) (fun h11 g12 o13 => ?_)
      have g14 : h11 k0 = some (.inr (3, [.ref nb, .ref rc, .int (nI c)])) := (o13 _ (ne_of_cells gk gn (by simp))).trans gk
      have g15 : h11 rc = some (.inl (0, 60, .inl (shD R p k))) := (o13 _ (ne_of_cells gr gn (by simp))).trans gr
      have g12 : h11 nb = some (.inl (3, 60, .inr (.inr (.inr (.inr (va_up (shD N p k) (k) (shD N p k (k + 1)))))))) := g12
      have hok16 := hok.kept gn o13
      refine qp_aload_n dX2_remove_35 rfl ?_
      refine qp_getf dX2_remove_36 fX2_17 g14 rfl ?_
      refine qp_iload_n dX2_remove_39 rfl ?_
      refine qp_aload_n dX2_remove_40 rfl ?_
      refine qp_getf dX2_remove_41 fX2_17 g14 rfl ?_
      refine qp_iload_n dX2_remove_44 rfl ?_
      refine qp_iconst (v := 1) dX2_remove_45 (by decide) ?_
      refine qp_iadd dX2_remove_46 ?_
      refine QP.topI (y := nI (k + 1)) (nI_1 k) ?_
      refine qp_ialdN (k + 1) dX2_remove_47 g15 rfl (by omega) (by decide) ?_
      refine qk_iast (k) dX2_remove_48 g15 nr rfl (by omega) (by decide) (fun h17 g18 o19 => ?_)
      have g20 : h17 k0 = some (.inr (3, [.ref nb, .ref rc, .int (nI c)])) := (o19 _ (ne_of_cells g14 g15 (by simp))).trans g14
      have g21 : h17 nb = some (.inl (3, 60, .inr (.inr (.inr (.inr (va_up (shD N p k) (k) (shD N p k (k + 1)))))))) := (o19 _ (ne_of_cells g12 g15 (by simp))).trans g12
      have g18 : h17 rc = some (.inl (0, 60, .inl (upd (shD R p k) (k) (shD R p k (k + 1))))) := g18
      have hok22 := hok16.kept g15 o19
      refine qp_iinc (v := nI (k + 1)) dX2_remove_49 rfl (by decide) (nI_1 k) ?_
      refine QP.locsE (L1 := [some (.ref k0), some (.int (nI p)), some (.int (nI (k + 1)))]) rfl ?_
      refine qp_goto 11 dX2_remove_52 (by decide) ?_
      rw [shD_q (by omega)] at g21
      rw [shD_i (by omega)] at g18
      exact ih (k + 1) h17 (by omega) (by omega) (by omega) g20 g21 g18 hok22 (fun b hb1 hb2 hb3 => ((o19 b hb3).trans (o13 b hb2)).trans (hfr b hb1 hb2 hb3))
set_option maxHeartbeats 4000000 in
set_option maxRecDepth 100000 in
theorem c_remove (G : qG) {h : qH} {k0 nb rc c : Nat} {N : Nat → Option Nat} {R : Nat → Int32} {X : Nat → CNv} (p : Nat) (nk : G.2.1 ≤ k0) (nn : G.2.1 ≤ nb) (nr : G.2.1 ≤ rc) (hc : c ≤ 60) (hp : p < c) (gk : h k0 = some (shCell nb rc (nI c))) (gn : h nb = some (nbCell N)) (gr : h rc = some (rcCell R)) (hok : ShOk h c N X) : qMet G M_X2_remove [.ref k0, .int (nI p)] h (qV (fun h1 => h1 k0 = some (shCell nb rc (nI (c - 1))) ∧ h1 nb = some (nbCell (remF N p c)) ∧ h1 rc = some (rcCell (shD R p (c - 1))) ∧ ∀ b : Nat, b ≠ k0 → b ≠ nb → b ≠ rc → h1 b = h b)) := by
  refine qMet.of (by decide) (Nat.le_of_ble_eq_true rfl) rfl ?_
  refine QP.locsE (L1 := [some (.ref k0), some (.int (nI p)), none]) rfl ?_
  refine qp_aload_n dX2_remove_0 rfl ?_
  refine qp_iload_n dX2_remove_1 rfl ?_
  refine qv_Ip dX2_remove_2 mX2_25 (c_has G (nI p) hc gk) gk rfl rfl rfl rfl rfl rfl rfl ?_
  refine qp_if_ne 9 dX2_remove_5 (by decide) (fun c_5 => ?_) (fun c_5 => absurd c_5 (show ¬ bI (sHas c (nI p)) = 0 by rw [sHas_nI hp hc]; decide))
  refine qp_iload_n dX2_remove_9 rfl ?_
  refine qp_istore_n dX2_remove_10 (by decide) ?_
  refine QP.locsE (L1 := [some (.ref k0), some (.int (nI p)), some (.int (nI p))]) rfl ?_
  exact l_remove nk nn nr hc c p h (by omega) (by omega) hp gk (by rw [shD_0]; exact gn) (by rw [shD_0]; exact gr) hok (fun _ _ _ _ => rfl)
set_option maxHeartbeats 4000000 in
set_option maxRecDepth 100000 in
theorem c_shInit (G : qG) {h : qH} {k0 : Nat} (nk : G.2.1 ≤ k0) (gk : h k0 = some (.inr (3, [.null, .null, .int 0]))) : qMet G M_X2_init [.ref k0] h (qV (fun h1 => ∃ nb rc : Nat, G.2.1 ≤ nb ∧ G.2.1 ≤ rc ∧ nb ≠ rc ∧ h nb = none ∧ h rc = none ∧ h1 k0 = some (shCell nb rc 0) ∧ h1 nb = some (nbCell (fun _ => none)) ∧ h1 rc = some (rcCell (fun _ => 0)) ∧ ∀ b : Nat, b ≠ k0 → b ≠ nb → b ≠ rc → h1 b = h b)) := by
  refine qMet.of (by decide) (Nat.le_of_ble_eq_true rfl) rfl ?_
  refine QP.locsE (L1 := [some (.ref k0)]) rfl ?_
  refine qp_aload_n dX2_init_0 rfl ?_
  refine qp_objInit dX2_init_1 oiX2_3 oi_in oi_cd (Nat.le_of_ble_eq_true rfl) (Nat.le_of_ble_eq_true rfl) ?_
  refine qp_aload_n dX2_init_4 rfl ?_
  refine qp_bipush (v := 60) dX2_init_5 (by decide) ?_
  refine qk_newq 60 dX2_init_7 clX2_9 aoC (by decide) (by decide) (by decide) rfl rfl (fun nb h1 n4 z5 g2 o3 => ?_)
  have z6 : h nb = none := z5
  have g7 : h1 k0 = some (.inr (3, [.null, .null, .int (0)])) := (o3 _ (ne_of_none gk z5)).trans gk
  have g2 : h1 nb = some (.inl (3, 60, .inr (.inr (.inr (.inr (fun _ => none)))))) := g2
  refine qk_putF dX2_init_10 ffX2_11 g7 nk rfl rfl rfl rfl rfl rfl rfl (fun h8 g9 o10 => ?_)
  have g11 : h8 nb = some (.inl (3, 60, .inr (.inr (.inr (.inr (fun _ => none)))))) := (o10 _ (ne_of_cells g2 g7 (by simp))).trans g2
  have g9 : h8 k0 = some (.inr (3, [.ref nb, .null, .int (0)])) := g9
  refine qp_aload_n dX2_init_13 rfl ?_
  refine qp_bipush (v := 60) dX2_init_14 (by decide) ?_
  refine qk_newaI 60 dX2_init_16 acI (by decide) (by decide) (by decide) rfl rfl (fun rc h12 n15 z16 g13 o14 => ?_)
  have z17 : h rc = none := (((o10 rc (Ne.symm (ne_of_none g9 z16))).trans (o3 rc (Ne.symm (ne_of_none g11 z16))))).symm.trans z16
  have g18 : h12 nb = some (.inl (3, 60, .inr (.inr (.inr (.inr (fun _ => none)))))) := (o14 _ (ne_of_none g11 z16)).trans g11
  have g19 : h12 k0 = some (.inr (3, [.ref nb, .null, .int (0)])) := (o14 _ (ne_of_none g9 z16)).trans g9
  have g13 : h12 rc = some (.inl (0, 60, .inl (fun _ => 0))) := g13
  refine qk_putF dX2_init_18 ffX2_17 g19 nk rfl rfl rfl rfl rfl rfl rfl (fun h20 g21 o22 => ?_)
  have g23 : h20 nb = some (.inl (3, 60, .inr (.inr (.inr (.inr (fun _ => none)))))) := (o22 _ (ne_of_cells g18 g19 (by simp))).trans g18
  have g24 : h20 rc = some (.inl (0, 60, .inl (fun _ => 0))) := (o22 _ (ne_of_cells g13 g19 (by simp))).trans g13
  have g21 : h20 k0 = some (.inr (3, [.ref nb, .ref rc, .int (0)])) := g21
  exact qr_v dX2_init_21 rfl rfl rfl ⟨nb, rc, n4, n15, ne_of_cells g23 g24 (by simp), z6, z17, g21, g23, g24, fun b hb1 hb2 hb3 => ((((o22 b hb1).trans (o14 b hb3)).trans (o10 b hb1)).trans (o3 b hb2))⟩
end
section
abbrev rdCell (lt : Int32) (sgn : Nat) (c p : Int32) : qE := .inr (2, [.int lt, .ref sgn, .int c, .int p])
abbrev sgCell (f : Nat → Int32) : qE := .inl (0, 60, .inl f)
/-- the signs that are collected; behind them -1 -/
def Sg (c : Nat) (f : Nat → Int32) : Nat → Int32 := fun p => if p < c then f p else -1
def isDig (x : Int32) : Bool := decide (48 ≤ x) && decide (x ≤ 57)
def isCap (x : Int32) : Bool := decide (65 ≤ x) && decide (x ≤ 90)
def isSml (x : Int32) : Bool := decide (97 ≤ x) && decide (x ≤ 122)
set_option maxHeartbeats 4000000 in
set_option maxRecDepth 100000 in
theorem c_isDigit (G : qG) {h : qH} (x : Int32) : qMet G M_X1_isDigit [.int x] h (qI (fun v h1 => h1 = h ∧ v = bI (isDig x))) := by
  refine qMet.of (by decide) (Nat.le_of_ble_eq_true rfl) rfl ?_
  refine QP.locsE (L1 := [some (.int (x))]) rfl ?_
  refine qp_iload_n dX1_isDigit_0 rfl ?_
  refine qp_bipush (v := 48) dX1_isDigit_1 (by decide) ?_
  refine qp_icmp_lt 16 dX1_isDigit_3 (by decide) (fun c_3 => ?_) (fun c_3 => ?_)
  · refine qp_iconst (v := 0) dX1_isDigit_16 (by decide) ?_
    exact qr_z dX1_isDigit_17 rfl nar_0 rfl rfl ⟨rfl, by simp [isDig, i32_nle.mpr c_3, bI]⟩
  · refine qp_iload_n dX1_isDigit_6 rfl ?_
    refine qp_bipush (v := 57) dX1_isDigit_7 (by decide) ?_
    refine qp_icmp_gt 16 dX1_isDigit_9 (by decide) (fun c_9 => ?_) (fun c_9 => ?_)
    · refine qp_iconst (v := 0) dX1_isDigit_16 (by decide) ?_
      exact qr_z dX1_isDigit_17 rfl nar_0 rfl rfl ⟨rfl, by simp [isDig, i32_nle.mpr c_9, bI]⟩
    · refine qp_iconst (v := 1) dX1_isDigit_12 (by decide) ?_
      refine qp_goto 17 dX1_isDigit_13 (by decide) ?_
      exact qr_z dX1_isDigit_17 rfl nar_1 rfl rfl ⟨rfl, by simp [isDig, i32_nlt.mp c_3, i32_nlt.mp c_9, bI]⟩
set_option maxHeartbeats 4000000 in
set_option maxRecDepth 100000 in
theorem c_isCapital (G : qG) {h : qH} (x : Int32) : qMet G M_X1_isCapital [.int x] h (qI (fun v h1 => h1 = h ∧ v = bI (isCap x))) := by
  refine qMet.of (by decide) (Nat.le_of_ble_eq_true rfl) rfl ?_
  refine QP.locsE (L1 := [some (.int (x))]) rfl ?_
  refine qp_iload_n dX1_isCapital_0 rfl ?_
  refine qp_bipush (v := 65) dX1_isCapital_1 (by decide) ?_
  refine qp_icmp_lt 16 dX1_isCapital_3 (by decide) (fun c_3 => ?_) (fun c_3 => ?_)
  · refine qp_iconst (v := 0) dX1_isCapital_16 (by decide) ?_
    exact qr_z dX1_isCapital_17 rfl nar_0 rfl rfl ⟨rfl, by simp [isCap, i32_nle.mpr c_3, bI]⟩
  · refine qp_iload_n dX1_isCapital_6 rfl ?_
    refine qp_bipush (v := 90) dX1_isCapital_7 (by decide) ?_
    refine qp_icmp_gt 16 dX1_isCapital_9 (by decide) (fun c_9 => ?_) (fun c_9 => ?_)
    · refine qp_iconst (v := 0) dX1_isCapital_16 (by decide) ?_
      exact qr_z dX1_isCapital_17 rfl nar_0 rfl rfl ⟨rfl, by simp [isCap, i32_nle.mpr c_9, bI]⟩
    · refine qp_iconst (v := 1) dX1_isCapital_12 (by decide) ?_
      refine qp_goto 17 dX1_isCapital_13 (by decide) ?_
      exact qr_z dX1_isCapital_17 rfl nar_1 rfl rfl ⟨rfl, by simp [isCap, i32_nlt.mp c_3, i32_nlt.mp c_9, bI]⟩
set_option maxHeartbeats 4000000 in
set_option maxRecDepth 100000 in
theorem c_isSmall (G : qG) {h : qH} (x : Int32) : qMet G M_X1_isSmall [.int x] h (qI (fun v h1 => h1 = h ∧ v = bI (isSml x))) := by
  refine qMet.of (by decide) (Nat.le_of_ble_eq_true rfl) rfl ?_
  refine QP.locsE (L1 := [some (.int (x))]) rfl ?_
  refine qp_iload_n dX1_isSmall_0 rfl ?_
  refine qp_bipush (v := 97) dX1_isSmall_1 (by decide) ?_
  refine qp_icmp_lt 16 dX1_isSmall_3 (by decide) (fun c_3 => ?_) (fun c_3 => ?_)
  · refine qp_iconst (v := 0) dX1_isSmall_16 (by decide) ?_
    exact qr_z dX1_isSmall_17 rfl nar_0 rfl rfl ⟨rfl, by simp [isSml, i32_nle.mpr c_3, bI]⟩
  · refine qp_iload_n dX1_isSmall_6 rfl ?_
    refine qp_bipush (v := 122) dX1_isSmall_7 (by decide) ?_
    refine qp_icmp_gt 16 dX1_isSmall_9 (by decide) (fun c_9 => ?_) (fun c_9 => ?_)
    · refine qp_iconst (v := 0) dX1_isSmall_16 (by decide) ?_
      exact qr_z dX1_isSmall_17 rfl nar_0 rfl rfl ⟨rfl, by simp [isSml, i32_nle.mpr c_9, bI]⟩
    · refine qp_iconst (v := 1) dX1_isSmall_12 (by decide) ?_
      refine qp_goto 17 dX1_isSmall_13 (by decide) ?_
      exact qr_z dX1_isSmall_17 rfl nar_1 rfl rfl ⟨rfl, by simp [isSml, i32_nlt.mp c_3, i32_nlt.mp c_9, bI]⟩
set_option maxHeartbeats 4000000 in
set_option maxRecDepth 100000 in
theorem m_isDigit (G : qG) {h : qH} (x : Int32) : qMet G M_X4_isDigit [.int x] h (qI (fun v h1 => h1 = h ∧ v = bI (isDig x))) := by
  refine qMet.of (by decide) (Nat.le_of_ble_eq_true rfl) rfl ?_
  refine QP.locsE (L1 := [some (.int (x))]) rfl ?_
  refine qp_iload_n dX4_isDigit_0 rfl ?_
  refine qp_bipush (v := 48) dX4_isDigit_1 (by decide) ?_
  refine qp_icmp_lt 16 dX4_isDigit_3 (by decide) (fun c_3 => ?_) (fun c_3 => ?_)
  · refine qp_iconst (v := 0) dX4_isDigit_16 (by decide) ?_
    exact qr_z dX4_isDigit_17 rfl nar_0 rfl rfl ⟨rfl, by simp [isDig, i32_nle.mpr c_3, bI]⟩
  · refine qp_iload_n dX4_isDigit_6 rfl ?_
    refine qp_bipush (v := 57) dX4_isDigit_7 (by decide) ?_
    refine qp_icmp_gt 16 dX4_isDigit_9 (by decide) (fun c_9 => ?_) (fun c_9 => ?_)
    · refine qp_iconst (v := 0) dX4_isDigit_16 (by decide) ?_
      exact qr_z dX4_isDigit_17 rfl nar_0 rfl rfl ⟨rfl, by simp [isDig, i32_nle.mpr c_9, bI]⟩
    · refine qp_iconst (v := 1) dX4_isDigit_12 (by decide) ?_
      refine qp_goto 17 dX4_isDigit_13 (by decide) ?_
      exact qr_z dX4_isDigit_17 rfl nar_1 rfl rfl ⟨rfl, by simp [isDig, i32_nlt.mp c_3, i32_nlt.mp c_9, bI]⟩
set_option maxHeartbeats 4000000 in
set_option maxRecDepth 100000 in
theorem m_isCapital (G : qG) {h : qH} (x : Int32) : qMet G M_X4_isCapital [.int x] h (qI (fun v h1 => h1 = h ∧ v = bI (isCap x))) := by
  refine qMet.of (by decide) (Nat.le_of_ble_eq_true rfl) rfl ?_
  refine QP.locsE (L1 := [some (.int (x))]) rfl ?_
  refine qp_iload_n dX4_isCapital_0 rfl ?_
  refine qp_bipush (v := 65) dX4_isCapital_1 (by decide) ?_
  refine qp_icmp_lt 16 dX4_isCapital_3 (by decide) (fun c_3 => ?_) (fun c_3 => ?_)
  · refine qp_iconst (v := 0) dX4_isCapital_16 (by decide) ?_
    exact qr_z dX4_isCapital_17 rfl nar_0 rfl rfl ⟨rfl, by simp [isCap, i32_nle.mpr c_3, bI]⟩
  · refine qp_iload_n dX4_isCapital_6 rfl ?_
    refine qp_bipush (v := 90) dX4_isCapital_7 (by decide) ?_
    refine qp_icmp_gt 16 dX4_isCapital_9 (by decide) (fun c_9 => ?_) (fun c_9 => ?_)
    · refine qp_iconst (v := 0) dX4_isCapital_16 (by decide) ?_
      exact qr_z dX4_isCapital_17 rfl nar_0 rfl rfl ⟨rfl, by simp [isCap, i32_nle.mpr c_9, bI]⟩
    · refine qp_iconst (v := 1) dX4_isCapital_12 (by decide) ?_
      refine qp_goto 17 dX4_isCapital_13 (by decide) ?_
      exact qr_z dX4_isCapital_17 rfl nar_1 rfl rfl ⟨rfl, by simp [isCap, i32_nlt.mp c_3, i32_nlt.mp c_9, bI]⟩
set_option maxHeartbeats 4000000 in
set_option maxRecDepth 100000 in
theorem m_isSmall (G : qG) {h : qH} (x : Int32) : qMet G M_X4_isSmall [.int x] h (qI (fun v h1 => h1 = h ∧ v = bI (isSml x))) := by
  refine qMet.of (by decide) (Nat.le_of_ble_eq_true rfl) rfl ?_
  refine QP.locsE (L1 := [some (.int (x))]) rfl ?_
  refine qp_iload_n dX4_isSmall_0 rfl ?_
  refine qp_bipush (v := 97) dX4_isSmall_1 (by decide) ?_
  refine qp_icmp_lt 16 dX4_isSmall_3 (by decide) (fun c_3 => ?_) (fun c_3 => ?_)
  · refine qp_iconst (v := 0) dX4_isSmall_16 (by decide) ?_
    exact qr_z dX4_isSmall_17 rfl nar_0 rfl rfl ⟨rfl, by simp [isSml, i32_nle.mpr c_3, bI]⟩
  · refine qp_iload_n dX4_isSmall_6 rfl ?_
    refine qp_bipush (v := 122) dX4_isSmall_7 (by decide) ?_
    refine qp_icmp_gt 16 dX4_isSmall_9 (by decide) (fun c_9 => ?_) (fun c_9 => ?_)
    · refine qp_iconst (v := 0) dX4_isSmall_16 (by decide) ?_
      exact qr_z dX4_isSmall_17 rfl nar_0 rfl rfl ⟨rfl, by simp [isSml, i32_nle.mpr c_9, bI]⟩
    · refine qp_iconst (v := 1) dX4_isSmall_12 (by decide) ?_
      refine qp_goto 17 dX4_isSmall_13 (by decide) ?_
      exact qr_z dX4_isSmall_17 rfl nar_1 rfl rfl ⟨rfl, by simp [isSml, i32_nlt.mp c_3, i32_nlt.mp c_9, bI]⟩
set_option maxHeartbeats 4000000 in
set_option maxRecDepth 100000 in
theorem c_signAt (G : qG) {h : qH} {r sgn c : Nat} {lt : Int32} {f : Nat → Int32} {pp : Int32} (k : Nat) (hk : k < 2147483648) (hc : c ≤ 60) (gr : h r = some (rdCell lt sgn (nI c) pp)) (gs : h sgn = some (sgCell f)) : qMet G M_X1_signAt [.ref r, .int (nI k)] h (qI (fun v h1 => h1 = h ∧ v = Sg c f k)) := by
  refine qMet.of (by decide) (Nat.le_of_ble_eq_true rfl) rfl ?_
  refine QP.locsE (L1 := [some (.ref r), some (.int (nI k))]) rfl ?_
  refine qp_iload_n dX1_signAt_0 rfl ?_
  refine qp_if_lt 30 dX1_signAt_1 (by decide) (fun c_1 => ?_) (fun c_1 => ?_)
  · refine qp_iconst (v := -1) dX1_signAt_30 (by decide) ?_
    exact qr_i dX1_signAt_31 rfl rfl rfl ⟨rfl, absurd c_1 (nI_pos hk)⟩
  · refine qp_iload_n dX1_signAt_4 rfl ?_
    refine qp_aload_n dX1_signAt_5 rfl ?_
    refine qp_getf dX1_signAt_6 fX1_19 gr rfl ?_
    refine qp_icmp_ge 30 dX1_signAt_9 (by decide) (fun c_9 => ?_) (fun c_9 => ?_)
    · refine qp_iconst (v := -1) dX1_signAt_30 (by decide) ?_
      exact qr_i dX1_signAt_31 rfl rfl rfl ⟨rfl, by rw [nI_leI (by omega) hk] at c_9; simp only [Sg]; rw [if_neg (by omega)]⟩
    · have hkc : k < c := Nat.not_le.mp fun q => c_9 ((nI_leI (by omega) hk).mpr q)
      refine qp_iload_n dX1_signAt_12 rfl ?_
      refine qp_aload_n dX1_signAt_13 rfl ?_
      refine qp_getf dX1_signAt_14 fX1_9 gr rfl ?_
      refine qp_alen (v := 60) dX1_signAt_17 gs rfl ?_
      refine qp_icmp_ge 30 dX1_signAt_18 (by decide) (fun c_18 => ?_) (fun c_18 => ?_)
      · refine qp_iconst (v := -1) dX1_signAt_30 (by decide) ?_
        exact qr_i dX1_signAt_31 rfl rfl rfl ⟨rfl, absurd c_18 (i32_nle.mpr (nI_lt (b := 60) (by omega) (by decide)))⟩
      · refine qp_aload_n dX1_signAt_21 rfl ?_
        refine qp_getf dX1_signAt_22 fX1_9 gr rfl ?_
        refine qp_iload_n dX1_signAt_25 rfl ?_
        refine qp_ialdN (k) dX1_signAt_26 gs rfl (by omega) (by decide) ?_
        refine qp_goto 31 dX1_signAt_27 (by decide) ?_
        exact qr_i dX1_signAt_31 rfl rfl rfl ⟨rfl, by simp only [Sg]; rw [if_pos hkc]⟩
def sSpace (S : Nat → Int32) (p : Nat) : Bool × Nat := if S p = 32 then (true, p + 1) else (false, p)
/-- the reader has moved to the place q, nothing else has changed -/
def RdAt (h h1 : qH) (lt : Int32) (r sgn c : Nat) (q : Nat) : Prop := h1 r = some (rdCell lt sgn (nI c) (nI q)) ∧ ∀ b : Nat, b ≠ r → h1 b = h b
set_option maxHeartbeats 4000000 in
set_option maxRecDepth 100000 in
theorem c_readSpace (G : qG) {h : qH} {r sgn c p : Nat} {lt : Int32} {f : Nat → Int32} (nr : G.2.1 ≤ r) (hc : c ≤ 60) (hp : p ≤ 200) (gr : h r = some (rdCell lt sgn (nI c) (nI p))) (gs : h sgn = some (sgCell f)) : qMet G M_X1_readSpace [.ref r] h (qI (fun v h1 => v = bI (sSpace (Sg c f) p).1 ∧ RdAt h h1 lt r sgn c (sSpace (Sg c f) p).2)) := by
  refine qMet.of (by decide) (Nat.le_of_ble_eq_true rfl) rfl ?_
  refine QP.locsE (L1 := [some (.ref r)]) rfl ?_
  refine qp_aload_n dX1_readSpace_0 rfl ?_
  refine qp_aload_n dX1_readSpace_1 rfl ?_
  refine qp_getf dX1_readSpace_2 fX1_23 gr rfl ?_
  refine qv_Ip dX1_readSpace_5 mX1_73 (c_signAt G (p) (by omega) hc gr gs) gr rfl rfl rfl rfl rfl rfl rfl ?_
  refine qp_bipush (v := 32) dX1_readSpace_8 (by decide) ?_
  refine qp_icmp_eq 15 dX1_readSpace_10 (by decide) (fun c_10 => ?_) (fun c_10 => ?_)
  · refine qp_aload_n dX1_readSpace_15 rfl ?_
    refine qp_dup dX1_readSpace_16 rfl ?_
    refine qp_getf dX1_readSpace_17 fX1_23 gr rfl ?_
    refine qp_iconst (v := 1) dX1_readSpace_20 (by decide) ?_
    refine qp_iadd dX1_readSpace_21 ?_
    refine QP.topI (y := nI (p + 1)) (nI_1 p) ?_
    refine qk_put dX1_readSpace_22 fX1_23 gr nr rfl rfl rfl rfl rfl (fun h4 g5 o6 => ?_)
    have g7 : h4 sgn = some (.inl (0, 60, .inl (f))) := (o6 _ (ne_of_cells gs gr (by simp))).trans gs
    have g5 : h4 r = some (.inr (2, [.int (lt), .ref sgn, .int (nI c), .int (nI (p + 1))])) := g5
    refine qp_iconst (v := 1) dX1_readSpace_25 (by decide) ?_
    exact qr_z dX1_readSpace_26 rfl nar_1 rfl rfl ⟨by simp only [sSpace]; rw [if_pos c_10]; rfl, by simp only [sSpace]; rw [if_pos c_10]; exact ⟨g5, fun b hb => (o6 b hb)⟩⟩
  · refine qp_iconst (v := 0) dX1_readSpace_13 (by decide) ?_
    exact qr_z dX1_readSpace_14 rfl nar_0 rfl rfl ⟨by simp only [sSpace]; rw [if_neg c_10]; rfl, by simp only [sSpace]; rw [if_neg c_10]; exact ⟨gr, fun _ _ => rfl⟩⟩
/-- how many digits stand at p, m at most -/
def runD (S : Nat → Int32) : Nat → Nat → Nat
  | 0, _ => 0
  | m + 1, p => if isDig (S p) = true then runD S m (p + 1) + 1 else 0
theorem runD_le (S : Nat → Int32) : ∀ m p, runD S m p ≤ m
  | 0, _ => Nat.le_refl _
  | m + 1, p => by
    have := runD_le S m (p + 1)
    simp only [runD]
    split <;> omega
def sDigits (S : Nat → Int32) (p least most : Nat) : Bool × Nat := (decide (least ≤ runD S most p) && !isDig (S (p + runD S most p)), p + runD S most p)
set_option maxHeartbeats 4000000 in
set_option maxRecDepth 100000 in
theorem l_readDigits {G : qG} {h0 : qH} {r sgn c least most q : Nat} {lt : Int32} {f : Nat → Int32} {res : Bool} (nr : G.2.1 ≤ r) (hc : c ≤ 60) (hl : least ≤ 10) (hm : most ≤ 10) : ∀ (n k d p : Nat) (h : qH), most < k + n → k ≤ most → d = k → p ≤ 200 + k → h r = some (rdCell lt sgn (nI c) (nI p)) → h sgn = some (sgCell f) → (∀ b : Nat, b ≠ r → h b = h0 b) → q = p + runD (Sg c f) (most - k) p → res = (decide (least ≤ d + runD (Sg c f) (most - k) p) && !isDig (Sg c f (p + runD (Sg c f) (most - k) p))) → QP G M_X1_readDigits qTr (qMZ G M_X1_readDigits (qI (fun v h1 => v = bI res ∧ RdAt h0 h1 lt r sgn c q))) 5 [some (.ref r), some (.int (nI least)), some (.int (nI most)), some (.int (nI d)), some (.int (nI k))] [] h 0 0 := by
  intro n
  induction n with
  | zero =>
    intro k d p h h1 h2
    omega
  | succ n ih =>
    intro k d p h h1 h2 h3 hp gr gs hfr e1 e2
    refine qp_iload dX1_readDigits_5 rfl ?_
    refine qp_iload_n dX1_readDigits_7 rfl ?_
    refine qp_icmp_ge 44 dX1_readDigits_8 (by decide) (fun c_8 => ?_) (fun c_8 => ?_)
    · have hk : most ≤ k := (nI_leI (by omega) (by omega)).mp c_8
      have hz : runD (Sg c f) (most - k) p = 0 := by rw [show most - k = 0 by omega]; rfl
      rw [hz] at e1 e2
      simp only [Nat.add_zero] at e1 e2
      refine qp_iload_n dX1_readDigits_44 rfl ?_
      refine qp_iload_n dX1_readDigits_45 rfl ?_
      refine qp_icmp_lt 67 dX1_readDigits_46 (by decide) (fun c_46 => ?_) (fun c_46 => ?_)
      · refine qp_iconst (v := 0) dX1_readDigits_67 (by decide) ?_
        exact qr_z dX1_readDigits_68 rfl nar_0 rfl rfl ⟨by rw [nI_ltI (by omega) (by omega)] at c_46; rw [e2, show decide (least ≤ d) = false by simp; omega]; rfl, by rw [e1]; exact ⟨gr, hfr⟩⟩
      · refine qp_aload_n dX1_readDigits_49 rfl ?_
        refine qp_aload_n dX1_readDigits_50 rfl ?_
        refine qp_getf dX1_readDigits_51 fX1_23 gr rfl ?_
        refine qv_Ip dX1_readDigits_54 mX1_73 (c_signAt G (p) (by omega) hc gr gs) gr rfl rfl rfl rfl rfl rfl rfl ?_
        refine qs_Ip dX1_readDigits_57 mX1_111 (c_isDigit G (Sg c f (p))) rfl rfl rfl rfl rfl rfl ?_
        refine qp_if_ne 67 dX1_readDigits_60 (by decide) (fun c_60 => ?_) (fun c_60 => ?_)
        · refine qp_iconst (v := 0) dX1_readDigits_67 (by decide) ?_
          exact qr_z dX1_readDigits_68 rfl nar_0 rfl rfl ⟨by rw [bI_n0] at c_60; rw [e2, c_60]; simp [bI], by rw [e1]; exact ⟨gr, hfr⟩⟩
        · refine qp_iconst (v := 1) dX1_readDigits_63 (by decide) ?_
          refine qp_goto 68 dX1_readDigits_64 (by decide) ?_
          exact qr_z dX1_readDigits_68 rfl nar_1 rfl rfl ⟨by rw [bI_0] at c_60; rw [nI_ltI (by omega) (by omega)] at c_46; rw [e2, c_60, show decide (least ≤ d) = true by simp; omega]; rfl, by rw [e1]; exact ⟨gr, hfr⟩⟩
    · have hk : k < most := Nat.not_le.mp fun q => c_8 ((nI_leI (by omega) (by omega)).mpr q)
      refine qp_aload_n dX1_readDigits_11 rfl ?_
      refine qp_aload_n dX1_readDigits_12 rfl ?_
      refine qp_getf dX1_readDigits_13 fX1_23 gr rfl ?_
      refine qv_Ip dX1_readDigits_16 mX1_73 (c_signAt G (p) (by omega) hc gr gs) gr rfl rfl rfl rfl rfl rfl rfl ?_
      refine qs_Ip dX1_readDigits_19 mX1_111 (c_isDigit G (Sg c f (p))) rfl rfl rfl rfl rfl rfl ?_
      refine qp_if_eq 44 dX1_readDigits_22 (by decide) (fun c_22 => ?_) (fun c_22 => ?_)
      · rw [bI_0] at c_22
        have hz : runD (Sg c f) (most - k) p = 0 := by rw [show most - k = (most - (k + 1)) + 1 by omega, runD, if_neg (by rw [c_22]; decide)]
        rw [hz] at e1 e2
        simp only [Nat.add_zero] at e1 e2
        refine qp_iload_n dX1_readDigits_44 rfl ?_
        refine qp_iload_n dX1_readDigits_45 rfl ?_
        refine qp_icmp_lt 67 dX1_readDigits_46 (by decide) (fun c_46 => ?_) (fun c_46 => ?_)
        · refine qp_iconst (v := 0) dX1_readDigits_67 (by decide) ?_
          exact qr_z dX1_readDigits_68 rfl nar_0 rfl rfl ⟨by rw [nI_ltI (by omega) (by omega)] at c_46; rw [e2, show decide (least ≤ d) = false by simp; omega]; rfl, by rw [e1]; exact ⟨gr, hfr⟩⟩
        · refine qp_aload_n dX1_readDigits_49 rfl ?_
          refine qp_aload_n dX1_readDigits_50 rfl ?_
          refine qp_getf dX1_readDigits_51 fX1_23 gr rfl ?_
          refine qv_Ip dX1_readDigits_54 mX1_73 (c_signAt G (p) (by omega) hc gr gs) gr rfl rfl rfl rfl rfl rfl rfl ?_
          refine qs_Ip dX1_readDigits_57 mX1_111 (c_isDigit G (Sg c f (p))) rfl rfl rfl rfl rfl rfl ?_
          refine qp_if_ne 67 dX1_readDigits_60 (by decide) (fun c_60 => ?_) (fun c_60 => ?_)
          · refine qp_iconst (v := 0) dX1_readDigits_67 (by decide) ?_
            exact qr_z dX1_readDigits_68 rfl nar_0 rfl rfl ⟨by rw [bI_n0] at c_60; rw [e2, c_60]; simp [bI], by rw [e1]; exact ⟨gr, hfr⟩⟩
          · refine qp_iconst (v := 1) dX1_readDigits_63 (by decide) ?_
            refine qp_goto 68 dX1_readDigits_64 (by decide) ?_
            exact qr_z dX1_readDigits_68 rfl nar_1 rfl rfl ⟨by rw [bI_0] at c_60; rw [nI_ltI (by omega) (by omega)] at c_46; rw [e2, c_60, show decide (least ≤ d) = true by simp; omega]; rfl, by rw [e1]; exact ⟨gr, hfr⟩⟩
      · rw [bI_n0] at c_22
        refine qp_iinc (v := nI (d + 1)) dX1_readDigits_25 rfl (by decide) (nI_1 d) ?_
        refine QP.locsE (L1 := [some (.ref r), some (.int (nI least)), some (.int (nI most)), some (.int (nI (d + 1))), some (.int (nI k))]) rfl ?_
        refine qp_aload_n dX1_readDigits_28 rfl ?_
        refine qp_dup dX1_readDigits_29 rfl ?_
        refine qp_getf dX1_readDigits_30 fX1_23 gr rfl ?_
        refine qp_iconst (v := 1) dX1_readDigits_33 (by decide) ?_
        refine qp_iadd dX1_readDigits_34 ?_
        refine QP.topI (y := nI (p + 1)) (nI_1 p) ?_
        refine qk_put dX1_readDigits_35 fX1_23 gr nr rfl rfl rfl rfl rfl (fun h19 g20 o21 => ?_)
        have g22 : h19 sgn = some (.inl (0, 60, .inl (f))) := (o21 _ (ne_of_cells gs gr (by simp))).trans gs
        have g20 : h19 r = some (.inr (2, [.int (lt), .ref sgn, .int (nI c), .int (nI (p + 1))])) := g20
        refine qp_iinc (v := nI (k + 1)) dX1_readDigits_38 rfl (by decide) (nI_1 k) ?_
        refine QP.locsE (L1 := [some (.ref r), some (.int (nI least)), some (.int (nI most)), some (.int (nI (d + 1))), some (.int (nI (k + 1)))]) rfl ?_
        refine qp_goto 5 dX1_readDigits_41 (by decide) ?_
        have hz : runD (Sg c f) (most - k) p = runD (Sg c f) (most - (k + 1)) (p + 1) + 1 := by rw [show most - k = (most - (k + 1)) + 1 by omega, runD, if_pos c_22]
        exact ih (k + 1) (d + 1) (p + 1) h19 (by omega) (by omega) (by omega) (by omega) g20 g22 (fun b hb => (o21 b hb).trans (hfr b hb)) (by rw [e1, hz]; omega) (by rw [e2, hz, show d + (runD (Sg c f) (most - (k + 1)) (p + 1) + 1) = d + 1 + runD (Sg c f) (most - (k + 1)) (p + 1) by omega, show p + (runD (Sg c f) (most - (k + 1)) (p + 1) + 1) = p + 1 + runD (Sg c f) (most - (k + 1)) (p + 1) by omega])
set_option maxHeartbeats 4000000 in
set_option maxRecDepth 100000 in
theorem c_readDigits (G : qG) {h : qH} {r sgn c p : Nat} {lt : Int32} {f : Nat → Int32} (least most : Nat) (hl : least ≤ 10) (hm : most ≤ 10) (nr : G.2.1 ≤ r) (hc : c ≤ 60) (hp : p ≤ 200) (gr : h r = some (rdCell lt sgn (nI c) (nI p))) (gs : h sgn = some (sgCell f)) : qMet G M_X1_readDigits [.ref r, .int (nI least), .int (nI most)] h (qI (fun v h1 => v = bI (sDigits (Sg c f) p least most).1 ∧ RdAt h h1 lt r sgn c (sDigits (Sg c f) p least most).2)) := by
  refine qMet.of (by decide) (Nat.le_of_ble_eq_true rfl) rfl ?_
  refine QP.locsE (L1 := [some (.ref r), some (.int (nI least)), some (.int (nI most)), none, none]) rfl ?_
  refine qp_iconst (v := 0) dX1_readDigits_0 (by decide) ?_
  refine qp_istore_n dX1_readDigits_1 (by decide) ?_
  refine QP.locsE (L1 := [some (.ref r), some (.int (nI least)), some (.int (nI most)), some (.int (0)), none]) rfl ?_
  refine qp_iconst (v := 0) dX1_readDigits_2 (by decide) ?_
  refine qp_istore dX1_readDigits_3 (by decide) ?_
  refine QP.locsE (L1 := [some (.ref r), some (.int (nI least)), some (.int (nI most)), some (.int (0)), some (.int (0))]) rfl ?_
  exact l_readDigits nr hc hl hm (most + 1) 0 0 p h (by omega) (by omega) rfl (by omega) gr gs (fun _ _ => rfl) rfl (by rw [Nat.zero_add]; rfl)
theorem sDigits_le (S : Nat → Int32) (p l m : Nat) : (sDigits S p l m).2 ≤ p + m := Nat.add_le_add_left (runD_le S m p) p
theorem sDigits_ge (S : Nat → Int32) (p l m : Nat) : p ≤ (sDigits S p l m).2 := Nat.le_add_right _ _
theorem sDigits_run {S : Nat → Int32} {p m : Nat} (h : (sDigits S p 1 m).1 = true) : p + 1 ≤ (sDigits S p 1 m).2 := by
  simp only [sDigits, Bool.and_eq_true, decide_eq_true_eq] at h ⊢
  omega
def sNumber (S : Nat → Int32) (p least most : Nat) : Bool × Nat := if S p = 48 then (false, p) else sDigits S p least most
def sDecimals (S : Nat → Int32) (p most : Nat) : Bool × Nat := if (sDigits S p 1 most).1 = false then (false, (sDigits S p 1 most).2) else if S ((sDigits S p 1 most).2 - 1) = 48 then (false, (sDigits S p 1 most).2 - 1) else (true, (sDigits S p 1 most).2)
def sFraction (S : Nat → Int32) (p most : Nat) : Bool × Nat := if S p = 46 then sDecimals S (p + 1) most else (true, p)
def sBegins (S : Nat → Int32) (p : Nat) : Int32 := if isDig (S p) = true then 2 else if S p = 118 ∧ S (p + 1) = 46 then 3 else if isSml (S p) = true then 4 else -1
set_option maxHeartbeats 4000000 in
set_option maxRecDepth 100000 in
theorem c_readNumber (G : qG) {h : qH} {r sgn c p : Nat} {lt : Int32} {f : Nat → Int32} (least most : Nat) (hl : least ≤ 10) (hm : most ≤ 10) (nr : G.2.1 ≤ r) (hc : c ≤ 60) (hp : p ≤ 200) (gr : h r = some (rdCell lt sgn (nI c) (nI p))) (gs : h sgn = some (sgCell f)) : qMet G M_X1_readNumber [.ref r, .int (nI least), .int (nI most)] h (qI (fun v h1 => v = bI (sNumber (Sg c f) p least most).1 ∧ RdAt h h1 lt r sgn c (sNumber (Sg c f) p least most).2)) := by
  refine qMet.of (by decide) (Nat.le_of_ble_eq_true rfl) rfl ?_
  refine QP.locsE (L1 := [some (.ref r), some (.int (nI least)), some (.int (nI most))]) rfl ?_
  refine qp_aload_n dX1_readNumber_0 rfl ?_
  refine qp_aload_n dX1_readNumber_1 rfl ?_
  refine qp_getf dX1_readNumber_2 fX1_23 gr rfl ?_
  refine qv_Ip dX1_readNumber_5 mX1_73 (c_signAt G (p) (by omega) hc gr gs) gr rfl rfl rfl rfl rfl rfl rfl ?_
  refine qp_bipush (v := 48) dX1_readNumber_8 (by decide) ?_
  refine qp_icmp_eq 26 dX1_readNumber_10 (by decide) (fun c_10 => ?_) (fun c_10 => ?_)
  · refine qp_iconst (v := 0) dX1_readNumber_26 (by decide) ?_
    exact qr_z dX1_readNumber_27 rfl nar_0 rfl rfl ⟨by simp only [sNumber]; rw [if_pos c_10]; rfl, by simp only [sNumber]; rw [if_pos c_10]; exact ⟨gr, fun _ _ => rfl⟩⟩
  · refine qp_aload_n dX1_readNumber_13 rfl ?_
    refine qp_iload_n dX1_readNumber_14 rfl ?_
    refine qp_iload_n dX1_readNumber_15 rfl ?_
    refine qv_Iq dX1_readNumber_16 mX1_50 (c_readDigits G (least) (most) (by omega) (by omega) nr hc (by omega) gr gs) gr rfl rfl rfl rfl rfl rfl rfl (fun h5 p6 => ?_)
    obtain ⟨g7, o8⟩ := p6
    have g9 : h5 sgn = some (.inl (0, 60, .inl (f))) := (o8 _ (ne_of_cells gs gr (by simp))).trans gs
    have g7 : h5 r = some (.inr (2, [.int (lt), .ref sgn, .int (nI c), .int (nI ((sDigits (Sg c f) (p) (least) (most)).2))])) := g7
    refine qp_if_eq 26 dX1_readNumber_19 (by decide) (fun c_19 => ?_) (fun c_19 => ?_)
    · refine qp_iconst (v := 0) dX1_readNumber_26 (by decide) ?_
      exact qr_z dX1_readNumber_27 rfl nar_0 rfl rfl ⟨by rw [bI_0] at c_19; simp only [sNumber]; rw [if_neg c_10, c_19]; rfl, by simp only [sNumber]; rw [if_neg c_10]; exact ⟨g7, fun b hb => (o8 b hb)⟩⟩
    · refine qp_iconst (v := 1) dX1_readNumber_22 (by decide) ?_
      refine qp_goto 27 dX1_readNumber_23 (by decide) ?_
      exact qr_z dX1_readNumber_27 rfl nar_1 rfl rfl ⟨by rw [bI_n0] at c_19; simp only [sNumber]; rw [if_neg c_10, c_19]; rfl, by simp only [sNumber]; rw [if_neg c_10]; exact ⟨g7, fun b hb => (o8 b hb)⟩⟩
set_option maxHeartbeats 4000000 in
set_option maxRecDepth 100000 in
theorem c_readDecimals (G : qG) {h : qH} {r sgn c p : Nat} {lt : Int32} {f : Nat → Int32} (most : Nat) (hm : most ≤ 10) (nr : G.2.1 ≤ r) (hc : c ≤ 60) (hp : p ≤ 200) (gr : h r = some (rdCell lt sgn (nI c) (nI p))) (gs : h sgn = some (sgCell f)) : qMet G M_X1_readDecimals [.ref r, .int (nI most)] h (qI (fun v h1 => v = bI (sDecimals (Sg c f) p most).1 ∧ RdAt h h1 lt r sgn c (sDecimals (Sg c f) p most).2)) := by
  refine qMet.of (by decide) (Nat.le_of_ble_eq_true rfl) rfl ?_
  refine QP.locsE (L1 := [some (.ref r), some (.int (nI most))]) rfl ?_
  refine qp_aload_n dX1_readDecimals_0 rfl ?_
  refine qp_iconst (v := 1) dX1_readDecimals_1 (by decide) ?_
  refine qp_iload_n dX1_readDecimals_2 rfl ?_
  refine qv_Iq dX1_readDecimals_3 mX1_50 (c_readDigits G (1) (most) (by omega) (by omega) nr hc (by omega) gr gs) gr rfl rfl rfl rfl rfl rfl rfl (fun h2 p3 => ?_)
  obtain ⟨g4, o5⟩ := p3
  have g6 : h2 sgn = some (.inl (0, 60, .inl (f))) := (o5 _ (ne_of_cells gs gr (by simp))).trans gs
  have g4 : h2 r = some (.inr (2, [.int (lt), .ref sgn, .int (nI c), .int (nI ((sDigits (Sg c f) (p) (1) (most)).2))])) := g4
  refine qp_if_ne 11 dX1_readDecimals_6 (by decide) (fun c_6 => ?_) (fun c_6 => ?_)
  · rw [bI_n0] at c_6
    have hge := sDigits_run c_6
    have hle := sDigits_le (Sg c f) p 1 most
    refine qp_aload_n dX1_readDecimals_11 rfl ?_
    refine qp_aload_n dX1_readDecimals_12 rfl ?_
    refine qp_getf dX1_readDecimals_13 fX1_23 g4 rfl ?_
    refine qp_iconst (v := 1) dX1_readDecimals_16 (by decide) ?_
    refine qp_isub dX1_readDecimals_17 ?_
    refine QP.topI (y := nI ((sDigits (Sg c f) (p) (1) (most)).2 - 1)) (by rw [show (sDigits (Sg c f) (p) (1) (most)).2 = ((sDigits (Sg c f) (p) (1) (most)).2 - 1) + 1 by omega]; exact nI_pred _) ?_
    refine qv_Ip dX1_readDecimals_18 mX1_73 (c_signAt G ((sDigits (Sg c f) (p) (1) (most)).2 - 1) (by omega) hc g4 g6) g4 rfl rfl rfl rfl rfl rfl rfl ?_
    refine qp_bipush (v := 48) dX1_readDecimals_21 (by decide) ?_
    refine qp_icmp_ne 38 dX1_readDecimals_23 (by decide) (fun c_23 => ?_) (fun c_23 => ?_)
    · refine qp_iconst (v := 1) dX1_readDecimals_38 (by decide) ?_
      exact qr_z dX1_readDecimals_39 rfl nar_1 rfl rfl ⟨by simp only [sDecimals]; rw [if_neg (by rw [c_6]; decide), if_neg c_23]; rfl, by simp only [sDecimals]; rw [if_neg (by rw [c_6]; decide), if_neg c_23]; exact ⟨g4, fun b hb => (o5 b hb)⟩⟩
    · refine qp_aload_n dX1_readDecimals_26 rfl ?_
      refine qp_dup dX1_readDecimals_27 rfl ?_
      refine qp_getf dX1_readDecimals_28 fX1_23 g4 rfl ?_
      refine qp_iconst (v := 1) dX1_readDecimals_31 (by decide) ?_
      refine qp_isub dX1_readDecimals_32 ?_
      refine QP.topI (y := nI ((sDigits (Sg c f) (p) (1) (most)).2 - 1)) (by rw [show (sDigits (Sg c f) (p) (1) (most)).2 = ((sDigits (Sg c f) (p) (1) (most)).2 - 1) + 1 by omega]; exact nI_pred _) ?_
      refine qk_put dX1_readDecimals_33 fX1_23 g4 nr rfl rfl rfl rfl rfl (fun h10 g11 o12 => ?_)
      have g13 : h10 sgn = some (.inl (0, 60, .inl (f))) := (o12 _ (ne_of_cells g6 g4 (by simp))).trans g6
      have g11 : h10 r = some (.inr (2, [.int (lt), .ref sgn, .int (nI c), .int (nI ((sDigits (Sg c f) (p) (1) (most)).2 - 1))])) := g11
      refine qp_iconst (v := 0) dX1_readDecimals_36 (by decide) ?_
      exact qr_z dX1_readDecimals_37 rfl nar_0 rfl rfl ⟨by simp only [sDecimals]; rw [if_neg (by rw [c_6]; decide), if_pos c_23]; rfl, by simp only [sDecimals]; rw [if_neg (by rw [c_6]; decide), if_pos c_23]; exact ⟨g11, fun b hb => ((o12 b hb).trans (o5 b hb))⟩⟩
  · rw [bI_0] at c_6
    refine qp_iconst (v := 0) dX1_readDecimals_9 (by decide) ?_
    exact qr_z dX1_readDecimals_10 rfl nar_0 rfl rfl ⟨by simp only [sDecimals]; rw [if_pos c_6]; rfl, by simp only [sDecimals]; rw [if_pos c_6]; exact ⟨g4, fun b hb => (o5 b hb)⟩⟩
set_option maxHeartbeats 4000000 in
set_option maxRecDepth 100000 in
theorem c_readFraction (G : qG) {h : qH} {r sgn c p : Nat} {lt : Int32} {f : Nat → Int32} (most : Nat) (hm : most ≤ 10) (nr : G.2.1 ≤ r) (hc : c ≤ 60) (hp : p ≤ 150) (gr : h r = some (rdCell lt sgn (nI c) (nI p))) (gs : h sgn = some (sgCell f)) : qMet G M_X1_readFraction [.ref r, .int (nI most)] h (qI (fun v h1 => v = bI (sFraction (Sg c f) p most).1 ∧ RdAt h h1 lt r sgn c (sFraction (Sg c f) p most).2)) := by
  refine qMet.of (by decide) (Nat.le_of_ble_eq_true rfl) rfl ?_
  refine QP.locsE (L1 := [some (.ref r), some (.int (nI most))]) rfl ?_
  refine qp_aload_n dX1_readFraction_0 rfl ?_
  refine qp_aload_n dX1_readFraction_1 rfl ?_
  refine qp_getf dX1_readFraction_2 fX1_23 gr rfl ?_
  refine qv_Ip dX1_readFraction_5 mX1_73 (c_signAt G (p) (by omega) hc gr gs) gr rfl rfl rfl rfl rfl rfl rfl ?_
  refine qp_bipush (v := 46) dX1_readFraction_8 (by decide) ?_
  refine qp_icmp_eq 15 dX1_readFraction_10 (by decide) (fun c_10 => ?_) (fun c_10 => ?_)
  · refine qp_aload_n dX1_readFraction_15 rfl ?_
    refine qp_dup dX1_readFraction_16 rfl ?_
    refine qp_getf dX1_readFraction_17 fX1_23 gr rfl ?_
    refine qp_iconst (v := 1) dX1_readFraction_20 (by decide) ?_
    refine qp_iadd dX1_readFraction_21 ?_
    refine QP.topI (y := nI (p + 1)) (nI_1 p) ?_
    refine qk_put dX1_readFraction_22 fX1_23 gr nr rfl rfl rfl rfl rfl (fun h4 g5 o6 => ?_)
    have g7 : h4 sgn = some (.inl (0, 60, .inl (f))) := (o6 _ (ne_of_cells gs gr (by simp))).trans gs
    have g5 : h4 r = some (.inr (2, [.int (lt), .ref sgn, .int (nI c), .int (nI (p + 1))])) := g5
    refine qp_aload_n dX1_readFraction_25 rfl ?_
    refine qp_iload_n dX1_readFraction_26 rfl ?_
    refine qv_Iq dX1_readFraction_27 mX1_86 (c_readDecimals G (most) (by omega) nr hc (by omega) g5 g7) g5 rfl rfl rfl rfl rfl rfl rfl (fun h9 p10 => ?_)
    obtain ⟨g11, o12⟩ := p10
    have g13 : h9 sgn = some (.inl (0, 60, .inl (f))) := (o12 _ (ne_of_cells g7 g5 (by simp))).trans g7
    have g11 : h9 r = some (.inr (2, [.int (lt), .ref sgn, .int (nI c), .int (nI ((sDecimals (Sg c f) (p + 1) (most)).2))])) := g11
    exact qr_z dX1_readFraction_30 rfl (bI_nar _) rfl rfl ⟨by simp only [sFraction]; rw [if_pos c_10], by simp only [sFraction]; rw [if_pos c_10]; exact ⟨g11, fun b hb => ((o12 b hb).trans (o6 b hb))⟩⟩
  · refine qp_iconst (v := 1) dX1_readFraction_13 (by decide) ?_
    exact qr_z dX1_readFraction_14 rfl nar_1 rfl rfl ⟨by simp only [sFraction]; rw [if_neg c_10]; rfl, by simp only [sFraction]; rw [if_neg c_10]; exact ⟨gr, fun _ _ => rfl⟩⟩
set_option maxHeartbeats 4000000 in
set_option maxRecDepth 100000 in
theorem c_partThatBegins (G : qG) {h : qH} {r sgn c p : Nat} {lt : Int32} {f : Nat → Int32} (hc : c ≤ 60) (hp : p ≤ 200) (gr : h r = some (rdCell lt sgn (nI c) (nI p))) (gs : h sgn = some (sgCell f)) : qMet G M_X1_partThatBegins [.ref r] h (qI (fun v h1 => h1 = h ∧ v = sBegins (Sg c f) p)) := by
  refine qMet.of (by decide) (Nat.le_of_ble_eq_true rfl) rfl ?_
  refine QP.locsE (L1 := [some (.ref r), none]) rfl ?_
  refine qp_aload_n dX1_partThatBegins_0 rfl ?_
  refine qp_aload_n dX1_partThatBegins_1 rfl ?_
  refine qp_getf dX1_partThatBegins_2 fX1_23 gr rfl ?_
  refine qv_Ip dX1_partThatBegins_5 mX1_73 (c_signAt G (p) (by omega) hc gr gs) gr rfl rfl rfl rfl rfl rfl rfl ?_
  refine qp_istore_n dX1_partThatBegins_8 (by decide) ?_
  refine QP.locsE (L1 := [some (.ref r), some (.int (Sg c f (p)))]) rfl ?_
  refine qp_iload_n dX1_partThatBegins_9 rfl ?_
  refine qs_Ip dX1_partThatBegins_10 mX1_111 (c_isDigit G (Sg c f (p))) rfl rfl rfl rfl rfl rfl ?_
  refine qp_if_eq 18 dX1_partThatBegins_13 (by decide) (fun c_13 => ?_) (fun c_13 => ?_)
  · refine qp_iload_n dX1_partThatBegins_18 rfl ?_
    refine qp_bipush (v := 118) dX1_partThatBegins_19 (by decide) ?_
    refine qp_icmp_ne 41 dX1_partThatBegins_21 (by decide) (fun c_21 => ?_) (fun c_21 => ?_)
    · refine qp_iload_n dX1_partThatBegins_41 rfl ?_
      refine qs_Ip dX1_partThatBegins_42 mX1_114 (c_isSmall G (Sg c f (p))) rfl rfl rfl rfl rfl rfl ?_
      refine qp_if_eq 52 dX1_partThatBegins_45 (by decide) (fun c_45 => ?_) (fun c_45 => ?_)
      · refine qp_iconst (v := -1) dX1_partThatBegins_52 (by decide) ?_
        exact qr_i dX1_partThatBegins_53 rfl rfl rfl ⟨rfl, by rw [bI_0] at c_13 c_45; simp only [sBegins]; rw [if_neg (by rw [c_13]; decide), if_neg (fun q => c_21 q.1), if_neg (by rw [c_45]; decide)]⟩
      · refine qp_iconst (v := 4) dX1_partThatBegins_48 (by decide) ?_
        refine qp_goto 53 dX1_partThatBegins_49 (by decide) ?_
        exact qr_i dX1_partThatBegins_53 rfl rfl rfl ⟨rfl, by rw [bI_0] at c_13; rw [bI_n0] at c_45; simp only [sBegins]; rw [if_neg (by rw [c_13]; decide), if_neg (fun q => c_21 q.1), if_pos c_45]⟩
    · refine qp_aload_n dX1_partThatBegins_24 rfl ?_
      refine qp_aload_n dX1_partThatBegins_25 rfl ?_
      refine qp_getf dX1_partThatBegins_26 fX1_23 gr rfl ?_
      refine qp_iconst (v := 1) dX1_partThatBegins_29 (by decide) ?_
      refine qp_iadd dX1_partThatBegins_30 ?_
      refine QP.topI (y := nI (p + 1)) (nI_1 p) ?_
      refine qv_Ip dX1_partThatBegins_31 mX1_73 (c_signAt G (p + 1) (by omega) hc gr gs) gr rfl rfl rfl rfl rfl rfl rfl ?_
      refine qp_bipush (v := 46) dX1_partThatBegins_34 (by decide) ?_
      refine qp_icmp_ne 41 dX1_partThatBegins_36 (by decide) (fun c_36 => ?_) (fun c_36 => ?_)
      · refine qp_iload_n dX1_partThatBegins_41 rfl ?_
        refine qs_Ip dX1_partThatBegins_42 mX1_114 (c_isSmall G (Sg c f (p))) rfl rfl rfl rfl rfl rfl ?_
        refine qp_if_eq 52 dX1_partThatBegins_45 (by decide) (fun c_45 => ?_) (fun c_45 => ?_)
        · refine qp_iconst (v := -1) dX1_partThatBegins_52 (by decide) ?_
          exact qr_i dX1_partThatBegins_53 rfl rfl rfl ⟨rfl, by rw [bI_0] at c_13 c_45; simp only [sBegins]; rw [if_neg (by rw [c_13]; decide), if_neg (fun q => c_36 q.2), if_neg (by rw [c_45]; decide)]⟩
        · refine qp_iconst (v := 4) dX1_partThatBegins_48 (by decide) ?_
          refine qp_goto 53 dX1_partThatBegins_49 (by decide) ?_
          exact qr_i dX1_partThatBegins_53 rfl rfl rfl ⟨rfl, by rw [bI_0] at c_13; rw [bI_n0] at c_45; simp only [sBegins]; rw [if_neg (by rw [c_13]; decide), if_neg (fun q => c_36 q.2), if_pos c_45]⟩
      · refine qp_iconst (v := 3) dX1_partThatBegins_39 (by decide) ?_
        exact qr_i dX1_partThatBegins_40 rfl rfl rfl ⟨rfl, by rw [bI_0] at c_13; simp only [sBegins]; rw [if_neg (by rw [c_13]; decide), if_pos ⟨c_21, c_36⟩]⟩
  · refine qp_iconst (v := 2) dX1_partThatBegins_16 (by decide) ?_
    exact qr_i dX1_partThatBegins_17 rfl rfl rfl ⟨rfl, by rw [bI_n0] at c_13; simp only [sBegins]; rw [if_pos c_13]⟩
/-- the digits from a up to b, filled up with zeros, after k of them -/
def sFill (S : Nat → Int32) (a b : Nat) : Nat → Int64
  | 0 => 0
  | k + 1 => sFill S a b k * 10 + (if a + k < b then S (a + k) - 48 else (0 : Int32)).toInt64
set_option maxHeartbeats 4000000 in
set_option maxRecDepth 100000 in
theorem l_filledUp {G : qG} {h : qH} {r sgn c a b width : Nat} {lt pp : Int32} {f : Nat → Int32} (ha : a ≤ 400) (hb : b ≤ 400) (hw : width ≤ 20) (hc : c ≤ 60) (gr : h r = some (rdCell lt sgn (nI c) pp)) (gs : h sgn = some (sgCell f)) : ∀ (n k : Nat), width < k + n → k ≤ width → QP G M_X1_filledUp qTr (qMZ G M_X1_filledUp (qJ (fun v h1 => h1 = h ∧ v = sFill (Sg c f) a b width))) 6 [some (.ref r), some (.int (nI a)), some (.int (nI b)), some (.int (nI width)), some (.long (sFill (Sg c f) a b k)), none, some (.int (nI k)), none] [] h 0 0 := by
  intro n
  induction n with
  | zero =>
    intro k h1 h2
    omega
  | succ n ih =>
    intro k h1 h2
    refine qp_iload dX1_filledUp_6 rfl ?_
    refine qp_iload_n dX1_filledUp_8 rfl ?_
    refine qp_icmp_ge 55 dX1_filledUp_9 (by decide) (fun c_9 => ?_) (fun c_9 => ?_)
    · have hk : width ≤ k := (nI_leI (by omega) (by omega)).mp c_9
      refine qp_lload dX1_filledUp_55 rfl ?_
      exact qr_l dX1_filledUp_57 rfl rfl rfl ⟨rfl, by rw [show k = width by omega]⟩
    · have hk : k < width := Nat.not_le.mp fun q => c_9 ((nI_leI (by omega) (by omega)).mpr q)
      refine qp_iload_n dX1_filledUp_12 rfl ?_
      refine qp_iload dX1_filledUp_13 rfl ?_
      refine qp_iadd dX1_filledUp_15 ?_
      refine QP.topI (y := nI (a + k)) (nI_add a k) ?_
      refine qp_iload_n dX1_filledUp_16 rfl ?_
      refine qp_icmp_ge 34 dX1_filledUp_17 (by decide) (fun c_17 => ?_) (fun c_17 => ?_)
      · rw [nI_leI (by omega) (by omega)] at c_17
        refine qp_iconst (v := 0) dX1_filledUp_34 (by decide) ?_
        refine qp_istore dX1_filledUp_35 (by decide) ?_
        refine QP.locsE (L1 := [some (.ref r), some (.int (nI a)), some (.int (nI b)), some (.int (nI width)), some (.long (sFill (Sg c f) a b k)), none, some (.int (nI k)), some (.int (0))]) rfl ?_
        refine qp_lload dX1_filledUp_37 rfl ?_
        refine qp_ldc2 dX1_filledUp_39 klX1_132 ?_
        refine qp_lmul dX1_filledUp_42 ?_
        refine qp_iload dX1_filledUp_43 rfl ?_
        refine qp_i2l dX1_filledUp_45 ?_
        refine qp_ladd dX1_filledUp_46 ?_
        refine QP.topJ (y := sFill (Sg c f) a b (k + 1)) (by simp only [sFill]; rw [if_neg (by omega)]) ?_
        refine qp_lstore dX1_filledUp_47 (by decide) ?_
        refine QP.locsE (L1 := [some (.ref r), some (.int (nI a)), some (.int (nI b)), some (.int (nI width)), some (.long (sFill (Sg c f) a b (k + 1))), none, some (.int (nI k)), some (.int (0))]) rfl ?_
        refine qp_iinc (v := nI (k + 1)) dX1_filledUp_49 rfl (by decide) (nI_1 k) ?_
        refine QP.locsE (L1 := [some (.ref r), some (.int (nI a)), some (.int (nI b)), some (.int (nI width)), some (.long (sFill (Sg c f) a b (k + 1))), none, some (.int (nI (k + 1))), some (.int (0))]) rfl ?_
        refine qp_goto 6 dX1_filledUp_52 (by decide) ?_
        refine QP.forget 7 ?_
        exact ih (k + 1) (by omega) (by omega)
      · rw [nI_leI (by omega) (by omega)] at c_17
        refine qp_aload_n dX1_filledUp_20 rfl ?_
        refine qp_iload_n dX1_filledUp_21 rfl ?_
        refine qp_iload dX1_filledUp_22 rfl ?_
        refine qp_iadd dX1_filledUp_24 ?_
        refine QP.topI (y := nI (a + k)) (nI_add a k) ?_
        refine qv_Ip dX1_filledUp_25 mX1_73 (c_signAt G (a + k) (by omega) hc gr gs) gr rfl rfl rfl rfl rfl rfl rfl ?_
        refine qp_bipush (v := 48) dX1_filledUp_28 (by decide) ?_
        refine qp_isub dX1_filledUp_30 ?_
        refine qp_goto 35 dX1_filledUp_31 (by decide) ?_
        refine qp_istore dX1_filledUp_35 (by decide) ?_
        refine QP.locsE (L1 := [some (.ref r), some (.int (nI a)), some (.int (nI b)), some (.int (nI width)), some (.long (sFill (Sg c f) a b k)), none, some (.int (nI k)), some (.int ((Sg c f (a + k)) - (48)))]) rfl ?_
        refine qp_lload dX1_filledUp_37 rfl ?_
        refine qp_ldc2 dX1_filledUp_39 klX1_132 ?_
        refine qp_lmul dX1_filledUp_42 ?_
        refine qp_iload dX1_filledUp_43 rfl ?_
        refine qp_i2l dX1_filledUp_45 ?_
        refine qp_ladd dX1_filledUp_46 ?_
        refine QP.topJ (y := sFill (Sg c f) a b (k + 1)) (by simp only [sFill]; rw [if_pos (by omega)]) ?_
        refine qp_lstore dX1_filledUp_47 (by decide) ?_
        refine QP.locsE (L1 := [some (.ref r), some (.int (nI a)), some (.int (nI b)), some (.int (nI width)), some (.long (sFill (Sg c f) a b (k + 1))), none, some (.int (nI k)), some (.int ((Sg c f (a + k)) - (48)))]) rfl ?_
        refine qp_iinc (v := nI (k + 1)) dX1_filledUp_49 rfl (by decide) (nI_1 k) ?_
        refine QP.locsE (L1 := [some (.ref r), some (.int (nI a)), some (.int (nI b)), some (.int (nI width)), some (.long (sFill (Sg c f) a b (k + 1))), none, some (.int (nI (k + 1))), some (.int ((Sg c f (a + k)) - (48)))]) rfl ?_
        refine qp_goto 6 dX1_filledUp_52 (by decide) ?_
        refine QP.forget 7 ?_
        exact ih (k + 1) (by omega) (by omega)
set_option maxHeartbeats 4000000 in
set_option maxRecDepth 100000 in
theorem c_filledUp (G : qG) {h : qH} {r sgn c : Nat} {lt pp : Int32} {f : Nat → Int32} (a b width : Nat) (ha : a ≤ 400) (hb : b ≤ 400) (hw : width ≤ 20) (hc : c ≤ 60) (gr : h r = some (rdCell lt sgn (nI c) pp)) (gs : h sgn = some (sgCell f)) : qMet G M_X1_filledUp [.ref r, .int (nI a), .int (nI b), .int (nI width)] h (qJ (fun v h1 => h1 = h ∧ v = sFill (Sg c f) a b width)) := by
  refine qMet.of (by decide) (Nat.le_of_ble_eq_true rfl) rfl ?_
  refine QP.locsE (L1 := [some (.ref r), some (.int (nI a)), some (.int (nI b)), some (.int (nI width)), none, none, none, none]) rfl ?_
  refine qp_lconst (v := 0) dX1_filledUp_0 (by decide) ?_
  refine qp_lstore dX1_filledUp_1 (by decide) ?_
  refine QP.locsE (L1 := [some (.ref r), some (.int (nI a)), some (.int (nI b)), some (.int (nI width)), some (.long (0)), none, none, none]) rfl ?_
  refine qp_iconst (v := 0) dX1_filledUp_3 (by decide) ?_
  refine qp_istore dX1_filledUp_4 (by decide) ?_
  refine QP.locsE (L1 := [some (.ref r), some (.int (nI a)), some (.int (nI b)), some (.int (nI width)), some (.long (0)), none, some (.int (0)), none]) rfl ?_
  exact l_filledUp ha hb hw hc gr gs (width + 1) 0 (by omega) (by omega)
set_option maxHeartbeats 4000000 in
set_option maxRecDepth 100000 in
theorem c_place (G : qG) {h : qH} {r sgn c : Nat} {lt pp : Int32} (gr : h r = some (rdCell lt sgn (nI c) pp)) : qMet G M_X1_place [.ref r] h (qI (fun v h1 => h1 = h ∧ v = pp)) := by
  refine qMet.of (by decide) (Nat.le_of_ble_eq_true rfl) rfl ?_
  refine QP.locsE (L1 := [some (.ref r)]) rfl ?_
  refine qp_aload_n dX1_place_0 rfl ?_
  refine qp_getf dX1_place_1 fX1_23 gr rfl ?_
  exact qr_i dX1_place_4 rfl rfl rfl ⟨rfl, rfl⟩
set_option maxHeartbeats 4000000 in
set_option maxRecDepth 100000 in
theorem c_forget (G : qG) {h : qH} {r sgn c : Nat} {lt pp : Int32} (nr : G.2.1 ≤ r) (gr : h r = some (rdCell lt sgn (nI c) pp)) : qMet G M_X1_forget [.ref r] h (qV (fun h1 => h1 r = some (rdCell lt sgn 0 pp) ∧ ∀ b : Nat, b ≠ r → h1 b = h b)) := by
  refine qMet.of (by decide) (Nat.le_of_ble_eq_true rfl) rfl ?_
  refine QP.locsE (L1 := [some (.ref r)]) rfl ?_
  refine qp_aload_n dX1_forget_0 rfl ?_
  refine qp_iconst (v := 0) dX1_forget_1 (by decide) ?_
  refine qk_put dX1_forget_2 fX1_19 gr nr rfl rfl rfl rfl rfl (fun h1 g2 o3 => ?_)
  have g2 : h1 r = some (.inr (2, [.int (lt), .ref sgn, .int (0), .int (pp)])) := g2
  exact qr_v dX1_forget_5 rfl rfl rfl ⟨g2, fun b hb => (o3 b hb)⟩
set_option maxHeartbeats 4000000 in
set_option maxRecDepth 100000 in
theorem c_collect (G : qG) {h : qH} {r sgn c : Nat} {lt pp : Int32} {f : Nat → Int32} (x : Int32) (nr : G.2.1 ≤ r) (ns : G.2.1 ≤ sgn) (hc : c < 60) (gr : h r = some (rdCell lt sgn (nI c) pp)) (gs : h sgn = some (sgCell f)) : qMet G M_X1_collect [.ref r, .int x] h (qV (fun h1 => h1 r = some (rdCell lt sgn (nI (c + 1)) pp) ∧ h1 sgn = some (sgCell (upd f c x)) ∧ ∀ b : Nat, b ≠ r → b ≠ sgn → h1 b = h b)) := by
  refine qMet.of (by decide) (Nat.le_of_ble_eq_true rfl) rfl ?_
  refine QP.locsE (L1 := [some (.ref r), some (.int (x))]) rfl ?_
  refine qp_aload_n dX1_collect_0 rfl ?_
  refine qp_getf dX1_collect_1 fX1_19 gr rfl ?_
  refine qp_aload_n dX1_collect_4 rfl ?_
  refine qp_getf dX1_collect_5 fX1_9 gr rfl ?_
  refine qp_alen (v := 60) dX1_collect_8 gs rfl ?_
  refine qp_icmp_ge 32 dX1_collect_9 (by decide) (fun c_9 => absurd c_9 (i32_nle.mpr (nI_lt (b := 60) hc (by decide)))) (fun c_9 => ?_)
  refine qp_aload_n dX1_collect_12 rfl ?_
  refine qp_getf dX1_collect_13 fX1_9 gr rfl ?_
  refine qp_aload_n dX1_collect_16 rfl ?_
  refine qp_getf dX1_collect_17 fX1_19 gr rfl ?_
  refine qp_iload_n dX1_collect_20 rfl ?_
  refine qk_iast (c) dX1_collect_21 gs ns rfl hc (by decide) (fun h1 g2 o3 => ?_)
  have g4 : h1 r = some (.inr (2, [.int (lt), .ref sgn, .int (nI c), .int (pp)])) := (o3 _ (ne_of_cells gr gs (by simp))).trans gr
  have g2 : h1 sgn = some (.inl (0, 60, .inl (upd (f) (c) (x)))) := g2
  refine qp_aload_n dX1_collect_22 rfl ?_
  refine qp_dup dX1_collect_23 rfl ?_
  refine qp_getf dX1_collect_24 fX1_19 g4 rfl ?_
  refine qp_iconst (v := 1) dX1_collect_27 (by decide) ?_
  refine qp_iadd dX1_collect_28 ?_
  refine QP.topI (y := nI (c + 1)) (nI_1 c) ?_
  refine qk_put dX1_collect_29 fX1_19 g4 nr rfl rfl rfl rfl rfl (fun h5 g6 o7 => ?_)
  have g8 : h5 sgn = some (.inl (0, 60, .inl (upd (f) (c) (x)))) := (o7 _ (ne_of_cells g2 g4 (by simp))).trans g2
  have g6 : h5 r = some (.inr (2, [.int (lt), .ref sgn, .int (nI (c + 1)), .int (pp)])) := g6
  exact qr_v dX1_collect_32 rfl rfl rfl ⟨g6, g8, fun b hb hb2 => ((o7 b hb).trans (o3 b hb2))⟩
set_option maxHeartbeats 4000000 in
set_option maxRecDepth 100000 in
theorem c_collectFull (G : qG) {h : qH} {r sgn c : Nat} {lt pp : Int32} {f : Nat → Int32} (x : Int32) (hc : c = 60) (gr : h r = some (rdCell lt sgn (nI c) pp)) (gs : h sgn = some (sgCell f)) : qMet G M_X1_collect [.ref r, .int x] h (qV (fun h1 => h1 = h)) := by
  refine qMet.of (by decide) (Nat.le_of_ble_eq_true rfl) rfl ?_
  refine QP.locsE (L1 := [some (.ref r), some (.int (x))]) rfl ?_
  refine qp_aload_n dX1_collect_0 rfl ?_
  refine qp_getf dX1_collect_1 fX1_19 gr rfl ?_
  refine qp_aload_n dX1_collect_4 rfl ?_
  refine qp_getf dX1_collect_5 fX1_9 gr rfl ?_
  refine qp_alen (v := 60) dX1_collect_8 gs rfl ?_
  refine qp_icmp_ge 32 dX1_collect_9 (by decide) (fun c_9 => ?_) (fun c_9 => absurd ((nI_leI (a := 60) (by decide) (by omega)).mpr (by omega)) c_9)
  exact qr_v dX1_collect_32 rfl rfl rfl rfl
set_option maxHeartbeats 4000000 in
set_option maxRecDepth 100000 in
theorem c_rdInit (G : qG) {h : qH} {r : Nat} (lb : Bool) (nr : G.2.1 ≤ r) (gr : h r = some (.inr (2, [.int 0, .null, .int 0, .int 0]))) : qMet G M_X1_init [.ref r, .int (bI lb)] h (qV (fun h1 => ∃ sgn : Nat, G.2.1 ≤ sgn ∧ h sgn = none ∧ h1 r = some (rdCell (bI lb) sgn 0 0) ∧ h1 sgn = some (sgCell (fun _ => 0)) ∧ ∀ b : Nat, b ≠ r → b ≠ sgn → h1 b = h b)) := by
  refine qMet.of (by decide) (Nat.le_of_ble_eq_true rfl) rfl ?_
  refine QP.locsE (L1 := [some (.ref r), some (.int (bI lb))]) rfl ?_
  refine qp_aload_n dX1_init_0 rfl ?_
  refine qp_objInit dX1_init_1 oiX1_3 oi_in oi_cd (Nat.le_of_ble_eq_true rfl) (Nat.le_of_ble_eq_true rfl) ?_
  refine qp_aload_n dX1_init_4 rfl ?_
  refine qp_bipush (v := 60) dX1_init_5 (by decide) ?_
  refine qk_newaI 60 dX1_init_7 acI (by decide) (by decide) (by decide) rfl rfl (fun sgn h1 n4 z5 g2 o3 => ?_)
  have z6 : h sgn = none := z5
  have g7 : h1 r = some (.inr (2, [.int (0), .null, .int (0), .int (0)])) := (o3 _ (ne_of_none gr z5)).trans gr
  have g2 : h1 sgn = some (.inl (0, 60, .inl (fun _ => 0))) := g2
  refine qk_putF dX1_init_9 ffX1_9 g7 nr rfl rfl rfl rfl rfl rfl rfl (fun h8 g9 o10 => ?_)
  have g11 : h8 sgn = some (.inl (0, 60, .inl (fun _ => 0))) := (o10 _ (ne_of_cells g2 g7 (by simp))).trans g2
  have g9 : h8 r = some (.inr (2, [.int (0), .ref sgn, .int (0), .int (0)])) := g9
  refine qp_aload_n dX1_init_12 rfl ?_
  refine qp_iload_n dX1_init_13 rfl ?_
  refine qk_putF dX1_init_14 ffX1_15 g9 nr rfl rfl rfl rfl rfl (bI_nar lb) (by cases lb <;> rfl) (fun h12 g13 o14 => ?_)
  have g15 : h12 sgn = some (.inl (0, 60, .inl (fun _ => 0))) := (o14 _ (ne_of_cells g11 g9 (by simp))).trans g11
  have g13 : h12 r = some (.inr (2, [.int (bI lb), .ref sgn, .int (0), .int (0)])) := g13
  exact qr_v dX1_init_17 rfl rfl rfl ⟨sgn, n4, z6, g13, g15, fun b hb hb2 => (((o14 b hb).trans (o10 b hb)).trans (o3 b hb2))⟩
end
section
theorem sNumber_le (S : Nat → Int32) (p l m : Nat) : (sNumber S p l m).2 ≤ p + m := by
  have := sDigits_le S p l m
  simp only [sNumber]
  split
  · show p ≤ p + m; omega
  · exact this
theorem sNumber_ge (S : Nat → Int32) (p l m : Nat) : p ≤ (sNumber S p l m).2 := by
  have := sDigits_ge S p l m
  simp only [sNumber]
  split
  · exact Nat.le_refl p
  · exact this
theorem sDecimals_le (S : Nat → Int32) (p m : Nat) : (sDecimals S p m).2 ≤ p + m := by
  have := sDigits_le S p 1 m
  simp only [sDecimals]
  split
  · exact this
  · split
    · show _ - 1 ≤ _; omega
    · exact this
theorem sDecimals_ge (S : Nat → Int32) (p m : Nat) : p ≤ (sDecimals S p m).2 := by
  have := sDigits_ge S p 1 m
  simp only [sDecimals]
  split
  · exact this
  · next h =>
    have h2 := sDigits_run (S := S) (p := p) (m := m) (by simpa using h)
    split
    · show p ≤ _ - 1; omega
    · exact this
theorem sFraction_le (S : Nat → Int32) (p m : Nat) : (sFraction S p m).2 ≤ p + m + 1 := by
  have := sDecimals_le S (p + 1) m
  simp only [sFraction]
  split
  · omega
  · show p ≤ _; omega
theorem sFraction_ge (S : Nat → Int32) (p m : Nat) : p ≤ (sFraction S p m).2 := by
  have := sDecimals_ge S (p + 1) m
  simp only [sFraction]
  split
  · omega
  · exact Nat.le_refl p
theorem sSpace_le (S : Nat → Int32) (p : Nat) : (sSpace S p).2 ≤ p + 1 := by
  simp only [sSpace]
  split
  · exact Nat.le_refl _
  · show p ≤ p + 1; omega
theorem sSpace_ge (S : Nat → Int32) (p : Nat) : p ≤ (sSpace S p).2 := by
  simp only [sSpace]
  split
  · show p ≤ p + 1; omega
  · exact Nat.le_refl p
/-- what reading a part comes to: the wrong place, or the next place with the call number and its lines -/
abbrev ROut : Type := Nat ⊕ (Nat × CNv × (Nat → Int32))
def oOk (o : ROut) : Bool := match o with
  | .inl _ => false
  | .inr _ => true
def RdOut (h h1 : qH) (lt : Int32) (r sgn c n ln : Nat) (o : ROut) : Prop := match o with
  | .inl w => h1 r = some (rdCell lt sgn (nI c) (nI w)) ∧ ∀ b : Nat, b ≠ r → b ≠ n → b ≠ ln → h1 b = h b
  | .inr y => h1 r = some (rdCell lt sgn (nI c) (nI y.1)) ∧ h1 n = some (cnCell y.2.1 ln) ∧ h1 ln = some (lnCell y.2.2) ∧ ∀ b : Nat, b ≠ r → b ≠ n → b ≠ ln → h1 b = h b
/-- the state in which a part is read -/
def RdIn (G : qG) (h : qH) (lt : Int32) (r sgn c n ln p k : Nat) (f : Nat → Int32) (x : CNv) (fl : Nat → Int32) : Prop := G.2.1 ≤ r ∧ G.2.1 ≤ n ∧ G.2.1 ≤ ln ∧ c ≤ 60 ∧ p ≤ 100 ∧ x.lc = nI k ∧ k < 6 ∧ h r = some (rdCell lt sgn (nI c) (nI p)) ∧ h sgn = some (sgCell f) ∧ h n = some (cnCell x ln) ∧ h ln = some (lnCell fl)
def sYear (S : Nat → Int32) (p k : Nat) (x : CNv) (fl : Nat → Int32) : ROut := if (sNumber S p 4 4).1 = false then .inl (sNumber S p 4 4).2 else .inr ((sNumber S p 4 4).2, (x.cl, x.cc, x.cd, x.cap, x.cut, x.cutn, (sFill S p (sNumber S p 4 4).2 4).toInt32, x.vol, x.voll, x.mark, x.markn, nI (k + 1)), upd fl k (nI ((sNumber S p 4 4).2 - p)))
set_option maxHeartbeats 4000000 in
set_option maxRecDepth 100000 in
theorem c_readYear (G : qG) {h : qH} {lt : Int32} {r sgn c n ln p k : Nat} {f : Nat → Int32} {x : CNv} {fl : Nat → Int32} (hin : RdIn G h lt r sgn c n ln p k f x fl) : qMet G M_X1_readYear [.ref r, .ref n] h (qI (fun v h1 => v = bI (oOk (sYear (Sg c f) p k x fl)) ∧ RdOut h h1 lt r sgn c n ln (sYear (Sg c f) p k x fl))) := by
  obtain ⟨nr, nn, nl, hc, hp, hk, hk6, gr, gs, gn, gl⟩ := hin
  refine qMet.of (by decide) (Nat.le_of_ble_eq_true rfl) rfl ?_
  refine QP.locsE (L1 := [some (.ref r), some (.ref n), none]) rfl ?_
  refine qp_aload_n dX1_readYear_0 rfl ?_
  refine qp_getf dX1_readYear_1 fX1_23 gr rfl ?_
  refine qp_istore_n dX1_readYear_4 (by decide) ?_
  refine QP.locsE (L1 := [some (.ref r), some (.ref n), some (.int (nI p))]) rfl ?_
  refine qp_aload_n dX1_readYear_5 rfl ?_
  refine qp_iconst (v := 4) dX1_readYear_6 (by decide) ?_
  refine qp_iconst (v := 4) dX1_readYear_7 (by decide) ?_
  refine qv_Iq dX1_readYear_8 mX1_46 (c_readNumber G (4) (4) (by omega) (by omega) nr hc (by omega) gr gs) gr rfl rfl rfl rfl rfl rfl rfl (fun h2 p3 => ?_)
  have b4 := sNumber_le (Sg c f) (p) (4) (4)
  have b5 := sNumber_ge (Sg c f) (p) (4) (4)
  obtain ⟨g6, o7⟩ := p3
  have g8 : h2 sgn = some (.inl (0, 60, .inl (f))) := (o7 _ (ne_of_cells gs gr (by simp))).trans gs
  have g9 : h2 n = some (.inr (1, [.int (x.cl), .int (x.cc), .long (x.cd), .int (x.cap), .int (x.cut), .int (x.cutn), .int (x.year), .int (x.vol), .int (x.voll), .long (x.mark), .int (x.markn), .ref ln, .int (x.lc)])) := (o7 _ (ne_of_cells gn gr (by simp))).trans gn
  have g10 : h2 ln = some (.inl (0, 6, .inl (fl))) := (o7 _ (ne_of_cells gl gr (by simp))).trans gl
  have g6 : h2 r = some (.inr (2, [.int (lt), .ref sgn, .int (nI c), .int (nI ((sNumber (Sg c f) (p) (4) (4)).2))])) := g6
  refine qp_if_ne 16 dX1_readYear_11 (by decide) (fun c_11 => ?_) (fun c_11 => ?_)
  · rw [bI_n0] at c_11
    refine qp_aload_n dX1_readYear_16 rfl ?_
    refine qp_aload_n dX1_readYear_17 rfl ?_
    refine qp_iload_n dX1_readYear_18 rfl ?_
    refine qp_aload_n dX1_readYear_19 rfl ?_
    refine qp_getf dX1_readYear_20 fX1_23 g6 rfl ?_
    refine qp_iconst (v := 4) dX1_readYear_23 (by decide) ?_
    refine qv_Jp dX1_readYear_24 mX1_57 (c_filledUp G (p) ((sNumber (Sg c f) (p) (4) (4)).2) (4) (by omega) (by omega) (by omega) hc g6 g8) g6 rfl rfl rfl rfl rfl rfl rfl ?_
    refine qp_l2i dX1_readYear_27 ?_
    refine qk_put dX1_readYear_28 fX1_117 g9 nn rfl rfl rfl rfl rfl (fun h14 g15 o16 => ?_)
    have g17 : h14 sgn = some (.inl (0, 60, .inl (f))) := (o16 _ (ne_of_cells g8 g9 (by simp))).trans g8
    have g18 : h14 ln = some (.inl (0, 6, .inl (fl))) := (o16 _ (ne_of_cells g10 g9 (by simp))).trans g10
    have g19 : h14 r = some (.inr (2, [.int (lt), .ref sgn, .int (nI c), .int (nI ((sNumber (Sg c f) (p) (4) (4)).2))])) := (o16 _ (ne_of_cells g6 g9 (by simp))).trans g6
    have g15 : h14 n = some (.inr (1, [.int (x.cl), .int (x.cc), .long (x.cd), .int (x.cap), .int (x.cut), .int (x.cutn), .int (Int64.toInt32 (sFill (Sg c f) (p) ((sNumber (Sg c f) (p) (4) (4)).2) (4))), .int (x.vol), .int (x.voll), .long (x.mark), .int (x.markn), .ref ln, .int (x.lc)])) := g15
    refine qp_aload_n dX1_readYear_31 rfl ?_
    refine qp_aload_n dX1_readYear_32 rfl ?_
    refine qp_getf dX1_readYear_33 fX1_23 g19 rfl ?_
    refine qp_iload_n dX1_readYear_36 rfl ?_
    refine qp_isub dX1_readYear_37 ?_
    refine QP.topI (y := nI ((sNumber (Sg c f) (p) (4) (4)).2 - p)) (pk_sub (by omega)) ?_
    refine qv_V dX1_readYear_38 mX1_69 (c_addLine G (x := (x.cl, x.cc, x.cd, x.cap, x.cut, x.cutn, Int64.toInt32 (sFill (Sg c f) (p) ((sNumber (Sg c f) (p) (4) (4)).2) (4)), x.vol, x.voll, x.mark, x.markn, x.lc)) (k := k) (nI ((sNumber (Sg c f) (p) (4) (4)).2 - p)) nn nl hk (by omega) g15 g18) g15 rfl rfl rfl rfl rfl rfl rfl (fun h21 p22 => ?_)
    obtain ⟨g23, g24, o25⟩ := p22
    have g26 : h21 sgn = some (.inl (0, 60, .inl (f))) := (o25 _ (ne_of_cells g17 g15 (by simp)) (ne_of_cells g17 g18 (by simp))).trans g17
    have g27 : h21 r = some (.inr (2, [.int (lt), .ref sgn, .int (nI c), .int (nI ((sNumber (Sg c f) (p) (4) (4)).2))])) := (o25 _ (ne_of_cells g19 g15 (by simp)) (ne_of_cells g19 g18 (by simp))).trans g19
    have g23 : h21 n = some (.inr (1, [.int (x.cl), .int (x.cc), .long (x.cd), .int (x.cap), .int (x.cut), .int (x.cutn), .int (Int64.toInt32 (sFill (Sg c f) (p) ((sNumber (Sg c f) (p) (4) (4)).2) (4))), .int (x.vol), .int (x.voll), .long (x.mark), .int (x.markn), .ref ln, .int (nI (k + 1))])) := g23
    have g24 : h21 ln = some (.inl (0, 6, .inl (upd (fl) (k) (nI ((sNumber (Sg c f) (p) (4) (4)).2 - p))))) := g24
    refine qp_iconst (v := 1) dX1_readYear_41 (by decide) ?_
    exact qr_z dX1_readYear_42 rfl nar_1 rfl rfl ⟨by simp only [sYear]; rw [if_neg (by rw [c_11]; decide)]; rfl, by simp only [sYear]; rw [if_neg (by rw [c_11]; decide)]; exact ⟨g27, g23, g24, fun b hb1 hb2 hb3 => (((o25 b hb2 hb3).trans (o16 b hb2)).trans (o7 b hb1))⟩⟩
  · rw [bI_0] at c_11
    refine qp_iconst (v := 0) dX1_readYear_14 (by decide) ?_
    exact qr_z dX1_readYear_15 rfl nar_0 rfl rfl ⟨by simp only [sYear]; rw [if_pos c_11]; rfl, by simp only [sYear]; rw [if_pos c_11]; exact ⟨g6, fun b hb1 hb2 hb3 => (o7 b hb1)⟩⟩
def sVolume (S : Nat → Int32) (p k : Nat) (x : CNv) (fl : Nat → Int32) : ROut := if (sNumber S (p + 2) 1 4).1 = false then .inl (sNumber S (p + 2) 1 4).2 else
  if isSml (S (sNumber S (p + 2) 1 4).2) = true then .inr ((sNumber S (p + 2) 1 4).2 + 1, (x.cl, x.cc, x.cd, x.cap, x.cut, x.cutn, x.year, (sFill S (p + 2) (sNumber S (p + 2) 1 4).2 ((sNumber S (p + 2) 1 4).2 - (p + 2))).toInt32, S (sNumber S (p + 2) 1 4).2, x.mark, x.markn, nI (k + 1)), upd fl k (nI ((sNumber S (p + 2) 1 4).2 + 1 - p)))
  else .inr ((sNumber S (p + 2) 1 4).2, (x.cl, x.cc, x.cd, x.cap, x.cut, x.cutn, x.year, (sFill S (p + 2) (sNumber S (p + 2) 1 4).2 ((sNumber S (p + 2) 1 4).2 - (p + 2))).toInt32, x.voll, x.mark, x.markn, nI (k + 1)), upd fl k (nI ((sNumber S (p + 2) 1 4).2 - p)))
set_option maxHeartbeats 4000000 in
set_option maxRecDepth 100000 in
theorem c_readVolume (G : qG) {h : qH} {lt : Int32} {r sgn c n ln p k : Nat} {f : Nat → Int32} {x : CNv} {fl : Nat → Int32} (hin : RdIn G h lt r sgn c n ln p k f x fl) : qMet G M_X1_readVolume [.ref r, .ref n] h (qI (fun v h1 => v = bI (oOk (sVolume (Sg c f) p k x fl)) ∧ RdOut h h1 lt r sgn c n ln (sVolume (Sg c f) p k x fl))) := by
  obtain ⟨nr, nn, nl, hc, hp, hk, hk6, gr, gs, gn, gl⟩ := hin
  refine qMet.of (by decide) (Nat.le_of_ble_eq_true rfl) rfl ?_
  refine QP.locsE (L1 := [some (.ref r), some (.ref n), none, none]) rfl ?_
  refine qp_aload_n dX1_readVolume_0 rfl ?_
  refine qp_getf dX1_readVolume_1 fX1_23 gr rfl ?_
  refine qp_istore_n dX1_readVolume_4 (by decide) ?_
  refine QP.locsE (L1 := [some (.ref r), some (.ref n), some (.int (nI p)), none]) rfl ?_
  refine qp_iload_n dX1_readVolume_5 rfl ?_
  refine qp_iconst (v := 2) dX1_readVolume_6 (by decide) ?_
  refine qp_iadd dX1_readVolume_7 ?_
  refine QP.topI (y := nI (p + 2)) (nI_add p 2) ?_
  refine qp_istore_n dX1_readVolume_8 (by decide) ?_
  refine QP.locsE (L1 := [some (.ref r), some (.ref n), some (.int (nI p)), some (.int (nI (p + 2)))]) rfl ?_
  refine qp_aload_n dX1_readVolume_9 rfl ?_
  refine qp_iload_n dX1_readVolume_10 rfl ?_
  refine qk_put dX1_readVolume_11 fX1_23 gr nr rfl rfl rfl rfl rfl (fun h1 g2 o3 => ?_)
  have g4 : h1 sgn = some (.inl (0, 60, .inl (f))) := (o3 _ (ne_of_cells gs gr (by simp))).trans gs
  have g5 : h1 n = some (.inr (1, [.int (x.cl), .int (x.cc), .long (x.cd), .int (x.cap), .int (x.cut), .int (x.cutn), .int (x.year), .int (x.vol), .int (x.voll), .long (x.mark), .int (x.markn), .ref ln, .int (x.lc)])) := (o3 _ (ne_of_cells gn gr (by simp))).trans gn
  have g6 : h1 ln = some (.inl (0, 6, .inl (fl))) := (o3 _ (ne_of_cells gl gr (by simp))).trans gl
  have g2 : h1 r = some (.inr (2, [.int (lt), .ref sgn, .int (nI c), .int (nI (p + 2))])) := g2
  refine qp_aload_n dX1_readVolume_14 rfl ?_
  refine qp_iconst (v := 1) dX1_readVolume_15 (by decide) ?_
  refine qp_iconst (v := 4) dX1_readVolume_16 (by decide) ?_
  refine qv_Iq dX1_readVolume_17 mX1_46 (c_readNumber G (1) (4) (by omega) (by omega) nr hc (by omega) g2 g4) g2 rfl rfl rfl rfl rfl rfl rfl (fun h8 p9 => ?_)
  have b10 := sNumber_le (Sg c f) (p + 2) (1) (4)
  have b11 := sNumber_ge (Sg c f) (p + 2) (1) (4)
  obtain ⟨g12, o13⟩ := p9
  have g14 : h8 sgn = some (.inl (0, 60, .inl (f))) := (o13 _ (ne_of_cells g4 g2 (by simp))).trans g4
  have g15 : h8 n = some (.inr (1, [.int (x.cl), .int (x.cc), .long (x.cd), .int (x.cap), .int (x.cut), .int (x.cutn), .int (x.year), .int (x.vol), .int (x.voll), .long (x.mark), .int (x.markn), .ref ln, .int (x.lc)])) := (o13 _ (ne_of_cells g5 g2 (by simp))).trans g5
  have g16 : h8 ln = some (.inl (0, 6, .inl (fl))) := (o13 _ (ne_of_cells g6 g2 (by simp))).trans g6
  have g12 : h8 r = some (.inr (2, [.int (lt), .ref sgn, .int (nI c), .int (nI ((sNumber (Sg c f) (p + 2) (1) (4)).2))])) := g12
  refine qp_if_ne 25 dX1_readVolume_20 (by decide) (fun c_20 => ?_) (fun c_20 => ?_)
  · rw [bI_n0] at c_20
    refine qp_aload_n dX1_readVolume_25 rfl ?_
    refine qp_aload_n dX1_readVolume_26 rfl ?_
    refine qp_iload_n dX1_readVolume_27 rfl ?_
    refine qp_aload_n dX1_readVolume_28 rfl ?_
    refine qp_getf dX1_readVolume_29 fX1_23 g12 rfl ?_
    refine qp_aload_n dX1_readVolume_32 rfl ?_
    refine qp_getf dX1_readVolume_33 fX1_23 g12 rfl ?_
    refine qp_iload_n dX1_readVolume_36 rfl ?_
    refine qp_isub dX1_readVolume_37 ?_
    refine QP.topI (y := nI ((sNumber (Sg c f) (p + 2) (1) (4)).2 - (p + 2))) (pk_sub (by omega)) ?_
    refine qv_Jp dX1_readVolume_38 mX1_57 (c_filledUp G (p + 2) ((sNumber (Sg c f) (p + 2) (1) (4)).2) ((sNumber (Sg c f) (p + 2) (1) (4)).2 - (p + 2)) (by omega) (by omega) (by omega) hc g12 g14) g12 rfl rfl rfl rfl rfl rfl rfl ?_
    refine qp_l2i dX1_readVolume_41 ?_
    refine qk_put dX1_readVolume_42 fX1_120 g15 nn rfl rfl rfl rfl rfl (fun h20 g21 o22 => ?_)
    have g23 : h20 sgn = some (.inl (0, 60, .inl (f))) := (o22 _ (ne_of_cells g14 g15 (by simp))).trans g14
    have g24 : h20 ln = some (.inl (0, 6, .inl (fl))) := (o22 _ (ne_of_cells g16 g15 (by simp))).trans g16
    have g25 : h20 r = some (.inr (2, [.int (lt), .ref sgn, .int (nI c), .int (nI ((sNumber (Sg c f) (p + 2) (1) (4)).2))])) := (o22 _ (ne_of_cells g12 g15 (by simp))).trans g12
    have g21 : h20 n = some (.inr (1, [.int (x.cl), .int (x.cc), .long (x.cd), .int (x.cap), .int (x.cut), .int (x.cutn), .int (x.year), .int (Int64.toInt32 (sFill (Sg c f) (p + 2) ((sNumber (Sg c f) (p + 2) (1) (4)).2) ((sNumber (Sg c f) (p + 2) (1) (4)).2 - (p + 2)))), .int (x.voll), .long (x.mark), .int (x.markn), .ref ln, .int (x.lc)])) := g21
    refine qp_aload_n dX1_readVolume_45 rfl ?_
    refine qp_aload_n dX1_readVolume_46 rfl ?_
    refine qp_getf dX1_readVolume_47 fX1_23 g25 rfl ?_
    refine qv_Ip dX1_readVolume_50 mX1_73 (c_signAt G ((sNumber (Sg c f) (p + 2) (1) (4)).2) (by omega) hc g25 g23) g25 rfl rfl rfl rfl rfl rfl rfl ?_
    refine qs_Ip dX1_readVolume_53 mX1_114 (c_isSmall G (Sg c f ((sNumber (Sg c f) (p + 2) (1) (4)).2))) rfl rfl rfl rfl rfl rfl ?_
    refine qp_if_eq 81 dX1_readVolume_56 (by decide) (fun c_56 => ?_) (fun c_56 => ?_)
    · rw [bI_0] at c_56
      refine qp_aload_n dX1_readVolume_81 rfl ?_
      refine qp_aload_n dX1_readVolume_82 rfl ?_
      refine qp_getf dX1_readVolume_83 fX1_23 g25 rfl ?_
      refine qp_iload_n dX1_readVolume_86 rfl ?_
      refine qp_isub dX1_readVolume_87 ?_
      refine QP.topI (y := nI ((sNumber (Sg c f) (p + 2) (1) (4)).2 - p)) (pk_sub (by omega)) ?_
      refine qv_V dX1_readVolume_88 mX1_69 (c_addLine G (x := (x.cl, x.cc, x.cd, x.cap, x.cut, x.cutn, x.year, Int64.toInt32 (sFill (Sg c f) (p + 2) ((sNumber (Sg c f) (p + 2) (1) (4)).2) ((sNumber (Sg c f) (p + 2) (1) (4)).2 - (p + 2))), x.voll, x.mark, x.markn, x.lc)) (k := k) (nI ((sNumber (Sg c f) (p + 2) (1) (4)).2 - p)) nn nl hk (by omega) g21 g24) g21 rfl rfl rfl rfl rfl rfl rfl (fun h33 p34 => ?_)
      obtain ⟨g35, g36, o37⟩ := p34
      have g38 : h33 sgn = some (.inl (0, 60, .inl (f))) := (o37 _ (ne_of_cells g23 g21 (by simp)) (ne_of_cells g23 g24 (by simp))).trans g23
      have g39 : h33 r = some (.inr (2, [.int (lt), .ref sgn, .int (nI c), .int (nI ((sNumber (Sg c f) (p + 2) (1) (4)).2))])) := (o37 _ (ne_of_cells g25 g21 (by simp)) (ne_of_cells g25 g24 (by simp))).trans g25
      have g35 : h33 n = some (.inr (1, [.int (x.cl), .int (x.cc), .long (x.cd), .int (x.cap), .int (x.cut), .int (x.cutn), .int (x.year), .int (Int64.toInt32 (sFill (Sg c f) (p + 2) ((sNumber (Sg c f) (p + 2) (1) (4)).2) ((sNumber (Sg c f) (p + 2) (1) (4)).2 - (p + 2)))), .int (x.voll), .long (x.mark), .int (x.markn), .ref ln, .int (nI (k + 1))])) := g35
      have g36 : h33 ln = some (.inl (0, 6, .inl (upd (fl) (k) (nI ((sNumber (Sg c f) (p + 2) (1) (4)).2 - p))))) := g36
      refine qp_iconst (v := 1) dX1_readVolume_91 (by decide) ?_
      exact qr_z dX1_readVolume_92 rfl nar_1 rfl rfl ⟨by simp only [sVolume]; rw [if_neg (by rw [c_20]; decide), if_neg (by rw [c_56]; decide)]; rfl, by simp only [sVolume]; rw [if_neg (by rw [c_20]; decide), if_neg (by rw [c_56]; decide)]; exact ⟨g39, g35, g36, fun b hb1 hb2 hb3 => ((((o37 b hb2 hb3).trans (o22 b hb2)).trans (o13 b hb1)).trans (o3 b hb1))⟩⟩
    · rw [bI_n0] at c_56
      refine qp_aload_n dX1_readVolume_59 rfl ?_
      refine qp_aload_n dX1_readVolume_60 rfl ?_
      refine qp_aload_n dX1_readVolume_61 rfl ?_
      refine qp_getf dX1_readVolume_62 fX1_23 g25 rfl ?_
      refine qv_Ip dX1_readVolume_65 mX1_73 (c_signAt G ((sNumber (Sg c f) (p + 2) (1) (4)).2) (by omega) hc g25 g23) g25 rfl rfl rfl rfl rfl rfl rfl ?_
      refine qk_put dX1_readVolume_68 fX1_123 g21 nn rfl rfl rfl rfl rfl (fun h43 g44 o45 => ?_)
      have g46 : h43 sgn = some (.inl (0, 60, .inl (f))) := (o45 _ (ne_of_cells g23 g21 (by simp))).trans g23
      have g47 : h43 ln = some (.inl (0, 6, .inl (fl))) := (o45 _ (ne_of_cells g24 g21 (by simp))).trans g24
      have g48 : h43 r = some (.inr (2, [.int (lt), .ref sgn, .int (nI c), .int (nI ((sNumber (Sg c f) (p + 2) (1) (4)).2))])) := (o45 _ (ne_of_cells g25 g21 (by simp))).trans g25
      have g44 : h43 n = some (.inr (1, [.int (x.cl), .int (x.cc), .long (x.cd), .int (x.cap), .int (x.cut), .int (x.cutn), .int (x.year), .int (Int64.toInt32 (sFill (Sg c f) (p + 2) ((sNumber (Sg c f) (p + 2) (1) (4)).2) ((sNumber (Sg c f) (p + 2) (1) (4)).2 - (p + 2)))), .int (Sg c f ((sNumber (Sg c f) (p + 2) (1) (4)).2)), .long (x.mark), .int (x.markn), .ref ln, .int (x.lc)])) := g44
      refine qp_aload_n dX1_readVolume_71 rfl ?_
      refine qp_dup dX1_readVolume_72 rfl ?_
      refine qp_getf dX1_readVolume_73 fX1_23 g48 rfl ?_
      refine qp_iconst (v := 1) dX1_readVolume_76 (by decide) ?_
      refine qp_iadd dX1_readVolume_77 ?_
      refine QP.topI (y := nI ((sNumber (Sg c f) (p + 2) (1) (4)).2 + 1)) (nI_1 _) ?_
      refine qk_put dX1_readVolume_78 fX1_23 g48 nr rfl rfl rfl rfl rfl (fun h49 g50 o51 => ?_)
      have g52 : h49 sgn = some (.inl (0, 60, .inl (f))) := (o51 _ (ne_of_cells g46 g48 (by simp))).trans g46
      have g53 : h49 ln = some (.inl (0, 6, .inl (fl))) := (o51 _ (ne_of_cells g47 g48 (by simp))).trans g47
      have g54 : h49 n = some (.inr (1, [.int (x.cl), .int (x.cc), .long (x.cd), .int (x.cap), .int (x.cut), .int (x.cutn), .int (x.year), .int (Int64.toInt32 (sFill (Sg c f) (p + 2) ((sNumber (Sg c f) (p + 2) (1) (4)).2) ((sNumber (Sg c f) (p + 2) (1) (4)).2 - (p + 2)))), .int (Sg c f ((sNumber (Sg c f) (p + 2) (1) (4)).2)), .long (x.mark), .int (x.markn), .ref ln, .int (x.lc)])) := (o51 _ (ne_of_cells g44 g48 (by simp))).trans g44
      have g50 : h49 r = some (.inr (2, [.int (lt), .ref sgn, .int (nI c), .int (nI ((sNumber (Sg c f) (p + 2) (1) (4)).2 + 1))])) := g50
      refine qp_aload_n dX1_readVolume_81 rfl ?_
      refine qp_aload_n dX1_readVolume_82 rfl ?_
      refine qp_getf dX1_readVolume_83 fX1_23 g50 rfl ?_
      refine qp_iload_n dX1_readVolume_86 rfl ?_
      refine qp_isub dX1_readVolume_87 ?_
      refine QP.topI (y := nI ((sNumber (Sg c f) (p + 2) (1) (4)).2 + 1 - p)) (pk_sub (by omega)) ?_
      refine qv_V dX1_readVolume_88 mX1_69 (c_addLine G (x := (x.cl, x.cc, x.cd, x.cap, x.cut, x.cutn, x.year, Int64.toInt32 (sFill (Sg c f) (p + 2) ((sNumber (Sg c f) (p + 2) (1) (4)).2) ((sNumber (Sg c f) (p + 2) (1) (4)).2 - (p + 2))), Sg c f ((sNumber (Sg c f) (p + 2) (1) (4)).2), x.mark, x.markn, x.lc)) (k := k) (nI ((sNumber (Sg c f) (p + 2) (1) (4)).2 + 1 - p)) nn nl hk (by omega) g54 g53) g54 rfl rfl rfl rfl rfl rfl rfl (fun h56 p57 => ?_)
      obtain ⟨g58, g59, o60⟩ := p57
      have g61 : h56 sgn = some (.inl (0, 60, .inl (f))) := (o60 _ (ne_of_cells g52 g54 (by simp)) (ne_of_cells g52 g53 (by simp))).trans g52
      have g62 : h56 r = some (.inr (2, [.int (lt), .ref sgn, .int (nI c), .int (nI ((sNumber (Sg c f) (p + 2) (1) (4)).2 + 1))])) := (o60 _ (ne_of_cells g50 g54 (by simp)) (ne_of_cells g50 g53 (by simp))).trans g50
      have g58 : h56 n = some (.inr (1, [.int (x.cl), .int (x.cc), .long (x.cd), .int (x.cap), .int (x.cut), .int (x.cutn), .int (x.year), .int (Int64.toInt32 (sFill (Sg c f) (p + 2) ((sNumber (Sg c f) (p + 2) (1) (4)).2) ((sNumber (Sg c f) (p + 2) (1) (4)).2 - (p + 2)))), .int (Sg c f ((sNumber (Sg c f) (p + 2) (1) (4)).2)), .long (x.mark), .int (x.markn), .ref ln, .int (nI (k + 1))])) := g58
      have g59 : h56 ln = some (.inl (0, 6, .inl (upd (fl) (k) (nI ((sNumber (Sg c f) (p + 2) (1) (4)).2 + 1 - p))))) := g59
      refine qp_iconst (v := 1) dX1_readVolume_91 (by decide) ?_
      exact qr_z dX1_readVolume_92 rfl nar_1 rfl rfl ⟨by simp only [sVolume]; rw [if_neg (by rw [c_20]; decide), if_pos c_56]; rfl, by simp only [sVolume]; rw [if_neg (by rw [c_20]; decide), if_pos c_56]; exact ⟨g62, g58, g59, fun b hb1 hb2 hb3 => ((((((o60 b hb2 hb3).trans (o51 b hb1)).trans (o45 b hb2)).trans (o22 b hb2)).trans (o13 b hb1)).trans (o3 b hb1))⟩⟩
  · rw [bI_0] at c_20
    refine qp_iconst (v := 0) dX1_readVolume_23 (by decide) ?_
    exact qr_z dX1_readVolume_24 rfl nar_0 rfl rfl ⟨by simp only [sVolume]; rw [if_pos c_20]; rfl, by simp only [sVolume]; rw [if_pos c_20]; exact ⟨g12, fun b hb1 hb2 hb3 => ((o13 b hb1).trans (o3 b hb1))⟩⟩
/-- the mark's letters after j turns: the packed letters, the place -/
def mkS (S : Nat → Int32) (p : Nat) : Nat → Int64 × Nat
  | 0 => (0, p)
  | j + 1 => if (mkS S p j).2 = p + j ∧ isSml (S (mkS S p j).2) = true then (((mkS S p j).1 <<< (Int32.toInt64 8 &&& 63)) ||| (S (mkS S p j).2).toInt64, (mkS S p j).2 + 1) else ((mkS S p j).1 <<< (Int32.toInt64 8 &&& 63), (mkS S p j).2)
theorem mkS_bd (S : Nat → Int32) (p : Nat) : ∀ j, p ≤ (mkS S p j).2 ∧ (mkS S p j).2 ≤ p + j
  | 0 => ⟨Nat.le_refl p, Nat.le_refl p⟩
  | j + 1 => by
    have := mkS_bd S p j
    simp only [mkS]
    split
    · exact ⟨by show p ≤ _ + 1; omega, by show _ + 1 ≤ _; omega⟩
    · exact ⟨by show p ≤ _; omega, by show _ ≤ _; omega⟩
def sMark (S : Nat → Int32) (p k : Nat) (x : CNv) (fl : Nat → Int32) : ROut := if (mkS S p 8).2 ≤ p then .inl (mkS S p 8).2 else .inr ((mkS S p 8).2, (x.cl, x.cc, x.cd, x.cap, x.cut, x.cutn, x.year, x.vol, x.voll, (mkS S p 8).1, nI ((mkS S p 8).2 - p), nI (k + 1)), upd fl k (nI ((mkS S p 8).2 - p)))
theorem QP.topL3 {G : qG} {M : qM} {E : qX} {Z : qZ} {pc : Nat} {a b c0 : Option Value} {u v : Int64} {t : List (Option Value)} {st : List Value} {h : qH} {cn sn : Nat} (e : u = v) (k : QP G M E Z pc (a :: b :: c0 :: some (.long v) :: t) st h cn sn) : QP G M E Z pc (a :: b :: c0 :: some (.long u) :: t) st h cn sn := by subst e; exact k
theorem QP.topL2 {G : qG} {M : qM} {E : qX} {Z : qZ} {pc : Nat} {a b : Option Value} {u v : Int32} {t : List (Option Value)} {st : List Value} {h : qH} {cn sn : Nat} (e : u = v) (k : QP G M E Z pc (a :: b :: some (.int v) :: t) st h cn sn) : QP G M E Z pc (a :: b :: some (.int u) :: t) st h cn sn := by subst e; exact k
set_option maxHeartbeats 4000000 in
set_option maxRecDepth 100000 in
theorem l_readMark {G : qG} {h0 : qH} {lt : Int32} {r sgn c n ln p k : Nat} {f : Nat → Int32} {x : CNv} {fl : Nat → Int32} (nr : G.2.1 ≤ r) (nn : G.2.1 ≤ n) (nl : G.2.1 ≤ ln) (hc : c ≤ 60) (hp : p ≤ 100) (hk : x.lc = nI k) (hk6 : k < 6) : ∀ (m j : Nat) (h : qH), 8 < j + m → j ≤ 8 → h r = some (rdCell lt sgn (nI c) (nI (mkS (Sg c f) p j).2)) → h sgn = some (sgCell f) → h n = some (cnCell x ln) → h ln = some (lnCell fl) → (∀ b : Nat, b ≠ r → b ≠ n → b ≠ ln → h b = h0 b) → QP G M_X1_readMark qTr (qMZ G M_X1_readMark (qI (fun v h1 => v = bI (oOk (sMark (Sg c f) p k x fl)) ∧ RdOut h0 h1 lt r sgn c n ln (sMark (Sg c f) p k x fl)))) 10 [some (.ref r), some (.ref n), some (.int (nI p)), some (.long (mkS (Sg c f) p j).1), none, some (.int (nI j))] [] h 0 0 := by
  intro m
  induction m with
  | zero =>
    intro j h h1 h2
    omega
  | succ m ih =>
    intro j h h1 h2 gr gs gn gl hfr
    refine qp_iload dX1_readMark_10 rfl ?_
    refine qp_bipush (v := 8) dX1_readMark_12 (by decide) ?_
    refine qp_icmp_ge 75 dX1_readMark_14 (by decide) (fun c_14 => ?_) (fun c_14 => ?_)
    · have hj8 : j = 8 := by have := (nI_leI (a := 8) (by decide) (by omega)).mp c_14; omega
      subst hj8
      have bd := mkS_bd (Sg c f) p 8
      refine qp_aload_n dX1_readMark_75 rfl ?_
      refine qp_lload_n dX1_readMark_76 rfl ?_
      refine qk_put dX1_readMark_77 fX1_126 gn nn rfl rfl rfl rfl rfl (fun h1 g2 o3 => ?_)
      have g4 : h1 r = some (.inr (2, [.int (lt), .ref sgn, .int (nI c), .int (nI ((mkS (Sg c f) p 8).2))])) := (o3 _ (ne_of_cells gr gn (by simp))).trans gr
      have g5 : h1 sgn = some (.inl (0, 60, .inl (f))) := (o3 _ (ne_of_cells gs gn (by simp))).trans gs
      have g6 : h1 ln = some (.inl (0, 6, .inl (fl))) := (o3 _ (ne_of_cells gl gn (by simp))).trans gl
      have g2 : h1 n = some (.inr (1, [.int (x.cl), .int (x.cc), .long (x.cd), .int (x.cap), .int (x.cut), .int (x.cutn), .int (x.year), .int (x.vol), .int (x.voll), .long ((mkS (Sg c f) p 8).1), .int (x.markn), .ref ln, .int (x.lc)])) := g2
      refine qp_aload_n dX1_readMark_80 rfl ?_
      refine qp_aload_n dX1_readMark_81 rfl ?_
      refine qp_getf dX1_readMark_82 fX1_23 g4 rfl ?_
      refine qp_iload_n dX1_readMark_85 rfl ?_
      refine qp_isub dX1_readMark_86 ?_
      refine QP.topI (y := nI ((mkS (Sg c f) p 8).2 - p)) (pk_sub (by omega)) ?_
      refine qk_put dX1_readMark_87 fX1_129 g2 nn rfl rfl rfl rfl rfl (fun h7 g8 o9 => ?_)
      have g10 : h7 r = some (.inr (2, [.int (lt), .ref sgn, .int (nI c), .int (nI ((mkS (Sg c f) p 8).2))])) := (o9 _ (ne_of_cells g4 g2 (by simp))).trans g4
      have g11 : h7 sgn = some (.inl (0, 60, .inl (f))) := (o9 _ (ne_of_cells g5 g2 (by simp))).trans g5
      have g12 : h7 ln = some (.inl (0, 6, .inl (fl))) := (o9 _ (ne_of_cells g6 g2 (by simp))).trans g6
      have g8 : h7 n = some (.inr (1, [.int (x.cl), .int (x.cc), .long (x.cd), .int (x.cap), .int (x.cut), .int (x.cutn), .int (x.year), .int (x.vol), .int (x.voll), .long ((mkS (Sg c f) p 8).1), .int (nI ((mkS (Sg c f) p 8).2 - p)), .ref ln, .int (x.lc)])) := g8
      refine qp_aload_n dX1_readMark_90 rfl ?_
      refine qp_aload_n dX1_readMark_91 rfl ?_
      refine qp_getf dX1_readMark_92 fX1_23 g10 rfl ?_
      refine qp_iload_n dX1_readMark_95 rfl ?_
      refine qp_isub dX1_readMark_96 ?_
      refine QP.topI (y := nI ((mkS (Sg c f) p 8).2 - p)) (pk_sub (by omega)) ?_
      refine qv_V dX1_readMark_97 mX1_69 (c_addLine G (x := (x.cl, x.cc, x.cd, x.cap, x.cut, x.cutn, x.year, x.vol, x.voll, (mkS (Sg c f) p 8).1, nI ((mkS (Sg c f) p 8).2 - p), x.lc)) (k := k) (nI ((mkS (Sg c f) p 8).2 - p)) nn nl hk (by omega) g8 g12) g8 rfl rfl rfl rfl rfl rfl rfl (fun h14 p15 => ?_)
      obtain ⟨g16, g17, o18⟩ := p15
      have g19 : h14 r = some (.inr (2, [.int (lt), .ref sgn, .int (nI c), .int (nI ((mkS (Sg c f) p 8).2))])) := (o18 _ (ne_of_cells g10 g8 (by simp)) (ne_of_cells g10 g12 (by simp))).trans g10
      have g20 : h14 sgn = some (.inl (0, 60, .inl (f))) := (o18 _ (ne_of_cells g11 g8 (by simp)) (ne_of_cells g11 g12 (by simp))).trans g11
      have g16 : h14 n = some (.inr (1, [.int (x.cl), .int (x.cc), .long (x.cd), .int (x.cap), .int (x.cut), .int (x.cutn), .int (x.year), .int (x.vol), .int (x.voll), .long ((mkS (Sg c f) p 8).1), .int (nI ((mkS (Sg c f) p 8).2 - p)), .ref ln, .int (nI (k + 1))])) := g16
      have g17 : h14 ln = some (.inl (0, 6, .inl (upd (fl) (k) (nI ((mkS (Sg c f) p 8).2 - p))))) := g17
      refine qp_aload_n dX1_readMark_100 rfl ?_
      refine qp_getf dX1_readMark_101 fX1_23 g19 rfl ?_
      refine qp_iload_n dX1_readMark_104 rfl ?_
      refine qp_icmp_le 112 dX1_readMark_105 (by decide) (fun c_105 => ?_) (fun c_105 => ?_)
      · rw [nI_leI (by omega) (by omega)] at c_105
        refine qp_iconst (v := 0) dX1_readMark_112 (by decide) ?_
        exact qr_z dX1_readMark_113 rfl nar_0 rfl rfl ⟨by simp only [sMark]; rw [if_pos c_105]; rfl, by simp only [sMark]; rw [if_pos c_105]; exact ⟨g19, fun b hb1 hb2 hb3 => (((o18 b hb2 hb3).trans (o9 b hb2)).trans (o3 b hb2)).trans (hfr b hb1 hb2 hb3)⟩⟩
      · rw [nI_leI (by omega) (by omega)] at c_105
        refine qp_iconst (v := 1) dX1_readMark_108 (by decide) ?_
        refine qp_goto 113 dX1_readMark_109 (by decide) ?_
        exact qr_z dX1_readMark_113 rfl nar_1 rfl rfl ⟨by simp only [sMark]; rw [if_neg c_105]; rfl, by simp only [sMark]; rw [if_neg c_105]; exact ⟨g19, g16, g17, fun b hb1 hb2 hb3 => (((o18 b hb2 hb3).trans (o9 b hb2)).trans (o3 b hb2)).trans (hfr b hb1 hb2 hb3)⟩⟩
    · have hj8 : j < 8 := Nat.not_le.mp fun q => c_14 ((nI_leI (a := 8) (by decide) (by omega)).mpr q)
      have bd := mkS_bd (Sg c f) p j
      refine qp_lload_n dX1_readMark_17 rfl ?_
      refine qp_bipush (v := 8) dX1_readMark_18 (by decide) ?_
      refine qp_lshl dX1_readMark_20 ?_
      refine qp_lstore_n dX1_readMark_21 (by decide) ?_
      refine QP.locsE (L1 := [some (.ref r), some (.ref n), some (.int (nI p)), some (.long (((mkS (Sg c f) p j).1) <<< (Int32.toInt64 (8) &&& 63))), none, some (.int (nI j))]) rfl ?_
      refine qp_aload_n dX1_readMark_22 rfl ?_
      refine qp_getf dX1_readMark_23 fX1_23 gr rfl ?_
      refine qp_iload_n dX1_readMark_26 rfl ?_
      refine qp_iload dX1_readMark_27 rfl ?_
      refine qp_iadd dX1_readMark_29 ?_
      refine QP.topI (y := nI (p + j)) (nI_add p j) ?_
      refine qp_icmp_ne 69 dX1_readMark_30 (by decide) (fun c_30 => ?_) (fun c_30 => ?_)
      · refine qp_iinc (v := nI (j + 1)) dX1_readMark_69 rfl (by decide) (nI_1 j) ?_
        refine QP.locsE (L1 := [some (.ref r), some (.ref n), some (.int (nI p)), some (.long (((mkS (Sg c f) p j).1) <<< (Int32.toInt64 (8) &&& 63))), none, some (.int (nI (j + 1)))]) rfl ?_
        refine qp_goto 10 dX1_readMark_72 (by decide) ?_
        have e9 : mkS (Sg c f) p (j + 1) = ((((mkS (Sg c f) p j).1) <<< (Int32.toInt64 (8) &&& 63), (mkS (Sg c f) p j).2) : Int64 × Nat) := by simp only [mkS]; rw [if_neg (fun q => c_30 (by rw [q.1]))]
        have e10 : h r = some (rdCell lt sgn (nI c) (nI (mkS (Sg c f) p (j + 1)).2)) := by rw [e9]; exact gr
        refine QP.topL3 (v := (mkS (Sg c f) p (j + 1)).1) (by rw [e9]) ?_
        exact ih (j + 1) h (by omega) (by omega) e10 gs gn gl hfr
      · refine qp_aload_n dX1_readMark_33 rfl ?_
        refine qp_aload_n dX1_readMark_34 rfl ?_
        refine qp_getf dX1_readMark_35 fX1_23 gr rfl ?_
        refine qv_Ip dX1_readMark_38 mX1_73 (c_signAt G ((mkS (Sg c f) p j).2) (by omega) hc gr gs) gr rfl rfl rfl rfl rfl rfl rfl ?_
        refine qs_Ip dX1_readMark_41 mX1_114 (c_isSmall G (Sg c f ((mkS (Sg c f) p j).2))) rfl rfl rfl rfl rfl rfl ?_
        refine qp_if_eq 69 dX1_readMark_44 (by decide) (fun c_44 => ?_) (fun c_44 => ?_)
        · rw [bI_0] at c_44
          refine qp_iinc (v := nI (j + 1)) dX1_readMark_69 rfl (by decide) (nI_1 j) ?_
          refine QP.locsE (L1 := [some (.ref r), some (.ref n), some (.int (nI p)), some (.long (((mkS (Sg c f) p j).1) <<< (Int32.toInt64 (8) &&& 63))), none, some (.int (nI (j + 1)))]) rfl ?_
          refine qp_goto 10 dX1_readMark_72 (by decide) ?_
          have e9 : mkS (Sg c f) p (j + 1) = ((((mkS (Sg c f) p j).1) <<< (Int32.toInt64 (8) &&& 63), (mkS (Sg c f) p j).2) : Int64 × Nat) := by simp only [mkS]; rw [if_neg (fun q => by rw [q.2] at c_44; exact absurd c_44 (by decide))]
          have e10 : h r = some (rdCell lt sgn (nI c) (nI (mkS (Sg c f) p (j + 1)).2)) := by rw [e9]; exact gr
          refine QP.topL3 (v := (mkS (Sg c f) p (j + 1)).1) (by rw [e9]) ?_
          exact ih (j + 1) h (by omega) (by omega) e10 gs gn gl hfr
        · rw [bI_n0] at c_44
          refine qp_lload_n dX1_readMark_47 rfl ?_
          refine qp_aload_n dX1_readMark_48 rfl ?_
          refine qp_aload_n dX1_readMark_49 rfl ?_
          refine qp_getf dX1_readMark_50 fX1_23 gr rfl ?_
          refine qv_Ip dX1_readMark_53 mX1_73 (c_signAt G ((mkS (Sg c f) p j).2) (by omega) hc gr gs) gr rfl rfl rfl rfl rfl rfl rfl ?_
          refine qp_i2l dX1_readMark_56 ?_
          refine qp_lor dX1_readMark_57 ?_
          refine qp_lstore_n dX1_readMark_58 (by decide) ?_
          refine QP.locsE (L1 := [some (.ref r), some (.ref n), some (.int (nI p)), some (.long ((((mkS (Sg c f) p j).1) <<< (Int32.toInt64 (8) &&& 63)) ||| (Int32.toInt64 (Sg c f ((mkS (Sg c f) p j).2))))), none, some (.int (nI j))]) rfl ?_
          refine qp_aload_n dX1_readMark_59 rfl ?_
          refine qp_dup dX1_readMark_60 rfl ?_
          refine qp_getf dX1_readMark_61 fX1_23 gr rfl ?_
          refine qp_iconst (v := 1) dX1_readMark_64 (by decide) ?_
          refine qp_iadd dX1_readMark_65 ?_
          refine QP.topI (y := nI ((mkS (Sg c f) p j).2 + 1)) (nI_1 _) ?_
          refine qk_put dX1_readMark_66 fX1_23 gr nr rfl rfl rfl rfl rfl (fun h30 g31 o32 => ?_)
          have g33 : h30 sgn = some (.inl (0, 60, .inl (f))) := (o32 _ (ne_of_cells gs gr (by simp))).trans gs
          have g34 : h30 n = some (.inr (1, [.int (x.cl), .int (x.cc), .long (x.cd), .int (x.cap), .int (x.cut), .int (x.cutn), .int (x.year), .int (x.vol), .int (x.voll), .long (x.mark), .int (x.markn), .ref ln, .int (x.lc)])) := (o32 _ (ne_of_cells gn gr (by simp))).trans gn
          have g35 : h30 ln = some (.inl (0, 6, .inl (fl))) := (o32 _ (ne_of_cells gl gr (by simp))).trans gl
          have g31 : h30 r = some (.inr (2, [.int (lt), .ref sgn, .int (nI c), .int (nI ((mkS (Sg c f) p j).2 + 1))])) := g31
          refine qp_iinc (v := nI (j + 1)) dX1_readMark_69 rfl (by decide) (nI_1 j) ?_
          refine QP.locsE (L1 := [some (.ref r), some (.ref n), some (.int (nI p)), some (.long ((((mkS (Sg c f) p j).1) <<< (Int32.toInt64 (8) &&& 63)) ||| (Int32.toInt64 (Sg c f ((mkS (Sg c f) p j).2))))), none, some (.int (nI (j + 1)))]) rfl ?_
          refine qp_goto 10 dX1_readMark_72 (by decide) ?_
          have e9 : mkS (Sg c f) p (j + 1) = (((((mkS (Sg c f) p j).1) <<< (Int32.toInt64 (8) &&& 63)) ||| (Int32.toInt64 (Sg c f ((mkS (Sg c f) p j).2))), (mkS (Sg c f) p j).2 + 1) : Int64 × Nat) := by simp only [mkS]; rw [if_pos ⟨(nI_eq (by omega) (by omega)).mp c_30, c_44⟩]
          have e10 : h30 r = some (rdCell lt sgn (nI c) (nI (mkS (Sg c f) p (j + 1)).2)) := by rw [e9]; exact g31
          refine QP.topL3 (v := (mkS (Sg c f) p (j + 1)).1) (by rw [e9]) ?_
          exact ih (j + 1) h30 (by omega) (by omega) e10 g33 g34 g35 (fun b hb1 hb2 hb3 => (o32 b hb1).trans (hfr b hb1 hb2 hb3))
set_option maxHeartbeats 4000000 in
set_option maxRecDepth 100000 in
theorem c_readMark (G : qG) {h : qH} {lt : Int32} {r sgn c n ln p k : Nat} {f : Nat → Int32} {x : CNv} {fl : Nat → Int32} (hin : RdIn G h lt r sgn c n ln p k f x fl) : qMet G M_X1_readMark [.ref r, .ref n] h (qI (fun v h1 => v = bI (oOk (sMark (Sg c f) p k x fl)) ∧ RdOut h h1 lt r sgn c n ln (sMark (Sg c f) p k x fl))) := by
  obtain ⟨nr, nn, nl, hc, hp, hk, hk6, gr, gs, gn, gl⟩ := hin
  refine qMet.of (by decide) (Nat.le_of_ble_eq_true rfl) rfl ?_
  refine QP.locsE (L1 := [some (.ref r), some (.ref n), none, none, none, none]) rfl ?_
  refine qp_aload_n dX1_readMark_0 rfl ?_
  refine qp_getf dX1_readMark_1 fX1_23 gr rfl ?_
  refine qp_istore_n dX1_readMark_4 (by decide) ?_
  refine QP.locsE (L1 := [some (.ref r), some (.ref n), some (.int (nI p)), none, none, none]) rfl ?_
  refine qp_lconst (v := 0) dX1_readMark_5 (by decide) ?_
  refine qp_lstore_n dX1_readMark_6 (by decide) ?_
  refine QP.locsE (L1 := [some (.ref r), some (.ref n), some (.int (nI p)), some (.long (0)), none, none]) rfl ?_
  refine qp_iconst (v := 0) dX1_readMark_7 (by decide) ?_
  refine qp_istore dX1_readMark_8 (by decide) ?_
  refine QP.locsE (L1 := [some (.ref r), some (.ref n), some (.int (nI p)), some (.long (0)), none, some (.int (0))]) rfl ?_
  exact l_readMark nr nn nl hc hp hk hk6 9 0 h (by omega) (by omega) gr gs gn gl (fun _ _ _ _ => rfl)
def sCutter (S : Nat → Int32) (p k : Nat) (x : CNv) (fl : Nat → Int32) : ROut := if isCap (S p) = false then .inl p else if (sDecimals S (p + 1) 6).1 = false then .inl (sDecimals S (p + 1) 6).2 else
  .inr ((sDecimals S (p + 1) 6).2, (x.cl, x.cc, x.cd, S p, (sFill S (p + 1) (sDecimals S (p + 1) 6).2 6).toInt32, nI ((sDecimals S (p + 1) 6).2 - p - 1), x.year, x.vol, x.voll, x.mark, x.markn, nI (k + 1)), upd fl k (nI ((sDecimals S (p + 1) 6).2 - p)))
set_option maxHeartbeats 4000000 in
set_option maxRecDepth 100000 in
theorem c_readCutter (G : qG) {h : qH} {lt : Int32} {r sgn c n ln p k : Nat} {f : Nat → Int32} {x : CNv} {fl : Nat → Int32} (hin : RdIn G h lt r sgn c n ln p k f x fl) : qMet G M_X1_readCutter [.ref r, .ref n] h (qI (fun v h1 => v = bI (oOk (sCutter (Sg c f) p k x fl)) ∧ RdOut h h1 lt r sgn c n ln (sCutter (Sg c f) p k x fl))) := by
  obtain ⟨nr, nn, nl, hc, hp, hk, hk6, gr, gs, gn, gl⟩ := hin
  refine qMet.of (by decide) (Nat.le_of_ble_eq_true rfl) rfl ?_
  refine QP.locsE (L1 := [some (.ref r), some (.ref n), none]) rfl ?_
  refine qp_aload_n dX1_readCutter_0 rfl ?_
  refine qp_getf dX1_readCutter_1 fX1_23 gr rfl ?_
  refine qp_istore_n dX1_readCutter_4 (by decide) ?_
  refine QP.locsE (L1 := [some (.ref r), some (.ref n), some (.int (nI p))]) rfl ?_
  refine qp_aload_n dX1_readCutter_5 rfl ?_
  refine qp_iload_n dX1_readCutter_6 rfl ?_
  refine qv_Ip dX1_readCutter_7 mX1_73 (c_signAt G (p) (by omega) hc gr gs) gr rfl rfl rfl rfl rfl rfl rfl ?_
  refine qs_Ip dX1_readCutter_10 mX1_77 (c_isCapital G (Sg c f (p))) rfl rfl rfl rfl rfl rfl ?_
  refine qp_if_ne 18 dX1_readCutter_13 (by decide) (fun c_13 => ?_) (fun c_13 => ?_)
  · rw [bI_n0] at c_13
    refine qp_aload_n dX1_readCutter_18 rfl ?_
    refine qp_dup dX1_readCutter_19 rfl ?_
    refine qp_getf dX1_readCutter_20 fX1_23 gr rfl ?_
    refine qp_iconst (v := 1) dX1_readCutter_23 (by decide) ?_
    refine qp_iadd dX1_readCutter_24 ?_
    refine QP.topI (y := nI (p + 1)) (nI_1 p) ?_
    refine qk_put dX1_readCutter_25 fX1_23 gr nr rfl rfl rfl rfl rfl (fun h7 g8 o9 => ?_)
    have g10 : h7 sgn = some (.inl (0, 60, .inl (f))) := (o9 _ (ne_of_cells gs gr (by simp))).trans gs
    have g11 : h7 n = some (.inr (1, [.int (x.cl), .int (x.cc), .long (x.cd), .int (x.cap), .int (x.cut), .int (x.cutn), .int (x.year), .int (x.vol), .int (x.voll), .long (x.mark), .int (x.markn), .ref ln, .int (x.lc)])) := (o9 _ (ne_of_cells gn gr (by simp))).trans gn
    have g12 : h7 ln = some (.inl (0, 6, .inl (fl))) := (o9 _ (ne_of_cells gl gr (by simp))).trans gl
    have g8 : h7 r = some (.inr (2, [.int (lt), .ref sgn, .int (nI c), .int (nI (p + 1))])) := g8
    refine qp_aload_n dX1_readCutter_28 rfl ?_
    refine qp_bipush (v := 6) dX1_readCutter_29 (by decide) ?_
    refine qv_Iq dX1_readCutter_31 mX1_86 (c_readDecimals G (6) (by omega) nr hc (by omega) g8 g10) g8 rfl rfl rfl rfl rfl rfl rfl (fun h14 p15 => ?_)
    have b16 := sDecimals_le (Sg c f) (p + 1) (6)
    have b17 := sDecimals_ge (Sg c f) (p + 1) (6)
    obtain ⟨g18, o19⟩ := p15
    have g20 : h14 sgn = some (.inl (0, 60, .inl (f))) := (o19 _ (ne_of_cells g10 g8 (by simp))).trans g10
    have g21 : h14 n = some (.inr (1, [.int (x.cl), .int (x.cc), .long (x.cd), .int (x.cap), .int (x.cut), .int (x.cutn), .int (x.year), .int (x.vol), .int (x.voll), .long (x.mark), .int (x.markn), .ref ln, .int (x.lc)])) := (o19 _ (ne_of_cells g11 g8 (by simp))).trans g11
    have g22 : h14 ln = some (.inl (0, 6, .inl (fl))) := (o19 _ (ne_of_cells g12 g8 (by simp))).trans g12
    have g18 : h14 r = some (.inr (2, [.int (lt), .ref sgn, .int (nI c), .int (nI ((sDecimals (Sg c f) (p + 1) (6)).2))])) := g18
    refine qp_if_ne 39 dX1_readCutter_34 (by decide) (fun c_34 => ?_) (fun c_34 => ?_)
    · rw [bI_n0] at c_34
      refine qp_aload_n dX1_readCutter_39 rfl ?_
      refine qp_aload_n dX1_readCutter_40 rfl ?_
      refine qp_iload_n dX1_readCutter_41 rfl ?_
      refine qv_Ip dX1_readCutter_42 mX1_73 (c_signAt G (p) (by omega) hc g18 g20) g18 rfl rfl rfl rfl rfl rfl rfl ?_
      refine qk_put dX1_readCutter_45 fX1_89 g21 nn rfl rfl rfl rfl rfl (fun h26 g27 o28 => ?_)
      have g29 : h26 sgn = some (.inl (0, 60, .inl (f))) := (o28 _ (ne_of_cells g20 g21 (by simp))).trans g20
      have g30 : h26 ln = some (.inl (0, 6, .inl (fl))) := (o28 _ (ne_of_cells g22 g21 (by simp))).trans g22
      have g31 : h26 r = some (.inr (2, [.int (lt), .ref sgn, .int (nI c), .int (nI ((sDecimals (Sg c f) (p + 1) (6)).2))])) := (o28 _ (ne_of_cells g18 g21 (by simp))).trans g18
      have g27 : h26 n = some (.inr (1, [.int (x.cl), .int (x.cc), .long (x.cd), .int (Sg c f (p)), .int (x.cut), .int (x.cutn), .int (x.year), .int (x.vol), .int (x.voll), .long (x.mark), .int (x.markn), .ref ln, .int (x.lc)])) := g27
      refine qp_aload_n dX1_readCutter_48 rfl ?_
      refine qp_aload_n dX1_readCutter_49 rfl ?_
      refine qp_iload_n dX1_readCutter_50 rfl ?_
      refine qp_iconst (v := 1) dX1_readCutter_51 (by decide) ?_
      refine qp_iadd dX1_readCutter_52 ?_
      refine QP.topI (y := nI (p + 1)) (nI_1 p) ?_
      refine qp_aload_n dX1_readCutter_53 rfl ?_
      refine qp_getf dX1_readCutter_54 fX1_23 g31 rfl ?_
      refine qp_bipush (v := 6) dX1_readCutter_57 (by decide) ?_
      refine qv_Jp dX1_readCutter_59 mX1_57 (c_filledUp G (p + 1) ((sDecimals (Sg c f) (p + 1) (6)).2) (6) (by omega) (by omega) (by omega) hc g31 g29) g31 rfl rfl rfl rfl rfl rfl rfl ?_
      refine qp_l2i dX1_readCutter_62 ?_
      refine qk_put dX1_readCutter_63 fX1_92 g27 nn rfl rfl rfl rfl rfl (fun h35 g36 o37 => ?_)
      have g38 : h35 sgn = some (.inl (0, 60, .inl (f))) := (o37 _ (ne_of_cells g29 g27 (by simp))).trans g29
      have g39 : h35 ln = some (.inl (0, 6, .inl (fl))) := (o37 _ (ne_of_cells g30 g27 (by simp))).trans g30
      have g40 : h35 r = some (.inr (2, [.int (lt), .ref sgn, .int (nI c), .int (nI ((sDecimals (Sg c f) (p + 1) (6)).2))])) := (o37 _ (ne_of_cells g31 g27 (by simp))).trans g31
      have g36 : h35 n = some (.inr (1, [.int (x.cl), .int (x.cc), .long (x.cd), .int (Sg c f (p)), .int (Int64.toInt32 (sFill (Sg c f) (p + 1) ((sDecimals (Sg c f) (p + 1) (6)).2) (6))), .int (x.cutn), .int (x.year), .int (x.vol), .int (x.voll), .long (x.mark), .int (x.markn), .ref ln, .int (x.lc)])) := g36
      refine qp_aload_n dX1_readCutter_66 rfl ?_
      refine qp_aload_n dX1_readCutter_67 rfl ?_
      refine qp_getf dX1_readCutter_68 fX1_23 g40 rfl ?_
      refine qp_iload_n dX1_readCutter_71 rfl ?_
      refine qp_isub dX1_readCutter_72 ?_
      refine QP.topI (y := nI ((sDecimals (Sg c f) (p + 1) (6)).2 - p)) (pk_sub (by omega)) ?_
      refine qp_iconst (v := 1) dX1_readCutter_73 (by decide) ?_
      refine qp_isub dX1_readCutter_74 ?_
      refine QP.topI (y := nI ((sDecimals (Sg c f) (p + 1) (6)).2 - p - 1)) (pk_sub (a := (sDecimals (Sg c f) (p + 1) (6)).2 - p) (b := 1) (by omega)) ?_
      refine qk_put dX1_readCutter_75 fX1_95 g36 nn rfl rfl rfl rfl rfl (fun h41 g42 o43 => ?_)
      have g44 : h41 sgn = some (.inl (0, 60, .inl (f))) := (o43 _ (ne_of_cells g38 g36 (by simp))).trans g38
      have g45 : h41 ln = some (.inl (0, 6, .inl (fl))) := (o43 _ (ne_of_cells g39 g36 (by simp))).trans g39
      have g46 : h41 r = some (.inr (2, [.int (lt), .ref sgn, .int (nI c), .int (nI ((sDecimals (Sg c f) (p + 1) (6)).2))])) := (o43 _ (ne_of_cells g40 g36 (by simp))).trans g40
      have g42 : h41 n = some (.inr (1, [.int (x.cl), .int (x.cc), .long (x.cd), .int (Sg c f (p)), .int (Int64.toInt32 (sFill (Sg c f) (p + 1) ((sDecimals (Sg c f) (p + 1) (6)).2) (6))), .int (nI ((sDecimals (Sg c f) (p + 1) (6)).2 - p - 1)), .int (x.year), .int (x.vol), .int (x.voll), .long (x.mark), .int (x.markn), .ref ln, .int (x.lc)])) := g42
      refine qp_aload_n dX1_readCutter_78 rfl ?_
      refine qp_aload_n dX1_readCutter_79 rfl ?_
      refine qp_getf dX1_readCutter_80 fX1_23 g46 rfl ?_
      refine qp_iload_n dX1_readCutter_83 rfl ?_
      refine qp_isub dX1_readCutter_84 ?_
      refine QP.topI (y := nI ((sDecimals (Sg c f) (p + 1) (6)).2 - p)) (pk_sub (by omega)) ?_
      refine qv_V dX1_readCutter_85 mX1_69 (c_addLine G (x := (x.cl, x.cc, x.cd, Sg c f (p), Int64.toInt32 (sFill (Sg c f) (p + 1) ((sDecimals (Sg c f) (p + 1) (6)).2) (6)), nI ((sDecimals (Sg c f) (p + 1) (6)).2 - p - 1), x.year, x.vol, x.voll, x.mark, x.markn, x.lc)) (k := k) (nI ((sDecimals (Sg c f) (p + 1) (6)).2 - p)) nn nl hk (by omega) g42 g45) g42 rfl rfl rfl rfl rfl rfl rfl (fun h48 p49 => ?_)
      obtain ⟨g50, g51, o52⟩ := p49
      have g53 : h48 sgn = some (.inl (0, 60, .inl (f))) := (o52 _ (ne_of_cells g44 g42 (by simp)) (ne_of_cells g44 g45 (by simp))).trans g44
      have g54 : h48 r = some (.inr (2, [.int (lt), .ref sgn, .int (nI c), .int (nI ((sDecimals (Sg c f) (p + 1) (6)).2))])) := (o52 _ (ne_of_cells g46 g42 (by simp)) (ne_of_cells g46 g45 (by simp))).trans g46
      have g50 : h48 n = some (.inr (1, [.int (x.cl), .int (x.cc), .long (x.cd), .int (Sg c f (p)), .int (Int64.toInt32 (sFill (Sg c f) (p + 1) ((sDecimals (Sg c f) (p + 1) (6)).2) (6))), .int (nI ((sDecimals (Sg c f) (p + 1) (6)).2 - p - 1)), .int (x.year), .int (x.vol), .int (x.voll), .long (x.mark), .int (x.markn), .ref ln, .int (nI (k + 1))])) := g50
      have g51 : h48 ln = some (.inl (0, 6, .inl (upd (fl) (k) (nI ((sDecimals (Sg c f) (p + 1) (6)).2 - p))))) := g51
      refine qp_iconst (v := 1) dX1_readCutter_88 (by decide) ?_
      exact qr_z dX1_readCutter_89 rfl nar_1 rfl rfl ⟨by simp only [sCutter]; rw [if_neg (by rw [c_13]; decide), if_neg (by rw [c_34]; decide)]; rfl, by simp only [sCutter]; rw [if_neg (by rw [c_13]; decide), if_neg (by rw [c_34]; decide)]; exact ⟨g54, g50, g51, fun b hb1 hb2 hb3 => ((((((o52 b hb2 hb3).trans (o43 b hb2)).trans (o37 b hb2)).trans (o28 b hb2)).trans (o19 b hb1)).trans (o9 b hb1))⟩⟩
    · rw [bI_0] at c_34
      refine qp_iconst (v := 0) dX1_readCutter_37 (by decide) ?_
      exact qr_z dX1_readCutter_38 rfl nar_0 rfl rfl ⟨by simp only [sCutter]; rw [if_neg (by rw [c_13]; decide), if_pos c_34]; rfl, by simp only [sCutter]; rw [if_neg (by rw [c_13]; decide), if_pos c_34]; exact ⟨g18, fun b hb1 hb2 hb3 => ((o19 b hb1).trans (o9 b hb1))⟩⟩
  · rw [bI_0] at c_13
    refine qp_iconst (v := 0) dX1_readCutter_16 (by decide) ?_
    exact qr_z dX1_readCutter_17 rfl nar_0 rfl rfl ⟨by simp only [sCutter]; rw [if_pos c_13]; rfl, by simp only [sCutter]; rw [if_pos c_13]; exact ⟨gr, fun _ _ _ _ => rfl⟩⟩
end
section
theorem sYear_ok {S : Nat → Int32} {p k : Nat} {x y : CNv} {fl g : Nat → Int32} {q : Nat} (h : sYear S p k x fl = .inr (q, y, g)) : y.lc = nI (k + 1) ∧ p ≤ q ∧ q ≤ p + 4 := by
  have b1 := sNumber_le S p 4 4
  have b2 := sNumber_ge S p 4 4
  simp only [sYear] at h
  split at h
  · cases h
  · cases h; exact ⟨rfl, b2, b1⟩
theorem sVolume_ok {S : Nat → Int32} {p k : Nat} {x y : CNv} {fl g : Nat → Int32} {q : Nat} (h : sVolume S p k x fl = .inr (q, y, g)) : y.lc = nI (k + 1) ∧ p ≤ q ∧ q ≤ p + 7 := by
  have b1 := sNumber_le S (p + 2) 1 4
  have b2 := sNumber_ge S (p + 2) 1 4
  simp only [sVolume] at h
  split at h
  · cases h
  · split at h
    · cases h; exact ⟨rfl, by omega, by omega⟩
    · cases h; exact ⟨rfl, by omega, by omega⟩
theorem sMark_ok {S : Nat → Int32} {p k : Nat} {x y : CNv} {fl g : Nat → Int32} {q : Nat} (h : sMark S p k x fl = .inr (q, y, g)) : y.lc = nI (k + 1) ∧ p ≤ q ∧ q ≤ p + 8 := by
  have b1 := mkS_bd S p 8
  simp only [sMark] at h
  split at h
  · cases h
  · cases h; exact ⟨rfl, b1.1, b1.2⟩
theorem sCutter_ok {S : Nat → Int32} {p k : Nat} {x y : CNv} {fl g : Nat → Int32} {q : Nat} (h : sCutter S p k x fl = .inr (q, y, g)) : y.lc = nI (k + 1) ∧ p ≤ q ∧ q ≤ p + 7 := by
  have b1 := sDecimals_le S (p + 1) 6
  have b2 := sDecimals_ge S (p + 1) 6
  simp only [sCutter] at h
  split at h
  · cases h
  · split at h
    · cases h
    · cases h; exact ⟨rfl, by omega, by omega⟩
/-- the class's letters after j turns: packed, the place -/
def ltS (S : Nat → Int32) (p : Nat) : Nat → Int32 × Nat
  | 0 => (0, p)
  | j + 1 => if (ltS S p j).2 = p + j ∧ isCap (S (ltS S p j).2) = true then (((ltS S p j).1 <<< ((8 : Int32) &&& 31)) ||| S (ltS S p j).2, (ltS S p j).2 + 1) else ((ltS S p j).1 <<< ((8 : Int32) &&& 31), (ltS S p j).2)
theorem ltS_bd (S : Nat → Int32) (p : Nat) : ∀ j, p ≤ (ltS S p j).2 ∧ (ltS S p j).2 ≤ p + j
  | 0 => ⟨Nat.le_refl p, Nat.le_refl p⟩
  | j + 1 => by
    have := ltS_bd S p j
    simp only [ltS]
    split
    · exact ⟨by show p ≤ _ + 1; omega, by show _ + 1 ≤ _; omega⟩
    · exact ⟨by show p ≤ _; omega, by show _ ≤ _; omega⟩
def sLetters (S : Nat → Int32) (p k : Nat) (x : CNv) (fl : Nat → Int32) : ROut := if (ltS S p 3).2 ≤ p then .inl (ltS S p 3).2 else .inr ((ltS S p 3).2, ((ltS S p 3).1, nI ((ltS S p 3).2 - p), x.cd, x.cap, x.cut, x.cutn, x.year, x.vol, x.voll, x.mark, x.markn, nI (k + 1)), upd fl k (nI ((ltS S p 3).2 - p)))
theorem sLetters_ok {S : Nat → Int32} {p k : Nat} {x y : CNv} {fl g : Nat → Int32} {q : Nat} (h : sLetters S p k x fl = .inr (q, y, g)) : y.lc = nI (k + 1) ∧ p ≤ q ∧ q ≤ p + 3 := by
  have b1 := ltS_bd S p 3
  simp only [sLetters] at h
  split at h
  · cases h
  · cases h; exact ⟨rfl, b1.1, b1.2⟩
set_option maxHeartbeats 4000000 in
set_option maxRecDepth 100000 in
theorem l_readClassLetters {G : qG} {h0 : qH} {lt : Int32} {r sgn c n ln p k : Nat} {f : Nat → Int32} {x : CNv} {fl : Nat → Int32} (nr : G.2.1 ≤ r) (nn : G.2.1 ≤ n) (nl : G.2.1 ≤ ln) (hc : c ≤ 60) (hp : p ≤ 100) (hk : x.lc = nI k) (hk6 : k < 6) : ∀ (m j : Nat) (h : qH), 3 < j + m → j ≤ 3 → h r = some (rdCell lt sgn (nI c) (nI (ltS (Sg c f) p j).2)) → h sgn = some (sgCell f) → h n = some (cnCell x ln) → h ln = some (lnCell fl) → (∀ b : Nat, b ≠ r → b ≠ n → b ≠ ln → h b = h0 b) → QP G M_X1_readClassLetters qTr (qMZ G M_X1_readClassLetters (qI (fun v h1 => v = bI (oOk (sLetters (Sg c f) p k x fl)) ∧ RdOut h0 h1 lt r sgn c n ln (sLetters (Sg c f) p k x fl)))) 10 [some (.ref r), some (.ref n), some (.int (ltS (Sg c f) p j).1), some (.int (nI p)), some (.int (nI j))] [] h 0 0 := by
  intro m
  induction m with
  | zero =>
    intro j h h1 h2
    omega
  | succ m ih =>
    intro j h h1 h2 gr gs gn gl hfr
    refine qp_iload dX1_readClassLetters_10 rfl ?_
    refine qp_iconst (v := 3) dX1_readClassLetters_12 (by decide) ?_
    refine qp_icmp_ge 73 dX1_readClassLetters_13 (by decide) (fun c_13 => ?_) (fun c_13 => ?_)
    · have hj3 : j = 3 := by have := (nI_leI (a := 3) (by decide) (by omega)).mp c_13; omega
      subst hj3
      have bd := ltS_bd (Sg c f) p 3
      refine qp_aload_n dX1_readClassLetters_73 rfl ?_
      refine qp_iload_n dX1_readClassLetters_74 rfl ?_
      refine qk_put dX1_readClassLetters_75 fX1_80 gn nn rfl rfl rfl rfl rfl (fun h1 g2 o3 => ?_)
      have g4 : h1 r = some (.inr (2, [.int (lt), .ref sgn, .int (nI c), .int (nI ((ltS (Sg c f) p 3).2))])) := (o3 _ (ne_of_cells gr gn (by simp))).trans gr
      have g5 : h1 sgn = some (.inl (0, 60, .inl (f))) := (o3 _ (ne_of_cells gs gn (by simp))).trans gs
      have g6 : h1 ln = some (.inl (0, 6, .inl (fl))) := (o3 _ (ne_of_cells gl gn (by simp))).trans gl
      have g2 : h1 n = some (.inr (1, [.int ((ltS (Sg c f) p 3).1), .int (x.cc), .long (x.cd), .int (x.cap), .int (x.cut), .int (x.cutn), .int (x.year), .int (x.vol), .int (x.voll), .long (x.mark), .int (x.markn), .ref ln, .int (x.lc)])) := g2
      refine qp_aload_n dX1_readClassLetters_78 rfl ?_
      refine qp_aload_n dX1_readClassLetters_79 rfl ?_
      refine qp_getf dX1_readClassLetters_80 fX1_23 g4 rfl ?_
      refine qp_iload_n dX1_readClassLetters_83 rfl ?_
      refine qp_isub dX1_readClassLetters_84 ?_
      refine QP.topI (y := nI ((ltS (Sg c f) p 3).2 - p)) (pk_sub (by omega)) ?_
      refine qk_put dX1_readClassLetters_85 fX1_83 g2 nn rfl rfl rfl rfl rfl (fun h7 g8 o9 => ?_)
      have g10 : h7 r = some (.inr (2, [.int (lt), .ref sgn, .int (nI c), .int (nI ((ltS (Sg c f) p 3).2))])) := (o9 _ (ne_of_cells g4 g2 (by simp))).trans g4
      have g11 : h7 sgn = some (.inl (0, 60, .inl (f))) := (o9 _ (ne_of_cells g5 g2 (by simp))).trans g5
      have g12 : h7 ln = some (.inl (0, 6, .inl (fl))) := (o9 _ (ne_of_cells g6 g2 (by simp))).trans g6
      have g8 : h7 n = some (.inr (1, [.int ((ltS (Sg c f) p 3).1), .int (nI ((ltS (Sg c f) p 3).2 - p)), .long (x.cd), .int (x.cap), .int (x.cut), .int (x.cutn), .int (x.year), .int (x.vol), .int (x.voll), .long (x.mark), .int (x.markn), .ref ln, .int (x.lc)])) := g8
      refine qp_aload_n dX1_readClassLetters_88 rfl ?_
      refine qp_aload_n dX1_readClassLetters_89 rfl ?_
      refine qp_getf dX1_readClassLetters_90 fX1_23 g10 rfl ?_
      refine qp_iload_n dX1_readClassLetters_93 rfl ?_
      refine qp_isub dX1_readClassLetters_94 ?_
      refine QP.topI (y := nI ((ltS (Sg c f) p 3).2 - p)) (pk_sub (by omega)) ?_
      refine qv_V dX1_readClassLetters_95 mX1_69 (c_addLine G (x := ((ltS (Sg c f) p 3).1, nI ((ltS (Sg c f) p 3).2 - p), x.cd, x.cap, x.cut, x.cutn, x.year, x.vol, x.voll, x.mark, x.markn, x.lc)) (k := k) (nI ((ltS (Sg c f) p 3).2 - p)) nn nl hk (by omega) g8 g12) g8 rfl rfl rfl rfl rfl rfl rfl (fun h14 p15 => ?_)
      obtain ⟨g16, g17, o18⟩ := p15
      have g19 : h14 r = some (.inr (2, [.int (lt), .ref sgn, .int (nI c), .int (nI ((ltS (Sg c f) p 3).2))])) := (o18 _ (ne_of_cells g10 g8 (by simp)) (ne_of_cells g10 g12 (by simp))).trans g10
      have g20 : h14 sgn = some (.inl (0, 60, .inl (f))) := (o18 _ (ne_of_cells g11 g8 (by simp)) (ne_of_cells g11 g12 (by simp))).trans g11
      have g16 : h14 n = some (.inr (1, [.int ((ltS (Sg c f) p 3).1), .int (nI ((ltS (Sg c f) p 3).2 - p)), .long (x.cd), .int (x.cap), .int (x.cut), .int (x.cutn), .int (x.year), .int (x.vol), .int (x.voll), .long (x.mark), .int (x.markn), .ref ln, .int (nI (k + 1))])) := g16
      have g17 : h14 ln = some (.inl (0, 6, .inl (upd (fl) (k) (nI ((ltS (Sg c f) p 3).2 - p))))) := g17
      refine qp_aload_n dX1_readClassLetters_98 rfl ?_
      refine qp_getf dX1_readClassLetters_99 fX1_23 g19 rfl ?_
      refine qp_iload_n dX1_readClassLetters_102 rfl ?_
      refine qp_icmp_le 110 dX1_readClassLetters_103 (by decide) (fun c_103 => ?_) (fun c_103 => ?_)
      · rw [nI_leI (by omega) (by omega)] at c_103
        refine qp_iconst (v := 0) dX1_readClassLetters_110 (by decide) ?_
        exact qr_z dX1_readClassLetters_111 rfl nar_0 rfl rfl ⟨by simp only [sLetters]; rw [if_pos c_103]; rfl, by simp only [sLetters]; rw [if_pos c_103]; exact ⟨g19, fun b hb1 hb2 hb3 => (((o18 b hb2 hb3).trans (o9 b hb2)).trans (o3 b hb2)).trans (hfr b hb1 hb2 hb3)⟩⟩
      · rw [nI_leI (by omega) (by omega)] at c_103
        refine qp_iconst (v := 1) dX1_readClassLetters_106 (by decide) ?_
        refine qp_goto 111 dX1_readClassLetters_107 (by decide) ?_
        exact qr_z dX1_readClassLetters_111 rfl nar_1 rfl rfl ⟨by simp only [sLetters]; rw [if_neg c_103]; rfl, by simp only [sLetters]; rw [if_neg c_103]; exact ⟨g19, g16, g17, fun b hb1 hb2 hb3 => (((o18 b hb2 hb3).trans (o9 b hb2)).trans (o3 b hb2)).trans (hfr b hb1 hb2 hb3)⟩⟩
    · have hj3 : j < 3 := Nat.not_le.mp fun q => c_13 ((nI_leI (a := 3) (by decide) (by omega)).mpr q)
      have bd := ltS_bd (Sg c f) p j
      refine qp_iload_n dX1_readClassLetters_16 rfl ?_
      refine qp_bipush (v := 8) dX1_readClassLetters_17 (by decide) ?_
      refine qp_ishl dX1_readClassLetters_19 ?_
      refine qp_istore_n dX1_readClassLetters_20 (by decide) ?_
      refine QP.locsE (L1 := [some (.ref r), some (.ref n), some (.int (((ltS (Sg c f) p j).1) <<< ((8) &&& 31))), some (.int (nI p)), some (.int (nI j))]) rfl ?_
      refine qp_aload_n dX1_readClassLetters_21 rfl ?_
      refine qp_getf dX1_readClassLetters_22 fX1_23 gr rfl ?_
      refine qp_iload_n dX1_readClassLetters_25 rfl ?_
      refine qp_iload dX1_readClassLetters_26 rfl ?_
      refine qp_iadd dX1_readClassLetters_28 ?_
      refine QP.topI (y := nI (p + j)) (nI_add p j) ?_
      refine qp_icmp_ne 67 dX1_readClassLetters_29 (by decide) (fun c_29 => ?_) (fun c_29 => ?_)
      · refine qp_iinc (v := nI (j + 1)) dX1_readClassLetters_67 rfl (by decide) (nI_1 j) ?_
        refine QP.locsE (L1 := [some (.ref r), some (.ref n), some (.int (((ltS (Sg c f) p j).1) <<< ((8) &&& 31))), some (.int (nI p)), some (.int (nI (j + 1)))]) rfl ?_
        refine qp_goto 10 dX1_readClassLetters_70 (by decide) ?_
        have e9 : ltS (Sg c f) p (j + 1) = ((((ltS (Sg c f) p j).1) <<< ((8) &&& 31), (ltS (Sg c f) p j).2) : Int32 × Nat) := by simp only [ltS]; rw [if_neg (fun q => c_29 (by rw [q.1]))]
        have e10 : h r = some (rdCell lt sgn (nI c) (nI (ltS (Sg c f) p (j + 1)).2)) := by rw [e9]; exact gr
        refine QP.topL2 (v := (ltS (Sg c f) p (j + 1)).1) (by rw [e9]) ?_
        exact ih (j + 1) h (by omega) (by omega) e10 gs gn gl hfr
      · refine qp_aload_n dX1_readClassLetters_32 rfl ?_
        refine qp_aload_n dX1_readClassLetters_33 rfl ?_
        refine qp_getf dX1_readClassLetters_34 fX1_23 gr rfl ?_
        refine qv_Ip dX1_readClassLetters_37 mX1_73 (c_signAt G ((ltS (Sg c f) p j).2) (by omega) hc gr gs) gr rfl rfl rfl rfl rfl rfl rfl ?_
        refine qs_Ip dX1_readClassLetters_40 mX1_77 (c_isCapital G (Sg c f ((ltS (Sg c f) p j).2))) rfl rfl rfl rfl rfl rfl ?_
        refine qp_if_eq 67 dX1_readClassLetters_43 (by decide) (fun c_43 => ?_) (fun c_43 => ?_)
        · rw [bI_0] at c_43
          refine qp_iinc (v := nI (j + 1)) dX1_readClassLetters_67 rfl (by decide) (nI_1 j) ?_
          refine QP.locsE (L1 := [some (.ref r), some (.ref n), some (.int (((ltS (Sg c f) p j).1) <<< ((8) &&& 31))), some (.int (nI p)), some (.int (nI (j + 1)))]) rfl ?_
          refine qp_goto 10 dX1_readClassLetters_70 (by decide) ?_
          have e9 : ltS (Sg c f) p (j + 1) = ((((ltS (Sg c f) p j).1) <<< ((8) &&& 31), (ltS (Sg c f) p j).2) : Int32 × Nat) := by simp only [ltS]; rw [if_neg (fun q => by rw [q.2] at c_43; exact absurd c_43 (by decide))]
          have e10 : h r = some (rdCell lt sgn (nI c) (nI (ltS (Sg c f) p (j + 1)).2)) := by rw [e9]; exact gr
          refine QP.topL2 (v := (ltS (Sg c f) p (j + 1)).1) (by rw [e9]) ?_
          exact ih (j + 1) h (by omega) (by omega) e10 gs gn gl hfr
        · rw [bI_n0] at c_43
          refine qp_iload_n dX1_readClassLetters_46 rfl ?_
          refine qp_aload_n dX1_readClassLetters_47 rfl ?_
          refine qp_aload_n dX1_readClassLetters_48 rfl ?_
          refine qp_getf dX1_readClassLetters_49 fX1_23 gr rfl ?_
          refine qv_Ip dX1_readClassLetters_52 mX1_73 (c_signAt G ((ltS (Sg c f) p j).2) (by omega) hc gr gs) gr rfl rfl rfl rfl rfl rfl rfl ?_
          refine qp_ior dX1_readClassLetters_55 ?_
          refine qp_istore_n dX1_readClassLetters_56 (by decide) ?_
          refine QP.locsE (L1 := [some (.ref r), some (.ref n), some (.int ((((ltS (Sg c f) p j).1) <<< ((8) &&& 31)) ||| (Sg c f ((ltS (Sg c f) p j).2)))), some (.int (nI p)), some (.int (nI j))]) rfl ?_
          refine qp_aload_n dX1_readClassLetters_57 rfl ?_
          refine qp_dup dX1_readClassLetters_58 rfl ?_
          refine qp_getf dX1_readClassLetters_59 fX1_23 gr rfl ?_
          refine qp_iconst (v := 1) dX1_readClassLetters_62 (by decide) ?_
          refine qp_iadd dX1_readClassLetters_63 ?_
          refine QP.topI (y := nI ((ltS (Sg c f) p j).2 + 1)) (nI_1 _) ?_
          refine qk_put dX1_readClassLetters_64 fX1_23 gr nr rfl rfl rfl rfl rfl (fun h30 g31 o32 => ?_)
          have g33 : h30 sgn = some (.inl (0, 60, .inl (f))) := (o32 _ (ne_of_cells gs gr (by simp))).trans gs
          have g34 : h30 n = some (.inr (1, [.int (x.cl), .int (x.cc), .long (x.cd), .int (x.cap), .int (x.cut), .int (x.cutn), .int (x.year), .int (x.vol), .int (x.voll), .long (x.mark), .int (x.markn), .ref ln, .int (x.lc)])) := (o32 _ (ne_of_cells gn gr (by simp))).trans gn
          have g35 : h30 ln = some (.inl (0, 6, .inl (fl))) := (o32 _ (ne_of_cells gl gr (by simp))).trans gl
          have g31 : h30 r = some (.inr (2, [.int (lt), .ref sgn, .int (nI c), .int (nI ((ltS (Sg c f) p j).2 + 1))])) := g31
          refine qp_iinc (v := nI (j + 1)) dX1_readClassLetters_67 rfl (by decide) (nI_1 j) ?_
          refine QP.locsE (L1 := [some (.ref r), some (.ref n), some (.int ((((ltS (Sg c f) p j).1) <<< ((8) &&& 31)) ||| (Sg c f ((ltS (Sg c f) p j).2)))), some (.int (nI p)), some (.int (nI (j + 1)))]) rfl ?_
          refine qp_goto 10 dX1_readClassLetters_70 (by decide) ?_
          have e9 : ltS (Sg c f) p (j + 1) = (((((ltS (Sg c f) p j).1) <<< ((8) &&& 31)) ||| (Sg c f ((ltS (Sg c f) p j).2)), (ltS (Sg c f) p j).2 + 1) : Int32 × Nat) := by simp only [ltS]; rw [if_pos ⟨(nI_eq (by omega) (by omega)).mp c_29, c_43⟩]
          have e10 : h30 r = some (rdCell lt sgn (nI c) (nI (ltS (Sg c f) p (j + 1)).2)) := by rw [e9]; exact g31
          refine QP.topL2 (v := (ltS (Sg c f) p (j + 1)).1) (by rw [e9]) ?_
          exact ih (j + 1) h30 (by omega) (by omega) e10 g33 g34 g35 (fun b hb1 hb2 hb3 => (o32 b hb1).trans (hfr b hb1 hb2 hb3))
set_option maxHeartbeats 4000000 in
set_option maxRecDepth 100000 in
theorem c_readClassLetters (G : qG) {h : qH} {lt : Int32} {r sgn c n ln p k : Nat} {f : Nat → Int32} {x : CNv} {fl : Nat → Int32} (hin : RdIn G h lt r sgn c n ln p k f x fl) : qMet G M_X1_readClassLetters [.ref r, .ref n] h (qI (fun v h1 => v = bI (oOk (sLetters (Sg c f) p k x fl)) ∧ RdOut h h1 lt r sgn c n ln (sLetters (Sg c f) p k x fl))) := by
  obtain ⟨nr, nn, nl, hc, hp, hk, hk6, gr, gs, gn, gl⟩ := hin
  refine qMet.of (by decide) (Nat.le_of_ble_eq_true rfl) rfl ?_
  refine QP.locsE (L1 := [some (.ref r), some (.ref n), none, none, none]) rfl ?_
  refine qp_iconst (v := 0) dX1_readClassLetters_0 (by decide) ?_
  refine qp_istore_n dX1_readClassLetters_1 (by decide) ?_
  refine QP.locsE (L1 := [some (.ref r), some (.ref n), some (.int (0)), none, none]) rfl ?_
  refine qp_aload_n dX1_readClassLetters_2 rfl ?_
  refine qp_getf dX1_readClassLetters_3 fX1_23 gr rfl ?_
  refine qp_istore_n dX1_readClassLetters_6 (by decide) ?_
  refine QP.locsE (L1 := [some (.ref r), some (.ref n), some (.int (0)), some (.int (nI p)), none]) rfl ?_
  refine qp_iconst (v := 0) dX1_readClassLetters_7 (by decide) ?_
  refine qp_istore dX1_readClassLetters_8 (by decide) ?_
  refine QP.locsE (L1 := [some (.ref r), some (.ref n), some (.int (0)), some (.int (nI p)), some (.int (0))]) rfl ?_
  exact l_readClassLetters nr nn nl hc hp hk hk6 4 0 h (by omega) (by omega) gr gs gn gl (fun _ _ _ _ => rfl)
def sClassD (S : Nat → Int32) (p k : Nat) (x : CNv) (fl : Nat → Int32) : ROut := if (sDigits S p 3 3).1 = false then .inl (sDigits S p 3 3).2 else if (sFraction S (sDigits S p 3 3).2 9).1 = false then .inl (sFraction S (sDigits S p 3 3).2 9).2 else .inr ((sFraction S (sDigits S p 3 3).2 9).2, (x.cl, x.cc, (sFill S p (sDigits S p 3 3).2 ((sDigits S p 3 3).2 - p)) * lN (10 ^ 9) + sFill S ((sDigits S p 3 3).2 + 1) (sFraction S (sDigits S p 3 3).2 9).2 9, x.cap, x.cut, x.cutn, x.year, x.vol, x.voll, x.mark, x.markn, nI (k + 1)), upd fl k (nI ((sFraction S (sDigits S p 3 3).2 9).2 - p)))
def sClassN (S : Nat → Int32) (p k : Nat) (x : CNv) (fl : Nat → Int32) : ROut := if (sNumber S p 1 4).1 = false then .inl (sNumber S p 1 4).2 else if (sFraction S (sNumber S p 1 4).2 4).1 = false then .inl (sFraction S (sNumber S p 1 4).2 4).2 else .inr ((sFraction S (sNumber S p 1 4).2 4).2, (x.cl, x.cc, (sFill S p (sNumber S p 1 4).2 ((sNumber S p 1 4).2 - p)) * lN (10 ^ 4) + sFill S ((sNumber S p 1 4).2 + 1) (sFraction S (sNumber S p 1 4).2 4).2 4, x.cap, x.cut, x.cutn, x.year, x.vol, x.voll, x.mark, x.markn, nI (k + 1)), upd fl k (nI ((sFraction S (sNumber S p 1 4).2 4).2 - p)))
theorem sClassD_ok {S : Nat → Int32} {p k : Nat} {x y : CNv} {fl g : Nat → Int32} {q : Nat} (h : sClassD S p k x fl = .inr (q, y, g)) : y.lc = nI (k + 1) ∧ p ≤ q ∧ q ≤ p + 13 := by
  have b1 := sDigits_le S p 3 3
  have b2 := sDigits_ge S p 3 3
  have b3 := sFraction_le S (sDigits S p 3 3).2 9
  have b4 := sFraction_ge S (sDigits S p 3 3).2 9
  simp only [sClassD] at h
  split at h
  · cases h
  · split at h
    · cases h
    · cases h; exact ⟨rfl, by omega, by omega⟩
theorem sClassN_ok {S : Nat → Int32} {p k : Nat} {x y : CNv} {fl g : Nat → Int32} {q : Nat} (h : sClassN S p k x fl = .inr (q, y, g)) : y.lc = nI (k + 1) ∧ p ≤ q ∧ q ≤ p + 9 := by
  have b1 := sNumber_le S p 1 4
  have b2 := sNumber_ge S p 1 4
  have b3 := sFraction_le S (sNumber S p 1 4).2 4
  have b4 := sFraction_ge S (sNumber S p 1 4).2 4
  simp only [sClassN] at h
  split at h
  · cases h
  · split at h
    · cases h
    · cases h; exact ⟨rfl, by omega, by omega⟩
def oThen (o : ROut) (g : Nat → CNv → (Nat → Int32) → ROut) : ROut := match o with
  | .inl w => .inl w
  | .inr y => g y.1 y.2.1 y.2.2
def sClassL (S : Nat → Int32) (p k : Nat) (x : CNv) (fl : Nat → Int32) : ROut := oThen (sLetters S p k x fl) (fun q y g => sClassN S q (k + 1) y g)
theorem sClassL_ok {S : Nat → Int32} {p k : Nat} {x y : CNv} {fl g : Nat → Int32} {q : Nat} (h : sClassL S p k x fl = .inr (q, y, g)) : y.lc = nI (k + 2) ∧ p ≤ q ∧ q ≤ p + 12 := by
  simp only [sClassL, oThen] at h
  split at h
  · cases h
  · next z hz =>
    obtain ⟨a, b, d⟩ := z
    have h1 := sLetters_ok hz
    have h2 := sClassN_ok h
    exact ⟨h2.1, by omega, by omega⟩
set_option maxHeartbeats 4000000 in
set_option maxRecDepth 100000 in
theorem c_readClassD (G : qG) {h : qH} {r sgn c n ln p k : Nat} {f : Nat → Int32} {x : CNv} {fl : Nat → Int32} (hin : RdIn G h 0 r sgn c n ln p k f x fl) : qMet G M_X1_readClass [.ref r, .ref n] h (qI (fun v h1 => v = bI (oOk (sClassD (Sg c f) p k x fl)) ∧ RdOut h h1 0 r sgn c n ln (sClassD (Sg c f) p k x fl))) := by
  obtain ⟨nr, nn, nl, hc, hp, hk, hk6, gr, gs, gn, gl⟩ := hin
  refine qMet.of (by decide) (Nat.le_of_ble_eq_true rfl) rfl ?_
  refine QP.locsE (L1 := [some (.ref r), some (.ref n), none, none, none, none, none, none]) rfl ?_
  refine qp_aload_n dX1_readClass_0 rfl ?_
  refine qp_getf dX1_readClass_1 fX1_15 gr rfl ?_
  refine qp_if_eq 17 dX1_readClass_4 (by decide) (fun c_4 => ?_) (fun c_4 => absurd rfl c_4)
  refine qp_aload_n dX1_readClass_17 rfl ?_
  refine qp_getf dX1_readClass_18 fX1_23 gr rfl ?_
  refine qp_istore_n dX1_readClass_21 (by decide) ?_
  refine QP.locsE (L1 := [some (.ref r), some (.ref n), some (.int (nI p)), none, none, none, none, none]) rfl ?_
  refine qp_aload_n dX1_readClass_22 rfl ?_
  refine qp_getf dX1_readClass_23 fX1_15 gr rfl ?_
  refine qp_if_eq 38 dX1_readClass_26 (by decide) (fun c_26 => ?_) (fun c_26 => absurd rfl c_26)
  refine qp_aload_n dX1_readClass_38 rfl ?_
  refine qp_iconst (v := 3) dX1_readClass_39 (by decide) ?_
  refine qp_iconst (v := 3) dX1_readClass_40 (by decide) ?_
  refine qv_Iq dX1_readClass_41 mX1_50 (c_readDigits G (3) (3) (by omega) (by omega) nr hc (by omega) gr gs) gr rfl rfl rfl rfl rfl rfl rfl (fun h3 p4 => ?_)
  have le1 := sDigits_le (Sg c f) (p) (3) (3)
  have ge1 := sDigits_ge (Sg c f) (p) (3) (3)
  rcases hd1 : sDigits (Sg c f) (p) (3) (3) with ⟨b1, q1⟩
  rw [hd1] at p4 le1 ge1
  dsimp only at le1 ge1
  obtain ⟨g5, o6⟩ := p4
  have g7 : h3 sgn = some (.inl (0, 60, .inl (f))) := (o6 _ (ne_of_cells gs gr (by simp))).trans gs
  have g8 : h3 n = some (.inr (1, [.int (x.cl), .int (x.cc), .long (x.cd), .int (x.cap), .int (x.cut), .int (x.cutn), .int (x.year), .int (x.vol), .int (x.voll), .long (x.mark), .int (x.markn), .ref ln, .int (x.lc)])) := (o6 _ (ne_of_cells gn gr (by simp))).trans gn
  have g9 : h3 ln = some (.inl (0, 6, .inl (fl))) := (o6 _ (ne_of_cells gl gr (by simp))).trans gl
  have g5 : h3 r = some (.inr (2, [.int (0), .ref sgn, .int (nI c), .int (nI q1)])) := g5
  refine QP.topI (y := bI b1) rfl ?_
  refine qp_istore_n dX1_readClass_44 (by decide) ?_
  refine QP.locsE (L1 := [some (.ref r), some (.ref n), some (.int (nI p)), some (.int (bI b1)), none, none, none, none]) rfl ?_
  refine qp_aload_n dX1_readClass_45 rfl ?_
  refine qp_getf dX1_readClass_46 fX1_23 g5 rfl ?_
  refine qp_istore dX1_readClass_49 (by decide) ?_
  refine QP.locsE (L1 := [some (.ref r), some (.ref n), some (.int (nI p)), some (.int (bI b1)), some (.int (nI q1)), none, none, none]) rfl ?_
  refine qp_aload_n dX1_readClass_51 rfl ?_
  refine qp_getf dX1_readClass_52 fX1_15 g5 rfl ?_
  refine qp_if_eq 62 dX1_readClass_55 (by decide) (fun c_55 => ?_) (fun c_55 => absurd rfl c_55)
  refine qp_bipush (v := 9) dX1_readClass_62 (by decide) ?_
  refine qp_istore dX1_readClass_64 (by decide) ?_
  refine QP.locsE (L1 := [some (.ref r), some (.ref n), some (.int (nI p)), some (.int (bI b1)), some (.int (nI q1)), some (.int (9)), none, none]) rfl ?_
  refine qp_iload_n dX1_readClass_66 rfl ?_
  refine qp_if_eq 79 dX1_readClass_67 (by decide) (fun c_67 => ?_) (fun c_67 => ?_)
  · rw [bI_0] at c_67
    refine qp_iconst (v := 0) dX1_readClass_79 (by decide) ?_
    exact qr_z dX1_readClass_80 rfl nar_0 rfl rfl ⟨by simp only [sClassD, hd1, -Nat.reducePow]; rw [if_pos c_67]; rfl, by simp only [sClassD, hd1, -Nat.reducePow]; rw [if_pos c_67]; exact ⟨g5, fun b hb1 hb2 hb3 => (o6 b hb1)⟩⟩
  · rw [bI_n0] at c_67
    refine qp_aload_n dX1_readClass_70 rfl ?_
    refine qp_iload dX1_readClass_71 rfl ?_
    refine qv_Iq dX1_readClass_73 mX1_53 (c_readFraction G (9) (by omega) nr hc (by omega) g5 g7) g5 rfl rfl rfl rfl rfl rfl rfl (fun h12 p13 => ?_)
    have le10 := sFraction_le (Sg c f) (q1) (9)
    have ge10 := sFraction_ge (Sg c f) (q1) (9)
    rcases hd10 : sFraction (Sg c f) (q1) (9) with ⟨b10, q10⟩
    rw [hd10] at p13 le10 ge10
    dsimp only at le10 ge10
    obtain ⟨g14, o15⟩ := p13
    have g16 : h12 sgn = some (.inl (0, 60, .inl (f))) := (o15 _ (ne_of_cells g7 g5 (by simp))).trans g7
    have g17 : h12 n = some (.inr (1, [.int (x.cl), .int (x.cc), .long (x.cd), .int (x.cap), .int (x.cut), .int (x.cutn), .int (x.year), .int (x.vol), .int (x.voll), .long (x.mark), .int (x.markn), .ref ln, .int (x.lc)])) := (o15 _ (ne_of_cells g8 g5 (by simp))).trans g8
    have g18 : h12 ln = some (.inl (0, 6, .inl (fl))) := (o15 _ (ne_of_cells g9 g5 (by simp))).trans g9
    have g14 : h12 r = some (.inr (2, [.int (0), .ref sgn, .int (nI c), .int (nI q10)])) := g14
    refine QP.topI (y := bI b10) rfl ?_
    refine qp_if_ne 81 dX1_readClass_76 (by decide) (fun c_76 => ?_) (fun c_76 => ?_)
    · rw [bI_n0] at c_76
      refine qp_aload_n dX1_readClass_81 rfl ?_
      refine qp_iload_n dX1_readClass_82 rfl ?_
      refine qp_iload dX1_readClass_83 rfl ?_
      refine qp_iload dX1_readClass_85 rfl ?_
      refine qp_iload_n dX1_readClass_87 rfl ?_
      refine qp_isub dX1_readClass_88 ?_
      refine QP.topI (y := nI (q1 - p)) (pk_sub (by omega)) ?_
      refine qv_Jp dX1_readClass_89 mX1_57 (c_filledUp G (p) (q1) (q1 - p) (by omega) (by omega) (by omega) hc g14 g16) g14 rfl rfl rfl rfl rfl rfl rfl ?_
      refine qp_lstore dX1_readClass_92 (by decide) ?_
      refine QP.locsE (L1 := [some (.ref r), some (.ref n), some (.int (nI p)), some (.int (bI b1)), some (.int (nI q1)), some (.int (9)), some (.long (sFill (Sg c f) (p) (q1) (q1 - p))), none]) rfl ?_
      refine qp_aload_n dX1_readClass_94 rfl ?_
      refine qp_lload dX1_readClass_95 rfl ?_
      refine qp_iload dX1_readClass_97 rfl ?_
      refine qs_Jp dX1_readClass_99 mX1_61 (c_powerOfTen G (9) (by omega)) rfl rfl rfl rfl rfl rfl ?_
      refine qp_lmul dX1_readClass_102 ?_
      refine qp_aload_n dX1_readClass_103 rfl ?_
      refine qp_iload dX1_readClass_104 rfl ?_
      refine qp_iconst (v := 1) dX1_readClass_106 (by decide) ?_
      refine qp_iadd dX1_readClass_107 ?_
      refine QP.topI (y := nI (q1 + 1)) (nI_1 _) ?_
      refine qp_aload_n dX1_readClass_108 rfl ?_
      refine qp_getf dX1_readClass_109 fX1_23 g14 rfl ?_
      refine qp_iload dX1_readClass_112 rfl ?_
      refine qv_Jp dX1_readClass_114 mX1_57 (c_filledUp G (q1 + 1) (q10) (9) (by omega) (by omega) (by omega) hc g14 g16) g14 rfl rfl rfl rfl rfl rfl rfl ?_
      refine qp_ladd dX1_readClass_117 ?_
      refine QP.nameJ (fun V eV => ?_)
      refine qk_put dX1_readClass_118 fX1_65 g17 nn rfl rfl rfl rfl rfl (fun h28 g29 o30 => ?_)
      have g31 : h28 sgn = some (.inl (0, 60, .inl (f))) := (o30 _ (ne_of_cells g16 g17 (by simp))).trans g16
      have g32 : h28 ln = some (.inl (0, 6, .inl (fl))) := (o30 _ (ne_of_cells g18 g17 (by simp))).trans g18
      have g33 : h28 r = some (.inr (2, [.int (0), .ref sgn, .int (nI c), .int (nI q10)])) := (o30 _ (ne_of_cells g14 g17 (by simp))).trans g14
      have g29 : h28 n = some (.inr (1, [.int (x.cl), .int (x.cc), .long (V), .int (x.cap), .int (x.cut), .int (x.cutn), .int (x.year), .int (x.vol), .int (x.voll), .long (x.mark), .int (x.markn), .ref ln, .int (x.lc)])) := g29
      refine qp_aload_n dX1_readClass_121 rfl ?_
      refine qp_aload_n dX1_readClass_122 rfl ?_
      refine qp_getf dX1_readClass_123 fX1_23 g33 rfl ?_
      refine qp_iload_n dX1_readClass_126 rfl ?_
      refine qp_isub dX1_readClass_127 ?_
      refine QP.topI (y := nI (q10 - p)) (pk_sub (by omega)) ?_
      refine qv_V dX1_readClass_128 mX1_69 (c_addLine G (x := (x.cl, x.cc, V, x.cap, x.cut, x.cutn, x.year, x.vol, x.voll, x.mark, x.markn, x.lc)) (k := k) (nI (q10 - p)) nn nl hk (by omega) g29 g32) g29 rfl rfl rfl rfl rfl rfl rfl (fun h35 p36 => ?_)
      obtain ⟨g37, g38, o39⟩ := p36
      have g40 : h35 sgn = some (.inl (0, 60, .inl (f))) := (o39 _ (ne_of_cells g31 g29 (by simp)) (ne_of_cells g31 g32 (by simp))).trans g31
      have g41 : h35 r = some (.inr (2, [.int (0), .ref sgn, .int (nI c), .int (nI q10)])) := (o39 _ (ne_of_cells g33 g29 (by simp)) (ne_of_cells g33 g32 (by simp))).trans g33
      have g37 : h35 n = some (.inr (1, [.int (x.cl), .int (x.cc), .long (V), .int (x.cap), .int (x.cut), .int (x.cutn), .int (x.year), .int (x.vol), .int (x.voll), .long (x.mark), .int (x.markn), .ref ln, .int (nI (k + 1))])) := g37
      have g38 : h35 ln = some (.inl (0, 6, .inl (upd (fl) (k) (nI (q10 - p))))) := g38
      refine qp_iconst (v := 1) dX1_readClass_131 (by decide) ?_
      exact qr_z dX1_readClass_132 rfl nar_1 rfl rfl ⟨by simp only [sClassD, hd1, hd10, -Nat.reducePow]; rw [if_neg (by rw [c_67]; decide), if_neg (by rw [c_76]; decide)]; rfl, by simp only [sClassD, hd1, hd10, -Nat.reducePow]; rw [if_neg (by rw [c_67]; decide), if_neg (by rw [c_76]; decide)]; rw [← eV]; exact ⟨g41, g37, g38, fun b hb1 hb2 hb3 => ((((o39 b hb2 hb3).trans (o30 b hb2)).trans (o15 b hb1)).trans (o6 b hb1))⟩⟩
    · rw [bI_0] at c_76
      refine qp_iconst (v := 0) dX1_readClass_79 (by decide) ?_
      exact qr_z dX1_readClass_80 rfl nar_0 rfl rfl ⟨by simp only [sClassD, hd1, hd10, -Nat.reducePow]; rw [if_neg (by rw [c_67]; decide), if_pos c_76]; rfl, by simp only [sClassD, hd1, hd10, -Nat.reducePow]; rw [if_neg (by rw [c_67]; decide), if_pos c_76]; exact ⟨g14, fun b hb1 hb2 hb3 => ((o15 b hb1).trans (o6 b hb1))⟩⟩
set_option maxHeartbeats 4000000 in
set_option maxRecDepth 100000 in
theorem c_readClassL (G : qG) {h : qH} {r sgn c n ln p k : Nat} {f : Nat → Int32} {x : CNv} {fl : Nat → Int32} (hk5 : k < 5) (hin : RdIn G h 1 r sgn c n ln p k f x fl) : qMet G M_X1_readClass [.ref r, .ref n] h (qI (fun v h1 => v = bI (oOk (sClassL (Sg c f) p k x fl)) ∧ RdOut h h1 1 r sgn c n ln (sClassL (Sg c f) p k x fl))) := by
  obtain ⟨nr, nn, nl, hc, hp, hk, hk6, gr, gs, gn, gl⟩ := hin
  refine qMet.of (by decide) (Nat.le_of_ble_eq_true rfl) rfl ?_
  refine QP.locsE (L1 := [some (.ref r), some (.ref n), none, none, none, none, none, none]) rfl ?_
  refine qp_aload_n dX1_readClass_0 rfl ?_
  refine qp_getf dX1_readClass_1 fX1_15 gr rfl ?_
  refine qp_if_eq 17 dX1_readClass_4 (by decide) (fun c_4 => absurd c_4 (by decide)) (fun c_4 => ?_)
  refine qp_aload_n dX1_readClass_7 rfl ?_
  refine qp_aload_n dX1_readClass_8 rfl ?_
  refine qv_Iq dX1_readClass_9 mX1_43 (c_readClassLetters G (p := p) (x := x) (k := k) ⟨nr, nn, nl, hc, by omega, hk, by omega, gr, gs, gn, gl⟩) gr rfl rfl rfl rfl rfl rfl rfl (fun h2 p3 => ?_)
  rcases hs4 : sLetters (Sg c f) (p) (k) x (fl) with w4 | ⟨q4, y4, f4⟩
  · rw [hs4] at p3
    obtain ⟨g5, o6⟩ := p3
    have g7 : h2 sgn = some (.inl (0, 60, .inl (f))) := (o6 _ (ne_of_cells gs gr (by simp)) (ne_of_cells gs gn (by simp)) (ne_of_cells gs gl (by simp))).trans gs
    have g5 : h2 r = some (.inr (2, [.int (1), .ref sgn, .int (nI c), .int (nI w4)])) := g5
    refine QP.topI (y := 0) rfl ?_
    refine qp_if_ne 17 dX1_readClass_12 (by decide) (fun c_12 => absurd rfl c_12) (fun c_12 => ?_)
    refine qp_iconst (v := 0) dX1_readClass_15 (by decide) ?_
    exact qr_z dX1_readClass_16 rfl nar_0 rfl rfl ⟨by simp only [sClassL]; rw [hs4]; rfl, by simp only [sClassL]; rw [hs4]; exact ⟨g5, fun b hb1 hb2 hb3 => (o6 b hb1 hb2 hb3)⟩⟩
  · rw [hs4] at p3
    obtain ⟨g8, g10, g11, o9⟩ := p3
    obtain ⟨ok12, b13, b14⟩ := sLetters_ok hs4
    have g15 : h2 sgn = some (.inl (0, 60, .inl (f))) := (o9 _ (ne_of_cells gs gr (by simp)) (ne_of_cells gs gn (by simp)) (ne_of_cells gs gl (by simp))).trans gs
    have g8 : h2 r = some (.inr (2, [.int (1), .ref sgn, .int (nI c), .int (nI q4)])) := g8
    have g10 : h2 n = some (.inr (1, [.int (y4.cl), .int (y4.cc), .long (y4.cd), .int (y4.cap), .int (y4.cut), .int (y4.cutn), .int (y4.year), .int (y4.vol), .int (y4.voll), .long (y4.mark), .int (y4.markn), .ref ln, .int (y4.lc)])) := g10
    have g11 : h2 ln = some (.inl (0, 6, .inl (f4))) := g11
    refine QP.topI (y := 1) rfl ?_
    refine qp_if_ne 17 dX1_readClass_12 (by decide) (fun c_12 => ?_) (fun c_12 => absurd c_12 (by decide))
    refine qp_aload_n dX1_readClass_17 rfl ?_
    refine qp_getf dX1_readClass_18 fX1_23 g8 rfl ?_
    refine qp_istore_n dX1_readClass_21 (by decide) ?_
    refine QP.locsE (L1 := [some (.ref r), some (.ref n), some (.int (nI q4)), none, none, none, none, none]) rfl ?_
    refine qp_aload_n dX1_readClass_22 rfl ?_
    refine qp_getf dX1_readClass_23 fX1_15 g8 rfl ?_
    refine qp_if_eq 38 dX1_readClass_26 (by decide) (fun c_26 => absurd c_26 (by decide)) (fun c_26 => ?_)
    refine qp_aload_n dX1_readClass_29 rfl ?_
    refine qp_iconst (v := 1) dX1_readClass_30 (by decide) ?_
    refine qp_iconst (v := 4) dX1_readClass_31 (by decide) ?_
    refine qv_Iq dX1_readClass_32 mX1_46 (c_readNumber G (1) (4) (by omega) (by omega) nr hc (by omega) g8 g15) g8 rfl rfl rfl rfl rfl rfl rfl (fun h18 p19 => ?_)
    have le16 := sNumber_le (Sg c f) (q4) (1) (4)
    have ge16 := sNumber_ge (Sg c f) (q4) (1) (4)
    rcases hd16 : sNumber (Sg c f) (q4) (1) (4) with ⟨b16, q16⟩
    rw [hd16] at p19 le16 ge16
    dsimp only at le16 ge16
    obtain ⟨g20, o21⟩ := p19
    have g22 : h18 sgn = some (.inl (0, 60, .inl (f))) := (o21 _ (ne_of_cells g15 g8 (by simp))).trans g15
    have g23 : h18 n = some (.inr (1, [.int (y4.cl), .int (y4.cc), .long (y4.cd), .int (y4.cap), .int (y4.cut), .int (y4.cutn), .int (y4.year), .int (y4.vol), .int (y4.voll), .long (y4.mark), .int (y4.markn), .ref ln, .int (y4.lc)])) := (o21 _ (ne_of_cells g10 g8 (by simp))).trans g10
    have g24 : h18 ln = some (.inl (0, 6, .inl (f4))) := (o21 _ (ne_of_cells g11 g8 (by simp))).trans g11
    have g20 : h18 r = some (.inr (2, [.int (1), .ref sgn, .int (nI c), .int (nI q16)])) := g20
    refine QP.topI (y := bI b16) rfl ?_
    refine qp_goto 44 dX1_readClass_35 (by decide) ?_
    refine qp_istore_n dX1_readClass_44 (by decide) ?_
    refine QP.locsE (L1 := [some (.ref r), some (.ref n), some (.int (nI q4)), some (.int (bI b16)), none, none, none, none]) rfl ?_
    refine qp_aload_n dX1_readClass_45 rfl ?_
    refine qp_getf dX1_readClass_46 fX1_23 g20 rfl ?_
    refine qp_istore dX1_readClass_49 (by decide) ?_
    refine QP.locsE (L1 := [some (.ref r), some (.ref n), some (.int (nI q4)), some (.int (bI b16)), some (.int (nI q16)), none, none, none]) rfl ?_
    refine qp_aload_n dX1_readClass_51 rfl ?_
    refine qp_getf dX1_readClass_52 fX1_15 g20 rfl ?_
    refine qp_if_eq 62 dX1_readClass_55 (by decide) (fun c_55 => absurd c_55 (by decide)) (fun c_55 => ?_)
    refine qp_iconst (v := 4) dX1_readClass_58 (by decide) ?_
    refine qp_goto 64 dX1_readClass_59 (by decide) ?_
    refine qp_istore dX1_readClass_64 (by decide) ?_
    refine QP.locsE (L1 := [some (.ref r), some (.ref n), some (.int (nI q4)), some (.int (bI b16)), some (.int (nI q16)), some (.int (4)), none, none]) rfl ?_
    refine qp_iload_n dX1_readClass_66 rfl ?_
    refine qp_if_eq 79 dX1_readClass_67 (by decide) (fun c_67 => ?_) (fun c_67 => ?_)
    · rw [bI_0] at c_67
      refine qp_iconst (v := 0) dX1_readClass_79 (by decide) ?_
      exact qr_z dX1_readClass_80 rfl nar_0 rfl rfl ⟨by simp only [sClassL]; rw [hs4]; simp only [oThen, sClassN, hd16, -Nat.reducePow]; rw [if_pos c_67]; rfl, by simp only [sClassL]; rw [hs4]; simp only [oThen, sClassN, hd16, -Nat.reducePow]; rw [if_pos c_67]; exact ⟨g20, fun b hb1 hb2 hb3 => ((o21 b hb1).trans (o9 b hb1 hb2 hb3))⟩⟩
    · rw [bI_n0] at c_67
      refine qp_aload_n dX1_readClass_70 rfl ?_
      refine qp_iload dX1_readClass_71 rfl ?_
      refine qv_Iq dX1_readClass_73 mX1_53 (c_readFraction G (4) (by omega) nr hc (by omega) g20 g22) g20 rfl rfl rfl rfl rfl rfl rfl (fun h27 p28 => ?_)
      have le25 := sFraction_le (Sg c f) (q16) (4)
      have ge25 := sFraction_ge (Sg c f) (q16) (4)
      rcases hd25 : sFraction (Sg c f) (q16) (4) with ⟨b25, q25⟩
      rw [hd25] at p28 le25 ge25
      dsimp only at le25 ge25
      obtain ⟨g29, o30⟩ := p28
      have g31 : h27 sgn = some (.inl (0, 60, .inl (f))) := (o30 _ (ne_of_cells g22 g20 (by simp))).trans g22
      have g32 : h27 n = some (.inr (1, [.int (y4.cl), .int (y4.cc), .long (y4.cd), .int (y4.cap), .int (y4.cut), .int (y4.cutn), .int (y4.year), .int (y4.vol), .int (y4.voll), .long (y4.mark), .int (y4.markn), .ref ln, .int (y4.lc)])) := (o30 _ (ne_of_cells g23 g20 (by simp))).trans g23
      have g33 : h27 ln = some (.inl (0, 6, .inl (f4))) := (o30 _ (ne_of_cells g24 g20 (by simp))).trans g24
      have g29 : h27 r = some (.inr (2, [.int (1), .ref sgn, .int (nI c), .int (nI q25)])) := g29
      refine QP.topI (y := bI b25) rfl ?_
      refine qp_if_ne 81 dX1_readClass_76 (by decide) (fun c_76 => ?_) (fun c_76 => ?_)
      · rw [bI_n0] at c_76
        refine qp_aload_n dX1_readClass_81 rfl ?_
        refine qp_iload_n dX1_readClass_82 rfl ?_
        refine qp_iload dX1_readClass_83 rfl ?_
        refine qp_iload dX1_readClass_85 rfl ?_
        refine qp_iload_n dX1_readClass_87 rfl ?_
        refine qp_isub dX1_readClass_88 ?_
        refine QP.topI (y := nI (q16 - q4)) (pk_sub (by omega)) ?_
        refine qv_Jp dX1_readClass_89 mX1_57 (c_filledUp G (q4) (q16) (q16 - q4) (by omega) (by omega) (by omega) hc g29 g31) g29 rfl rfl rfl rfl rfl rfl rfl ?_
        refine qp_lstore dX1_readClass_92 (by decide) ?_
        refine QP.locsE (L1 := [some (.ref r), some (.ref n), some (.int (nI q4)), some (.int (bI b16)), some (.int (nI q16)), some (.int (4)), some (.long (sFill (Sg c f) (q4) (q16) (q16 - q4))), none]) rfl ?_
        refine qp_aload_n dX1_readClass_94 rfl ?_
        refine qp_lload dX1_readClass_95 rfl ?_
        refine qp_iload dX1_readClass_97 rfl ?_
        refine qs_Jp dX1_readClass_99 mX1_61 (c_powerOfTen G (4) (by omega)) rfl rfl rfl rfl rfl rfl ?_
        refine qp_lmul dX1_readClass_102 ?_
        refine qp_aload_n dX1_readClass_103 rfl ?_
        refine qp_iload dX1_readClass_104 rfl ?_
        refine qp_iconst (v := 1) dX1_readClass_106 (by decide) ?_
        refine qp_iadd dX1_readClass_107 ?_
        refine QP.topI (y := nI (q16 + 1)) (nI_1 _) ?_
        refine qp_aload_n dX1_readClass_108 rfl ?_
        refine qp_getf dX1_readClass_109 fX1_23 g29 rfl ?_
        refine qp_iload dX1_readClass_112 rfl ?_
        refine qv_Jp dX1_readClass_114 mX1_57 (c_filledUp G (q16 + 1) (q25) (4) (by omega) (by omega) (by omega) hc g29 g31) g29 rfl rfl rfl rfl rfl rfl rfl ?_
        refine qp_ladd dX1_readClass_117 ?_
        refine QP.nameJ (fun V eV => ?_)
        refine qk_put dX1_readClass_118 fX1_65 g32 nn rfl rfl rfl rfl rfl (fun h43 g44 o45 => ?_)
        have g46 : h43 sgn = some (.inl (0, 60, .inl (f))) := (o45 _ (ne_of_cells g31 g32 (by simp))).trans g31
        have g47 : h43 ln = some (.inl (0, 6, .inl (f4))) := (o45 _ (ne_of_cells g33 g32 (by simp))).trans g33
        have g48 : h43 r = some (.inr (2, [.int (1), .ref sgn, .int (nI c), .int (nI q25)])) := (o45 _ (ne_of_cells g29 g32 (by simp))).trans g29
        have g44 : h43 n = some (.inr (1, [.int (y4.cl), .int (y4.cc), .long (V), .int (y4.cap), .int (y4.cut), .int (y4.cutn), .int (y4.year), .int (y4.vol), .int (y4.voll), .long (y4.mark), .int (y4.markn), .ref ln, .int (y4.lc)])) := g44
        refine qp_aload_n dX1_readClass_121 rfl ?_
        refine qp_aload_n dX1_readClass_122 rfl ?_
        refine qp_getf dX1_readClass_123 fX1_23 g48 rfl ?_
        refine qp_iload_n dX1_readClass_126 rfl ?_
        refine qp_isub dX1_readClass_127 ?_
        refine QP.topI (y := nI (q25 - q4)) (pk_sub (by omega)) ?_
        refine qv_V dX1_readClass_128 mX1_69 (c_addLine G (x := (y4.cl, y4.cc, V, y4.cap, y4.cut, y4.cutn, y4.year, y4.vol, y4.voll, y4.mark, y4.markn, y4.lc)) (k := k + 1) (nI (q25 - q4)) nn nl ok12 (by omega) g44 g47) g44 rfl rfl rfl rfl rfl rfl rfl (fun h50 p51 => ?_)
        obtain ⟨g52, g53, o54⟩ := p51
        have g55 : h50 sgn = some (.inl (0, 60, .inl (f))) := (o54 _ (ne_of_cells g46 g44 (by simp)) (ne_of_cells g46 g47 (by simp))).trans g46
        have g56 : h50 r = some (.inr (2, [.int (1), .ref sgn, .int (nI c), .int (nI q25)])) := (o54 _ (ne_of_cells g48 g44 (by simp)) (ne_of_cells g48 g47 (by simp))).trans g48
        have g52 : h50 n = some (.inr (1, [.int (y4.cl), .int (y4.cc), .long (V), .int (y4.cap), .int (y4.cut), .int (y4.cutn), .int (y4.year), .int (y4.vol), .int (y4.voll), .long (y4.mark), .int (y4.markn), .ref ln, .int (nI (k + 1 + 1))])) := g52
        have g53 : h50 ln = some (.inl (0, 6, .inl (upd (f4) (k + 1) (nI (q25 - q4))))) := g53
        refine qp_iconst (v := 1) dX1_readClass_131 (by decide) ?_
        exact qr_z dX1_readClass_132 rfl nar_1 rfl rfl ⟨by simp only [sClassL]; rw [hs4]; simp only [oThen, sClassN, hd16, hd25, -Nat.reducePow]; rw [if_neg (by rw [c_67]; decide), if_neg (by rw [c_76]; decide)]; rfl, by simp only [sClassL]; rw [hs4]; simp only [oThen, sClassN, hd16, hd25, -Nat.reducePow]; rw [if_neg (by rw [c_67]; decide), if_neg (by rw [c_76]; decide)]; rw [← eV]; exact ⟨g56, g52, g53, fun b hb1 hb2 hb3 => (((((o54 b hb2 hb3).trans (o45 b hb2)).trans (o30 b hb1)).trans (o21 b hb1)).trans (o9 b hb1 hb2 hb3))⟩⟩
      · rw [bI_0] at c_76
        refine qp_iconst (v := 0) dX1_readClass_79 (by decide) ?_
        exact qr_z dX1_readClass_80 rfl nar_0 rfl rfl ⟨by simp only [sClassL]; rw [hs4]; simp only [oThen, sClassN, hd16, hd25, -Nat.reducePow]; rw [if_neg (by rw [c_67]; decide), if_pos c_76]; rfl, by simp only [sClassL]; rw [hs4]; simp only [oThen, sClassN, hd16, hd25, -Nat.reducePow]; rw [if_neg (by rw [c_67]; decide), if_pos c_76]; exact ⟨g29, fun b hb1 hb2 hb3 => (((o30 b hb1).trans (o21 b hb1)).trans (o9 b hb1 hb2 hb3))⟩⟩
end
section
def sRest (S : Nat → Int32) (c : Nat) : Nat → Int32 → Nat → Nat → CNv → (Nat → Int32) → ROut
  | 0, _, p, _, x, fl => if p < c then .inl p else .inr (p, x, fl)
  | t + 1, l, p, k, x, fl => if p < c then (if (sSpace S p).1 = false then .inl (sSpace S p).2 else if sBegins S (sSpace S p).2 ≤ l then .inl (sSpace S p).2 else oThen (if sBegins S (sSpace S p).2 = 2 then sYear S (sSpace S p).2 k x fl else if sBegins S (sSpace S p).2 = 3 then sVolume S (sSpace S p).2 k x fl else sMark S (sSpace S p).2 k x fl) (fun q y g => sRest S c t (sBegins S (sSpace S p).2) q (k + 1) y g)) else .inr (p, x, fl)
theorem sRest_s (S : Nat → Int32) (c t : Nat) (l : Int32) (p k : Nat) (x : CNv) (fl : Nat → Int32) : sRest S c (t + 1) l p k x fl = if p < c then (if (sSpace S p).1 = false then .inl (sSpace S p).2 else if sBegins S (sSpace S p).2 ≤ l then .inl (sSpace S p).2 else oThen (if sBegins S (sSpace S p).2 = 2 then sYear S (sSpace S p).2 k x fl else if sBegins S (sSpace S p).2 = 3 then sVolume S (sSpace S p).2 k x fl else sMark S (sSpace S p).2 k x fl) (fun q y g => sRest S c t (sBegins S (sSpace S p).2) q (k + 1) y g)) else .inr (p, x, fl) := rfl
theorem sBegins_val (S : Nat → Int32) (p : Nat) : sBegins S p = 2 ∨ sBegins S p = 3 ∨ sBegins S p = 4 ∨ sBegins S p = -1 := by
  simp only [sBegins]
  split
  · exact Or.inl rfl
  · split
    · exact Or.inr (Or.inl rfl)
    · split
      · exact Or.inr (Or.inr (Or.inl rfl))
      · exact Or.inr (Or.inr (Or.inr rfl))
theorem begins_nat {S : Nat → Int32} {p l : Nat} {B : Int32} (eB : B = sBegins S p) (hl : l ≤ 4) (h : nI l < B) : ∃ m : Nat, B = nI m ∧ l < m ∧ m ≤ 4 := by
  rcases sBegins_val S p with e | e | e | e <;> rw [e] at eB <;> subst eB
  · exact ⟨2, rfl, (nI_ltI (b := 2) (by omega) (by decide)).mp h, by decide⟩
  · exact ⟨3, rfl, (nI_ltI (b := 3) (by omega) (by decide)).mp h, by decide⟩
  · exact ⟨4, rfl, (nI_ltI (b := 4) (by omega) (by decide)).mp h, by decide⟩
  · exfalso
    rw [Int32.lt_iff_toInt_lt, nI_toInt (by omega)] at h
    have : (-1 : Int32).toInt = -1 := by decide
    omega
set_option maxHeartbeats 4000000 in
set_option maxRecDepth 100000 in
theorem l_readRest {G : qG} {h0 : qH} {lt : Int32} {r sgn c n ln : Nat} {f : Nat → Int32} {R : ROut} (nr : G.2.1 ≤ r) (nn : G.2.1 ≤ n) (nl : G.2.1 ≤ ln) (hc : c ≤ 60) : ∀ (t l p k : Nat) (x : CNv) (fl : Nat → Int32) (h : qH), t ≤ 4 → p ≤ 80 → l ≤ 4 → k ≤ l + 2 → x.lc = nI k → h r = some (rdCell lt sgn (nI c) (nI p)) → h sgn = some (sgCell f) → h n = some (cnCell x ln) → h ln = some (lnCell fl) → (∀ b : Nat, b ≠ r → b ≠ n → b ≠ ln → h b = h0 b) → R = sRest (Sg c f) c t (nI l) p k x fl → QP G M_X1_readRest qTr (qMZ G M_X1_readRest (qI (fun v h1 => v = bI (oOk R) ∧ RdOut h0 h1 lt r sgn c n ln R))) 4 [some (.ref r), some (.ref n), some (.int (nI l)), some (.int (nI (5 - t))), none, none] [] h 0 0 := by
  intro t
  induction t with
  | zero =>
    intro l p k x fl h h1 hp hl hkl hk gr gs gn gl hfr hR
    refine qp_iload_n dX1_readRest_4 rfl ?_
    refine qp_iconst (v := 4) dX1_readRest_5 (by decide) ?_
    refine qp_icmp_gt 94 dX1_readRest_6 (by decide) (fun c_6 => ?_) (fun c_6 => absurd (by decide) c_6)
    refine qp_aload_n dX1_readRest_94 rfl ?_
    refine qp_getf dX1_readRest_95 fX1_23 gr rfl ?_
    refine qp_aload_n dX1_readRest_98 rfl ?_
    refine qp_getf dX1_readRest_99 fX1_19 gr rfl ?_
    refine qp_icmp_lt 109 dX1_readRest_102 (by decide) (fun c_102 => ?_) (fun c_102 => ?_)
    · refine qp_iconst (v := 0) dX1_readRest_109 (by decide) ?_
      have eR : R = .inl p := by rw [hR, sRest, if_pos ((nI_ltI (by omega) (by omega)).mp c_102)]
      exact qr_z dX1_readRest_110 rfl nar_0 rfl rfl ⟨by rw [eR]; rfl, by rw [eR]; exact ⟨gr, hfr⟩⟩
    · refine qp_iconst (v := 1) dX1_readRest_105 (by decide) ?_
      refine qp_goto 110 dX1_readRest_106 (by decide) ?_
      have eR : R = .inr (p, x, fl) := by rw [hR, sRest, if_neg (fun q => c_102 (nI_lt q (by omega)))]
      exact qr_z dX1_readRest_110 rfl nar_1 rfl rfl ⟨by rw [eR]; rfl, by rw [eR]; exact ⟨gr, gn, gl, hfr⟩⟩
  | succ n2 ih =>
    intro l p k x fl h h1 hp hl hkl hk gr gs gn gl hfr hR
    generalize ht9 : n2 + 1 = t at *
    refine qp_iload_n dX1_readRest_4 rfl ?_
    refine qp_iconst (v := 4) dX1_readRest_5 (by decide) ?_
    refine qp_icmp_gt 94 dX1_readRest_6 (by decide) (fun c_6 => ?_) (fun c_6 => ?_)
    · have ht0 : t = 0 := by have := (nI_ltI (a := 4) (by decide) (by omega)).mp c_6; omega
      refine qp_aload_n dX1_readRest_94 rfl ?_
      refine qp_getf dX1_readRest_95 fX1_23 gr rfl ?_
      refine qp_aload_n dX1_readRest_98 rfl ?_
      refine qp_getf dX1_readRest_99 fX1_19 gr rfl ?_
      refine qp_icmp_lt 109 dX1_readRest_102 (by decide) (fun c_102 => ?_) (fun c_102 => ?_)
      · refine qp_iconst (v := 0) dX1_readRest_109 (by decide) ?_
        have eR : R = .inl p := by rw [hR, show t = 0 by omega, sRest, if_pos ((nI_ltI (by omega) (by omega)).mp c_102)]
        exact qr_z dX1_readRest_110 rfl nar_0 rfl rfl ⟨by rw [eR]; rfl, by rw [eR]; exact ⟨gr, hfr⟩⟩
      · refine qp_iconst (v := 1) dX1_readRest_105 (by decide) ?_
        refine qp_goto 110 dX1_readRest_106 (by decide) ?_
        have eR : R = .inr (p, x, fl) := by rw [hR, show t = 0 by omega, sRest, if_neg (fun q => c_102 (nI_lt q (by omega)))]
        exact qr_z dX1_readRest_110 rfl nar_1 rfl rfl ⟨by rw [eR]; rfl, by rw [eR]; exact ⟨gr, gn, gl, hfr⟩⟩
    · have ht0 : 0 < t := Nat.pos_of_ne_zero fun q => c_6 (by rw [q]; decide)
      have ht1 : t = (t - 1) + 1 := by omega
      refine qp_aload_n dX1_readRest_9 rfl ?_
      refine qp_getf dX1_readRest_10 fX1_23 gr rfl ?_
      refine qp_aload_n dX1_readRest_13 rfl ?_
      refine qp_getf dX1_readRest_14 fX1_19 gr rfl ?_
      refine qp_icmp_ge 94 dX1_readRest_17 (by decide) (fun c_17 => ?_) (fun c_17 => ?_)
      · have hpc : c ≤ p := (nI_leI (by omega) (by omega)).mp c_17
        refine qp_aload_n dX1_readRest_94 rfl ?_
        refine qp_getf dX1_readRest_95 fX1_23 gr rfl ?_
        refine qp_aload_n dX1_readRest_98 rfl ?_
        refine qp_getf dX1_readRest_99 fX1_19 gr rfl ?_
        refine qp_icmp_lt 109 dX1_readRest_102 (by decide) (fun c_102 => absurd c_102 (fun q => absurd ((nI_ltI (by omega) (by omega)).mp q) (by omega))) (fun c_102 => ?_)
        refine qp_iconst (v := 1) dX1_readRest_105 (by decide) ?_
        refine qp_goto 110 dX1_readRest_106 (by decide) ?_
        have eR : R = .inr (p, x, fl) := by rw [hR, ht1, sRest_s, if_neg (by omega)]
        exact qr_z dX1_readRest_110 rfl nar_1 rfl rfl ⟨by rw [eR]; rfl, by rw [eR]; exact ⟨gr, gn, gl, hfr⟩⟩
      · have hpc : p < c := Nat.not_le.mp fun q => c_17 ((nI_leI (by omega) (by omega)).mpr q)
        refine qp_aload_n dX1_readRest_20 rfl ?_
        refine qv_Iq dX1_readRest_21 mX1_33 (c_readSpace G nr hc (by omega) gr gs) gr rfl rfl rfl rfl rfl rfl rfl (fun h3 p4 => ?_)
        have le1 := sSpace_le (Sg c f) (p)
        have ge1 := sSpace_ge (Sg c f) (p)
        rcases hd1 : sSpace (Sg c f) (p) with ⟨b1, q1⟩
        rw [hd1] at p4 le1 ge1
        dsimp only at le1 ge1
        obtain ⟨g5, o6⟩ := p4
        have g7 : h3 sgn = some (.inl (0, 60, .inl (f))) := (o6 _ (ne_of_cells gs gr (by simp))).trans gs
        have g8 : h3 n = some (.inr (1, [.int (x.cl), .int (x.cc), .long (x.cd), .int (x.cap), .int (x.cut), .int (x.cutn), .int (x.year), .int (x.vol), .int (x.voll), .long (x.mark), .int (x.markn), .ref ln, .int (x.lc)])) := (o6 _ (ne_of_cells gn gr (by simp))).trans gn
        have g9 : h3 ln = some (.inl (0, 6, .inl (fl))) := (o6 _ (ne_of_cells gl gr (by simp))).trans gl
        have g5 : h3 r = some (.inr (2, [.int (lt), .ref sgn, .int (nI c), .int (nI q1)])) := g5
        refine QP.topI (y := bI b1) rfl ?_
        refine qp_if_ne 29 dX1_readRest_24 (by decide) (fun c_24 => ?_) (fun c_24 => ?_)
        · rw [bI_n0] at c_24
          refine qp_aload_n dX1_readRest_29 rfl ?_
          refine qv_Ip dX1_readRest_30 mX1_98 (c_partThatBegins G hc (by omega) g5 g7) g5 rfl rfl rfl rfl rfl rfl rfl ?_
          refine QP.nameI (fun B eB => ?_)
          refine qp_istore dX1_readRest_33 (by decide) ?_
          refine QP.locsE (L1 := [some (.ref r), some (.ref n), some (.int (nI l)), some (.int (nI (5 - t))), some (.int (B)), none]) rfl ?_
          refine qp_iload dX1_readRest_35 rfl ?_
          refine qp_iload_n dX1_readRest_37 rfl ?_
          refine qp_icmp_gt 43 dX1_readRest_38 (by decide) (fun c_38 => ?_) (fun c_38 => ?_)
          · obtain ⟨m, hm, hlm, hm4⟩ := begins_nat eB (by omega) c_38
            refine qp_iload dX1_readRest_43 rfl ?_
            refine qp_iconst (v := 2) dX1_readRest_45 (by decide) ?_
            refine qp_icmp_ne 57 dX1_readRest_46 (by decide) (fun c_46 => ?_) (fun c_46 => ?_)
            · refine qp_iload dX1_readRest_57 rfl ?_
              refine qp_iconst (v := 3) dX1_readRest_59 (by decide) ?_
              refine qp_icmp_ne 71 dX1_readRest_60 (by decide) (fun c_60 => ?_) (fun c_60 => ?_)
              · refine qp_aload_n dX1_readRest_71 rfl ?_
                refine qp_aload_n dX1_readRest_72 rfl ?_
                refine qv_Iq dX1_readRest_73 mX1_108 (c_readMark G (p := q1) (x := x) (k := k) ⟨nr, nn, nl, hc, by omega, hk, by omega, g5, g7, g8, g9⟩) g5 rfl rfl rfl rfl rfl rfl rfl (fun h14 p15 => ?_)
                rcases hs16 : sMark (Sg c f) (q1) (k) x (fl) with w16 | ⟨q16, y16, f16⟩
                · rw [hs16] at p15
                  obtain ⟨g17, o18⟩ := p15
                  have g19 : h14 sgn = some (.inl (0, 60, .inl (f))) := (o18 _ (ne_of_cells g7 g5 (by simp)) (ne_of_cells g7 g8 (by simp)) (ne_of_cells g7 g9 (by simp))).trans g7
                  have g17 : h14 r = some (.inr (2, [.int (lt), .ref sgn, .int (nI c), .int (nI w16)])) := g17
                  refine QP.topI (y := 0) rfl ?_
                  refine qp_istore dX1_readRest_76 (by decide) ?_
                  refine QP.locsE (L1 := [some (.ref r), some (.ref n), some (.int (nI l)), some (.int (nI (5 - t))), some (.int (B)), some (.int (0))]) rfl ?_
                  refine qp_iload dX1_readRest_78 rfl ?_
                  refine qp_if_ne 85 dX1_readRest_80 (by decide) (fun c_80 => absurd rfl c_80) (fun c_80 => ?_)
                  refine qp_iconst (v := 0) dX1_readRest_83 (by decide) ?_
                  have eR : R = .inl w16 := by rw [hR, ht1, sRest_s, if_pos hpc, hd1]; dsimp only; rw [if_neg (by rw [c_24]; decide), ← eB, if_neg (i32_nle.mpr c_38), if_neg c_46, if_neg c_60, hs16]; rfl
                  exact qr_z dX1_readRest_84 rfl nar_0 rfl rfl ⟨by rw [eR]; rfl, by rw [eR]; exact ⟨g17, fun b hb1 hb2 hb3 => ((o18 b hb1 hb2 hb3).trans (o6 b hb1)).trans (hfr b hb1 hb2 hb3)⟩⟩
                · rw [hs16] at p15
                  obtain ⟨g20, g22, g23, o21⟩ := p15
                  obtain ⟨ok24, b25, b26⟩ := sMark_ok hs16
                  have g27 : h14 sgn = some (.inl (0, 60, .inl (f))) := (o21 _ (ne_of_cells g7 g5 (by simp)) (ne_of_cells g7 g8 (by simp)) (ne_of_cells g7 g9 (by simp))).trans g7
                  have g20 : h14 r = some (.inr (2, [.int (lt), .ref sgn, .int (nI c), .int (nI q16)])) := g20
                  have g22 : h14 n = some (.inr (1, [.int (y16.cl), .int (y16.cc), .long (y16.cd), .int (y16.cap), .int (y16.cut), .int (y16.cutn), .int (y16.year), .int (y16.vol), .int (y16.voll), .long (y16.mark), .int (y16.markn), .ref ln, .int (y16.lc)])) := g22
                  have g23 : h14 ln = some (.inl (0, 6, .inl (f16))) := g23
                  refine QP.topI (y := 1) rfl ?_
                  refine qp_istore dX1_readRest_76 (by decide) ?_
                  refine QP.locsE (L1 := [some (.ref r), some (.ref n), some (.int (nI l)), some (.int (nI (5 - t))), some (.int (B)), some (.int (1))]) rfl ?_
                  refine qp_iload dX1_readRest_78 rfl ?_
                  refine qp_if_ne 85 dX1_readRest_80 (by decide) (fun c_80 => ?_) (fun c_80 => absurd c_80 (by decide))
                  refine qp_iload dX1_readRest_85 rfl ?_
                  refine qp_istore_n dX1_readRest_87 (by decide) ?_
                  refine QP.locsE (L1 := [some (.ref r), some (.ref n), some (.int (B)), some (.int (nI (5 - t))), some (.int (B)), some (.int (1))]) rfl ?_
                  refine qp_iinc (v := nI (5 - (t - 1))) dX1_readRest_88 rfl (by decide) (by rw [show 5 - (t - 1) = (5 - t) + 1 by omega]; exact nI_1 _) ?_
                  refine QP.locsE (L1 := [some (.ref r), some (.ref n), some (.int (B)), some (.int (nI (5 - (t - 1)))), some (.int (B)), some (.int (1))]) rfl ?_
                  refine qp_goto 4 dX1_readRest_91 (by decide) ?_
                  rw [hm, show t - 1 = n2 by omega]
                  refine QP.forget 4 (QP.forget 5 ?_)
                  exact ih m q16 (k + 1) y16 f16 h14 (by omega) (by omega) (by omega) (by omega) ok24 g20 g27 g22 g23 (fun b hb1 hb2 hb3 => ((o21 b hb1 hb2 hb3).trans (o6 b hb1)).trans (hfr b hb1 hb2 hb3)) (by rw [hR, ht1, sRest_s, if_pos hpc, hd1]; dsimp only; rw [if_neg (by rw [c_24]; decide), ← eB, if_neg (i32_nle.mpr c_38), if_neg c_46, if_neg c_60, hs16, hm, show t - 1 = n2 by omega]; rfl)
              · refine qp_aload_n dX1_readRest_63 rfl ?_
                refine qp_aload_n dX1_readRest_64 rfl ?_
                refine qv_Iq dX1_readRest_65 mX1_105 (c_readVolume G (p := q1) (x := x) (k := k) ⟨nr, nn, nl, hc, by omega, hk, by omega, g5, g7, g8, g9⟩) g5 rfl rfl rfl rfl rfl rfl rfl (fun h29 p30 => ?_)
                rcases hs31 : sVolume (Sg c f) (q1) (k) x (fl) with w31 | ⟨q31, y31, f31⟩
                · rw [hs31] at p30
                  obtain ⟨g32, o33⟩ := p30
                  have g34 : h29 sgn = some (.inl (0, 60, .inl (f))) := (o33 _ (ne_of_cells g7 g5 (by simp)) (ne_of_cells g7 g8 (by simp)) (ne_of_cells g7 g9 (by simp))).trans g7
                  have g32 : h29 r = some (.inr (2, [.int (lt), .ref sgn, .int (nI c), .int (nI w31)])) := g32
                  refine QP.topI (y := 0) rfl ?_
                  refine qp_goto 76 dX1_readRest_68 (by decide) ?_
                  refine qp_istore dX1_readRest_76 (by decide) ?_
                  refine QP.locsE (L1 := [some (.ref r), some (.ref n), some (.int (nI l)), some (.int (nI (5 - t))), some (.int (B)), some (.int (0))]) rfl ?_
                  refine qp_iload dX1_readRest_78 rfl ?_
                  refine qp_if_ne 85 dX1_readRest_80 (by decide) (fun c_80 => absurd rfl c_80) (fun c_80 => ?_)
                  refine qp_iconst (v := 0) dX1_readRest_83 (by decide) ?_
                  have eR : R = .inl w31 := by rw [hR, ht1, sRest_s, if_pos hpc, hd1]; dsimp only; rw [if_neg (by rw [c_24]; decide), ← eB, if_neg (i32_nle.mpr c_38), if_neg c_46, if_pos c_60, hs31]; rfl
                  exact qr_z dX1_readRest_84 rfl nar_0 rfl rfl ⟨by rw [eR]; rfl, by rw [eR]; exact ⟨g32, fun b hb1 hb2 hb3 => ((o33 b hb1 hb2 hb3).trans (o6 b hb1)).trans (hfr b hb1 hb2 hb3)⟩⟩
                · rw [hs31] at p30
                  obtain ⟨g35, g37, g38, o36⟩ := p30
                  obtain ⟨ok39, b40, b41⟩ := sVolume_ok hs31
                  have g42 : h29 sgn = some (.inl (0, 60, .inl (f))) := (o36 _ (ne_of_cells g7 g5 (by simp)) (ne_of_cells g7 g8 (by simp)) (ne_of_cells g7 g9 (by simp))).trans g7
                  have g35 : h29 r = some (.inr (2, [.int (lt), .ref sgn, .int (nI c), .int (nI q31)])) := g35
                  have g37 : h29 n = some (.inr (1, [.int (y31.cl), .int (y31.cc), .long (y31.cd), .int (y31.cap), .int (y31.cut), .int (y31.cutn), .int (y31.year), .int (y31.vol), .int (y31.voll), .long (y31.mark), .int (y31.markn), .ref ln, .int (y31.lc)])) := g37
                  have g38 : h29 ln = some (.inl (0, 6, .inl (f31))) := g38
                  refine QP.topI (y := 1) rfl ?_
                  refine qp_goto 76 dX1_readRest_68 (by decide) ?_
                  refine qp_istore dX1_readRest_76 (by decide) ?_
                  refine QP.locsE (L1 := [some (.ref r), some (.ref n), some (.int (nI l)), some (.int (nI (5 - t))), some (.int (B)), some (.int (1))]) rfl ?_
                  refine qp_iload dX1_readRest_78 rfl ?_
                  refine qp_if_ne 85 dX1_readRest_80 (by decide) (fun c_80 => ?_) (fun c_80 => absurd c_80 (by decide))
                  refine qp_iload dX1_readRest_85 rfl ?_
                  refine qp_istore_n dX1_readRest_87 (by decide) ?_
                  refine QP.locsE (L1 := [some (.ref r), some (.ref n), some (.int (B)), some (.int (nI (5 - t))), some (.int (B)), some (.int (1))]) rfl ?_
                  refine qp_iinc (v := nI (5 - (t - 1))) dX1_readRest_88 rfl (by decide) (by rw [show 5 - (t - 1) = (5 - t) + 1 by omega]; exact nI_1 _) ?_
                  refine QP.locsE (L1 := [some (.ref r), some (.ref n), some (.int (B)), some (.int (nI (5 - (t - 1)))), some (.int (B)), some (.int (1))]) rfl ?_
                  refine qp_goto 4 dX1_readRest_91 (by decide) ?_
                  rw [hm, show t - 1 = n2 by omega]
                  refine QP.forget 4 (QP.forget 5 ?_)
                  exact ih m q31 (k + 1) y31 f31 h29 (by omega) (by omega) (by omega) (by omega) ok39 g35 g42 g37 g38 (fun b hb1 hb2 hb3 => ((o36 b hb1 hb2 hb3).trans (o6 b hb1)).trans (hfr b hb1 hb2 hb3)) (by rw [hR, ht1, sRest_s, if_pos hpc, hd1]; dsimp only; rw [if_neg (by rw [c_24]; decide), ← eB, if_neg (i32_nle.mpr c_38), if_neg c_46, if_pos c_60, hs31, hm, show t - 1 = n2 by omega]; rfl)
            · refine qp_aload_n dX1_readRest_49 rfl ?_
              refine qp_aload_n dX1_readRest_50 rfl ?_
              refine qv_Iq dX1_readRest_51 mX1_102 (c_readYear G (p := q1) (x := x) (k := k) ⟨nr, nn, nl, hc, by omega, hk, by omega, g5, g7, g8, g9⟩) g5 rfl rfl rfl rfl rfl rfl rfl (fun h44 p45 => ?_)
              rcases hs46 : sYear (Sg c f) (q1) (k) x (fl) with w46 | ⟨q46, y46, f46⟩
              · rw [hs46] at p45
                obtain ⟨g47, o48⟩ := p45
                have g49 : h44 sgn = some (.inl (0, 60, .inl (f))) := (o48 _ (ne_of_cells g7 g5 (by simp)) (ne_of_cells g7 g8 (by simp)) (ne_of_cells g7 g9 (by simp))).trans g7
                have g47 : h44 r = some (.inr (2, [.int (lt), .ref sgn, .int (nI c), .int (nI w46)])) := g47
                refine QP.topI (y := 0) rfl ?_
                refine qp_goto 76 dX1_readRest_54 (by decide) ?_
                refine qp_istore dX1_readRest_76 (by decide) ?_
                refine QP.locsE (L1 := [some (.ref r), some (.ref n), some (.int (nI l)), some (.int (nI (5 - t))), some (.int (B)), some (.int (0))]) rfl ?_
                refine qp_iload dX1_readRest_78 rfl ?_
                refine qp_if_ne 85 dX1_readRest_80 (by decide) (fun c_80 => absurd rfl c_80) (fun c_80 => ?_)
                refine qp_iconst (v := 0) dX1_readRest_83 (by decide) ?_
                have eR : R = .inl w46 := by rw [hR, ht1, sRest_s, if_pos hpc, hd1]; dsimp only; rw [if_neg (by rw [c_24]; decide), ← eB, if_neg (i32_nle.mpr c_38), if_pos c_46, hs46]; rfl
                exact qr_z dX1_readRest_84 rfl nar_0 rfl rfl ⟨by rw [eR]; rfl, by rw [eR]; exact ⟨g47, fun b hb1 hb2 hb3 => ((o48 b hb1 hb2 hb3).trans (o6 b hb1)).trans (hfr b hb1 hb2 hb3)⟩⟩
              · rw [hs46] at p45
                obtain ⟨g50, g52, g53, o51⟩ := p45
                obtain ⟨ok54, b55, b56⟩ := sYear_ok hs46
                have g57 : h44 sgn = some (.inl (0, 60, .inl (f))) := (o51 _ (ne_of_cells g7 g5 (by simp)) (ne_of_cells g7 g8 (by simp)) (ne_of_cells g7 g9 (by simp))).trans g7
                have g50 : h44 r = some (.inr (2, [.int (lt), .ref sgn, .int (nI c), .int (nI q46)])) := g50
                have g52 : h44 n = some (.inr (1, [.int (y46.cl), .int (y46.cc), .long (y46.cd), .int (y46.cap), .int (y46.cut), .int (y46.cutn), .int (y46.year), .int (y46.vol), .int (y46.voll), .long (y46.mark), .int (y46.markn), .ref ln, .int (y46.lc)])) := g52
                have g53 : h44 ln = some (.inl (0, 6, .inl (f46))) := g53
                refine QP.topI (y := 1) rfl ?_
                refine qp_goto 76 dX1_readRest_54 (by decide) ?_
                refine qp_istore dX1_readRest_76 (by decide) ?_
                refine QP.locsE (L1 := [some (.ref r), some (.ref n), some (.int (nI l)), some (.int (nI (5 - t))), some (.int (B)), some (.int (1))]) rfl ?_
                refine qp_iload dX1_readRest_78 rfl ?_
                refine qp_if_ne 85 dX1_readRest_80 (by decide) (fun c_80 => ?_) (fun c_80 => absurd c_80 (by decide))
                refine qp_iload dX1_readRest_85 rfl ?_
                refine qp_istore_n dX1_readRest_87 (by decide) ?_
                refine QP.locsE (L1 := [some (.ref r), some (.ref n), some (.int (B)), some (.int (nI (5 - t))), some (.int (B)), some (.int (1))]) rfl ?_
                refine qp_iinc (v := nI (5 - (t - 1))) dX1_readRest_88 rfl (by decide) (by rw [show 5 - (t - 1) = (5 - t) + 1 by omega]; exact nI_1 _) ?_
                refine QP.locsE (L1 := [some (.ref r), some (.ref n), some (.int (B)), some (.int (nI (5 - (t - 1)))), some (.int (B)), some (.int (1))]) rfl ?_
                refine qp_goto 4 dX1_readRest_91 (by decide) ?_
                rw [hm, show t - 1 = n2 by omega]
                refine QP.forget 4 (QP.forget 5 ?_)
                exact ih m q46 (k + 1) y46 f46 h44 (by omega) (by omega) (by omega) (by omega) ok54 g50 g57 g52 g53 (fun b hb1 hb2 hb3 => ((o51 b hb1 hb2 hb3).trans (o6 b hb1)).trans (hfr b hb1 hb2 hb3)) (by rw [hR, ht1, sRest_s, if_pos hpc, hd1]; dsimp only; rw [if_neg (by rw [c_24]; decide), ← eB, if_neg (i32_nle.mpr c_38), if_pos c_46, hs46, hm, show t - 1 = n2 by omega]; rfl)
          · refine qp_iconst (v := 0) dX1_readRest_41 (by decide) ?_
            have eR : R = .inl q1 := by rw [hR, ht1, sRest_s, if_pos hpc, hd1]; dsimp only; rw [if_neg (by rw [c_24]; decide), if_pos (by rw [← eB]; exact i32_nlt.mp c_38)]
            exact qr_z dX1_readRest_42 rfl nar_0 rfl rfl ⟨by rw [eR]; rfl, by rw [eR]; exact ⟨g5, fun b hb1 hb2 hb3 => (o6 b hb1).trans (hfr b hb1 hb2 hb3)⟩⟩
        · rw [bI_0] at c_24
          refine qp_iconst (v := 0) dX1_readRest_27 (by decide) ?_
          have eR : R = .inl q1 := by rw [hR, ht1, sRest_s, if_pos hpc, hd1]; dsimp only; rw [if_pos c_24]
          exact qr_z dX1_readRest_28 rfl nar_0 rfl rfl ⟨by rw [eR]; rfl, by rw [eR]; exact ⟨g5, fun b hb1 hb2 hb3 => (o6 b hb1).trans (hfr b hb1 hb2 hb3)⟩⟩
set_option maxHeartbeats 4000000 in
set_option maxRecDepth 100000 in
theorem c_readRest (G : qG) {h : qH} {lt : Int32} {r sgn c n ln p k : Nat} {f : Nat → Int32} {x : CNv} {fl : Nat → Int32} (hp80 : p ≤ 80) (hk3 : k ≤ 3) (hin : RdIn G h lt r sgn c n ln p k f x fl) : qMet G M_X1_readRest [.ref r, .ref n] h (qI (fun v h1 => v = bI (oOk (sRest (Sg c f) c 4 1 p k x fl)) ∧ RdOut h h1 lt r sgn c n ln (sRest (Sg c f) c 4 1 p k x fl))) := by
  obtain ⟨nr, nn, nl, hc, hp, hk, hk6, gr, gs, gn, gl⟩ := hin
  refine qMet.of (by decide) (Nat.le_of_ble_eq_true rfl) rfl ?_
  refine QP.locsE (L1 := [some (.ref r), some (.ref n), none, none, none, none]) rfl ?_
  refine qp_iconst (v := 1) dX1_readRest_0 (by decide) ?_
  refine qp_istore_n dX1_readRest_1 (by decide) ?_
  refine QP.locsE (L1 := [some (.ref r), some (.ref n), some (.int (1)), none, none, none]) rfl ?_
  refine qp_iconst (v := 1) dX1_readRest_2 (by decide) ?_
  refine qp_istore_n dX1_readRest_3 (by decide) ?_
  refine QP.locsE (L1 := [some (.ref r), some (.ref n), some (.int (1)), some (.int (1)), none, none]) rfl ?_
  exact l_readRest nr nn nl hc 4 1 p k x fl h (by omega) (by omega) (by omega) (by omega) hk gr gs gn gl (fun _ _ _ _ => rfl) rfl
end
section
def sAllD (S : Nat → Int32) (c : Nat) : ROut := oThen (sClassD S 0 0 cnNew (fun _ => 0)) (fun q x fl => if (sSpace S q).1 = false then .inl (sSpace S q).2 else oThen (sCutter S (sSpace S q).2 1 x fl) (fun q2 x2 fl2 => sRest S c 4 1 q2 2 x2 fl2))
def sAllL (S : Nat → Int32) (c : Nat) : ROut := oThen (sClassL S 0 0 cnNew (fun _ => 0)) (fun q x fl => if (sSpace S q).1 = false then .inl (sSpace S q).2 else oThen (sCutter S (sSpace S q).2 2 x fl) (fun q2 x2 fl2 => sRest S c 4 1 q2 3 x2 fl2))
theorem sRest_ok : True := trivial
theorem sRest_all {S : Nat → Int32} {c t : Nat} {l : Int32} {p k : Nat} {x y : CNv} {fl g : Nat → Int32} {q : Nat} (_ : sRest S c t l p k x fl = .inr (q, y, g)) : True ∧ True ∧ True := ⟨trivial, trivial, trivial⟩
set_option maxHeartbeats 4000000 in
set_option maxRecDepth 100000 in
theorem c_readCollectedD (G : qG) {h : qH} {r sgn c : Nat} {pp : Int32} {f : Nat → Int32} (nr : G.2.1 ≤ r) (hc : c ≤ 60) (gr : h r = some (rdCell 0 sgn (nI c) pp)) (gs : h sgn = some (sgCell f)) : qMet G M_X1_readCollected [.ref r] h (qA (fun v h1 => ∃ n ln : Nat, G.2.1 ≤ n ∧ G.2.1 ≤ ln ∧ h n = none ∧ h ln = none ∧ n ≠ ln ∧ v = (if oOk (sAllD (Sg c f) c) = true then some n else none) ∧ RdOut h h1 0 r sgn c n ln (sAllD (Sg c f) c))) := by
  refine qMet.of (by decide) (Nat.le_of_ble_eq_true rfl) rfl ?_
  refine QP.locsE (L1 := [some (.ref r), none, none]) rfl ?_
  refine qk_new dX1_readCollected_0 nX1_26 rfl rfl rfl (fun n h1 n4 z5 g2 o3 => ?_)
  have z6 : h n = none := z5
  have g7 : h1 r = some (.inr (2, [.int (0), .ref sgn, .int (nI c), .int (pp)])) := (o3 _ (ne_of_none gr z5)).trans gr
  have g8 : h1 sgn = some (.inl (0, 60, .inl (f))) := (o3 _ (ne_of_none gs z5)).trans gs
  have g2 : h1 n = some (.inr (1, [.int (0), .int (0), .long (0), .int (0), .int (0), .int (0), .int (0), .int (0), .int (0), .long (0), .int (0), .null, .int (0)])) := g2
  refine qp_dup dX1_readCollected_3 rfl ?_
  refine qi_V dX1_readCollected_4 mX1_28 (c_cnInit G n4 g2) rfl rfl rfl rfl rfl rfl (fun h10 p11 => ?_)
  obtain ⟨ln, n15, z16, g12, g13, o14⟩ := p11
  have z17 : h ln = none := ((o3 ln (Ne.symm (ne_of_none g2 z16)))).symm.trans z16
  have g18 : h10 r = some (.inr (2, [.int (0), .ref sgn, .int (nI c), .int (pp)])) := (o14 _ (ne_of_cells g7 g2 (by simp)) (ne_of_none g7 z16)).trans g7
  have g19 : h10 sgn = some (.inl (0, 60, .inl (f))) := (o14 _ (ne_of_cells g8 g2 (by simp)) (ne_of_none g8 z16)).trans g8
  have g12 : h10 n = some (.inr (1, [.int (cnNew.cl), .int (cnNew.cc), .long (cnNew.cd), .int (cnNew.cap), .int (cnNew.cut), .int (cnNew.cutn), .int (cnNew.year), .int (cnNew.vol), .int (cnNew.voll), .long (cnNew.mark), .int (cnNew.markn), .ref ln, .int (cnNew.lc)])) := g12
  have g13 : h10 ln = some (.inl (0, 6, .inl (fun _ => 0))) := g13
  have nl := n15
  have hnl : n ≠ ln := ne_of_cells g12 g13 (by simp)
  have nn := n4
  refine qp_astore_n dX1_readCollected_7 (by decide) ?_
  refine QP.locsE (L1 := [some (.ref r), some (.ref n), none]) rfl ?_
  refine qp_aload_n dX1_readCollected_8 rfl ?_
  refine qp_iconst (v := 0) dX1_readCollected_9 (by decide) ?_
  refine qk_put dX1_readCollected_10 fX1_23 g18 nr rfl rfl rfl rfl rfl (fun h20 g21 o22 => ?_)
  have g23 : h20 sgn = some (.inl (0, 60, .inl (f))) := (o22 _ (ne_of_cells g19 g18 (by simp))).trans g19
  have g24 : h20 n = some (.inr (1, [.int (cnNew.cl), .int (cnNew.cc), .long (cnNew.cd), .int (cnNew.cap), .int (cnNew.cut), .int (cnNew.cutn), .int (cnNew.year), .int (cnNew.vol), .int (cnNew.voll), .long (cnNew.mark), .int (cnNew.markn), .ref ln, .int (cnNew.lc)])) := (o22 _ (ne_of_cells g12 g18 (by simp))).trans g12
  have g25 : h20 ln = some (.inl (0, 6, .inl (fun _ => 0))) := (o22 _ (ne_of_cells g13 g18 (by simp))).trans g13
  have g21 : h20 r = some (.inr (2, [.int (0), .ref sgn, .int (nI c), .int (0)])) := g21
  refine qp_aload_n dX1_readCollected_13 rfl ?_
  refine qp_aload_n dX1_readCollected_14 rfl ?_
  refine qv_Iq dX1_readCollected_15 mX1_29 (c_readClassD G (p := 0) (x := cnNew) (k := 0) ⟨nr, nn, nl, hc, by omega, rfl, by omega, g21, g23, g24, g25⟩) g21 rfl rfl rfl rfl rfl rfl rfl (fun h27 p28 => ?_)
  rcases hs29 : sClassD (Sg c f) (0) (0) cnNew (fun _ => 0) with w29 | ⟨q29, y29, f29⟩
  · rw [hs29] at p28
    obtain ⟨g30, o31⟩ := p28
    have g32 : h27 sgn = some (.inl (0, 60, .inl (f))) := (o31 _ (ne_of_cells g23 g21 (by simp)) (ne_of_cells g23 g24 (by simp)) (ne_of_cells g23 g25 (by simp))).trans g23
    have g30 : h27 r = some (.inr (2, [.int (0), .ref sgn, .int (nI c), .int (nI w29)])) := g30
    refine QP.topI (y := 0) rfl ?_
    refine qp_if_eq 48 dX1_readCollected_18 (by decide) (fun c_18 => ?_) (fun c_18 => absurd rfl c_18)
    refine qp_iconst (v := 0) dX1_readCollected_48 (by decide) ?_
    refine qp_istore_n dX1_readCollected_49 (by decide) ?_
    refine QP.locsE (L1 := [some (.ref r), some (.ref n), some (.int (0))]) rfl ?_
    refine qp_iload_n dX1_readCollected_50 rfl ?_
    refine qp_if_eq 58 dX1_readCollected_51 (by decide) (fun c_51 => ?_) (fun c_51 => absurd rfl c_51)
    refine qp_null dX1_readCollected_58 ?_
    have eR : sAllD (Sg c f) c = .inl w29 := by simp only [sAllD]; rw [hs29]; rfl
    exact qr_a (v := none) dX1_readCollected_59 rfl rfl rfl ⟨n, ln, nn, nl, z6, z17, hnl, by rw [eR]; rfl, by rw [eR]; exact ⟨g30, fun b hb1 hb2 hb3 => ((((o31 b hb1 hb2 hb3).trans (o22 b hb1)).trans (o14 b hb2 hb3)).trans (o3 b hb2))⟩⟩
  · rw [hs29] at p28
    obtain ⟨g33, g35, g36, o34⟩ := p28
    obtain ⟨ok37, b38, b39⟩ := sClassD_ok hs29
    have g40 : h27 sgn = some (.inl (0, 60, .inl (f))) := (o34 _ (ne_of_cells g23 g21 (by simp)) (ne_of_cells g23 g24 (by simp)) (ne_of_cells g23 g25 (by simp))).trans g23
    have g33 : h27 r = some (.inr (2, [.int (0), .ref sgn, .int (nI c), .int (nI q29)])) := g33
    have g35 : h27 n = some (.inr (1, [.int (y29.cl), .int (y29.cc), .long (y29.cd), .int (y29.cap), .int (y29.cut), .int (y29.cutn), .int (y29.year), .int (y29.vol), .int (y29.voll), .long (y29.mark), .int (y29.markn), .ref ln, .int (y29.lc)])) := g35
    have g36 : h27 ln = some (.inl (0, 6, .inl (f29))) := g36
    refine QP.topI (y := 1) rfl ?_
    refine qp_if_eq 48 dX1_readCollected_18 (by decide) (fun c_18 => absurd c_18 (by decide)) (fun c_18 => ?_)
    refine qp_aload_n dX1_readCollected_21 rfl ?_
    refine qv_Iq dX1_readCollected_22 mX1_33 (c_readSpace G nr hc (by omega) g33 g40) g33 rfl rfl rfl rfl rfl rfl rfl (fun h43 p44 => ?_)
    have le41 := sSpace_le (Sg c f) (q29)
    have ge41 := sSpace_ge (Sg c f) (q29)
    rcases hd41 : sSpace (Sg c f) (q29) with ⟨b41, q41⟩
    rw [hd41] at p44 le41 ge41
    dsimp only at le41 ge41
    obtain ⟨g45, o46⟩ := p44
    have g47 : h43 sgn = some (.inl (0, 60, .inl (f))) := (o46 _ (ne_of_cells g40 g33 (by simp))).trans g40
    have g48 : h43 n = some (.inr (1, [.int (y29.cl), .int (y29.cc), .long (y29.cd), .int (y29.cap), .int (y29.cut), .int (y29.cutn), .int (y29.year), .int (y29.vol), .int (y29.voll), .long (y29.mark), .int (y29.markn), .ref ln, .int (y29.lc)])) := (o46 _ (ne_of_cells g35 g33 (by simp))).trans g35
    have g49 : h43 ln = some (.inl (0, 6, .inl (f29))) := (o46 _ (ne_of_cells g36 g33 (by simp))).trans g36
    have g45 : h43 r = some (.inr (2, [.int (0), .ref sgn, .int (nI c), .int (nI q41)])) := g45
    refine QP.topI (y := bI b41) rfl ?_
    refine qp_if_eq 48 dX1_readCollected_25 (by decide) (fun c_25 => ?_) (fun c_25 => ?_)
    · rw [bI_0] at c_25
      refine qp_iconst (v := 0) dX1_readCollected_48 (by decide) ?_
      refine qp_istore_n dX1_readCollected_49 (by decide) ?_
      refine QP.locsE (L1 := [some (.ref r), some (.ref n), some (.int (0))]) rfl ?_
      refine qp_iload_n dX1_readCollected_50 rfl ?_
      refine qp_if_eq 58 dX1_readCollected_51 (by decide) (fun c_51 => ?_) (fun c_51 => absurd rfl c_51)
      refine qp_null dX1_readCollected_58 ?_
      have eR : sAllD (Sg c f) c = .inl q41 := by simp only [sAllD]; rw [hs29]; simp only [oThen]; rw [hd41]; dsimp only; rw [if_pos c_25]
      exact qr_a (v := none) dX1_readCollected_59 rfl rfl rfl ⟨n, ln, nn, nl, z6, z17, hnl, by rw [eR]; rfl, by rw [eR]; exact ⟨g45, fun b hb1 hb2 hb3 => (((((o46 b hb1).trans (o34 b hb1 hb2 hb3)).trans (o22 b hb1)).trans (o14 b hb2 hb3)).trans (o3 b hb2))⟩⟩
    · rw [bI_n0] at c_25
      refine qp_aload_n dX1_readCollected_28 rfl ?_
      refine qp_aload_n dX1_readCollected_29 rfl ?_
      refine qv_Iq dX1_readCollected_30 mX1_37 (c_readCutter G (p := q41) (x := y29) (k := 1) ⟨nr, nn, nl, hc, by omega, ok37, by omega, g45, g47, g48, g49⟩) g45 rfl rfl rfl rfl rfl rfl rfl (fun h51 p52 => ?_)
      rcases hs53 : sCutter (Sg c f) (q41) (1) y29 (f29) with w53 | ⟨q53, y53, f53⟩
      · rw [hs53] at p52
        obtain ⟨g54, o55⟩ := p52
        have g56 : h51 sgn = some (.inl (0, 60, .inl (f))) := (o55 _ (ne_of_cells g47 g45 (by simp)) (ne_of_cells g47 g48 (by simp)) (ne_of_cells g47 g49 (by simp))).trans g47
        have g54 : h51 r = some (.inr (2, [.int (0), .ref sgn, .int (nI c), .int (nI w53)])) := g54
        refine QP.topI (y := 0) rfl ?_
        refine qp_if_eq 48 dX1_readCollected_33 (by decide) (fun c_33 => ?_) (fun c_33 => absurd rfl c_33)
        refine qp_iconst (v := 0) dX1_readCollected_48 (by decide) ?_
        refine qp_istore_n dX1_readCollected_49 (by decide) ?_
        refine QP.locsE (L1 := [some (.ref r), some (.ref n), some (.int (0))]) rfl ?_
        refine qp_iload_n dX1_readCollected_50 rfl ?_
        refine qp_if_eq 58 dX1_readCollected_51 (by decide) (fun c_51 => ?_) (fun c_51 => absurd rfl c_51)
        refine qp_null dX1_readCollected_58 ?_
        have eR : sAllD (Sg c f) c = .inl w53 := by simp only [sAllD]; rw [hs29]; simp only [oThen]; rw [hd41]; dsimp only; rw [if_neg (by rw [c_25]; decide), hs53]
        exact qr_a (v := none) dX1_readCollected_59 rfl rfl rfl ⟨n, ln, nn, nl, z6, z17, hnl, by rw [eR]; rfl, by rw [eR]; exact ⟨g54, fun b hb1 hb2 hb3 => ((((((o55 b hb1 hb2 hb3).trans (o46 b hb1)).trans (o34 b hb1 hb2 hb3)).trans (o22 b hb1)).trans (o14 b hb2 hb3)).trans (o3 b hb2))⟩⟩
      · rw [hs53] at p52
        obtain ⟨g57, g59, g60, o58⟩ := p52
        obtain ⟨ok61, b62, b63⟩ := sCutter_ok hs53
        have g64 : h51 sgn = some (.inl (0, 60, .inl (f))) := (o58 _ (ne_of_cells g47 g45 (by simp)) (ne_of_cells g47 g48 (by simp)) (ne_of_cells g47 g49 (by simp))).trans g47
        have g57 : h51 r = some (.inr (2, [.int (0), .ref sgn, .int (nI c), .int (nI q53)])) := g57
        have g59 : h51 n = some (.inr (1, [.int (y53.cl), .int (y53.cc), .long (y53.cd), .int (y53.cap), .int (y53.cut), .int (y53.cutn), .int (y53.year), .int (y53.vol), .int (y53.voll), .long (y53.mark), .int (y53.markn), .ref ln, .int (y53.lc)])) := g59
        have g60 : h51 ln = some (.inl (0, 6, .inl (f53))) := g60
        refine QP.topI (y := 1) rfl ?_
        refine qp_if_eq 48 dX1_readCollected_33 (by decide) (fun c_33 => absurd c_33 (by decide)) (fun c_33 => ?_)
        refine qp_aload_n dX1_readCollected_36 rfl ?_
        refine qp_aload_n dX1_readCollected_37 rfl ?_
        refine qv_Iq dX1_readCollected_38 mX1_40 (c_readRest G (p := q53) (x := y53) (k := 2) (by omega) (by omega) ⟨nr, nn, nl, hc, by omega, ok61, by omega, g57, g64, g59, g60⟩) g57 rfl rfl rfl rfl rfl rfl rfl (fun h66 p67 => ?_)
        rcases hs68 : sRest (Sg c f) c 4 1 (q53) (2) y53 (f53) with w68 | ⟨q68, y68, f68⟩
        · rw [hs68] at p67
          obtain ⟨g69, o70⟩ := p67
          have g71 : h66 sgn = some (.inl (0, 60, .inl (f))) := (o70 _ (ne_of_cells g64 g57 (by simp)) (ne_of_cells g64 g59 (by simp)) (ne_of_cells g64 g60 (by simp))).trans g64
          have g69 : h66 r = some (.inr (2, [.int (0), .ref sgn, .int (nI c), .int (nI w68)])) := g69
          refine QP.topI (y := 0) rfl ?_
          refine qp_if_eq 48 dX1_readCollected_41 (by decide) (fun c_41 => ?_) (fun c_41 => absurd rfl c_41)
          refine qp_iconst (v := 0) dX1_readCollected_48 (by decide) ?_
          refine qp_istore_n dX1_readCollected_49 (by decide) ?_
          refine QP.locsE (L1 := [some (.ref r), some (.ref n), some (.int (0))]) rfl ?_
          refine qp_iload_n dX1_readCollected_50 rfl ?_
          refine qp_if_eq 58 dX1_readCollected_51 (by decide) (fun c_51 => ?_) (fun c_51 => absurd rfl c_51)
          refine qp_null dX1_readCollected_58 ?_
          have eR : sAllD (Sg c f) c = .inl w68 := by simp only [sAllD]; rw [hs29]; simp only [oThen]; rw [hd41]; dsimp only; rw [if_neg (by rw [c_25]; decide), hs53]; dsimp only; rw [hs68]
          exact qr_a (v := none) dX1_readCollected_59 rfl rfl rfl ⟨n, ln, nn, nl, z6, z17, hnl, by rw [eR]; rfl, by rw [eR]; exact ⟨g69, fun b hb1 hb2 hb3 => (((((((o70 b hb1 hb2 hb3).trans (o58 b hb1 hb2 hb3)).trans (o46 b hb1)).trans (o34 b hb1 hb2 hb3)).trans (o22 b hb1)).trans (o14 b hb2 hb3)).trans (o3 b hb2))⟩⟩
        · rw [hs68] at p67
          obtain ⟨g72, g74, g75, o73⟩ := p67
          obtain ⟨ok76, b77, b78⟩ := sRest_all hs68
          have g79 : h66 sgn = some (.inl (0, 60, .inl (f))) := (o73 _ (ne_of_cells g64 g57 (by simp)) (ne_of_cells g64 g59 (by simp)) (ne_of_cells g64 g60 (by simp))).trans g64
          have g72 : h66 r = some (.inr (2, [.int (0), .ref sgn, .int (nI c), .int (nI q68)])) := g72
          have g74 : h66 n = some (.inr (1, [.int (y68.cl), .int (y68.cc), .long (y68.cd), .int (y68.cap), .int (y68.cut), .int (y68.cutn), .int (y68.year), .int (y68.vol), .int (y68.voll), .long (y68.mark), .int (y68.markn), .ref ln, .int (y68.lc)])) := g74
          have g75 : h66 ln = some (.inl (0, 6, .inl (f68))) := g75
          refine QP.topI (y := 1) rfl ?_
          refine qp_if_eq 48 dX1_readCollected_41 (by decide) (fun c_41 => absurd c_41 (by decide)) (fun c_41 => ?_)
          refine qp_iconst (v := 1) dX1_readCollected_44 (by decide) ?_
          refine qp_goto 49 dX1_readCollected_45 (by decide) ?_
          refine qp_istore_n dX1_readCollected_49 (by decide) ?_
          refine QP.locsE (L1 := [some (.ref r), some (.ref n), some (.int (1))]) rfl ?_
          refine qp_iload_n dX1_readCollected_50 rfl ?_
          refine qp_if_eq 58 dX1_readCollected_51 (by decide) (fun c_51 => absurd c_51 (by decide)) (fun c_51 => ?_)
          refine qp_aload_n dX1_readCollected_54 rfl ?_
          refine qp_goto 59 dX1_readCollected_55 (by decide) ?_
          have eR : sAllD (Sg c f) c = .inr (q68, y68, f68) := by simp only [sAllD]; rw [hs29]; simp only [oThen]; rw [hd41]; dsimp only; rw [if_neg (by rw [c_25]; decide), hs53]; dsimp only; rw [hs68]
          exact qr_a (v := some n) dX1_readCollected_59 rfl rfl rfl ⟨n, ln, nn, nl, z6, z17, hnl, by rw [eR]; rfl, by rw [eR]; exact ⟨g72, g74, g75, fun b hb1 hb2 hb3 => (((((((o73 b hb1 hb2 hb3).trans (o58 b hb1 hb2 hb3)).trans (o46 b hb1)).trans (o34 b hb1 hb2 hb3)).trans (o22 b hb1)).trans (o14 b hb2 hb3)).trans (o3 b hb2))⟩⟩

set_option maxHeartbeats 4000000 in
set_option maxRecDepth 100000 in
theorem c_readCollectedL (G : qG) {h : qH} {r sgn c : Nat} {pp : Int32} {f : Nat → Int32} (nr : G.2.1 ≤ r) (hc : c ≤ 60) (gr : h r = some (rdCell 1 sgn (nI c) pp)) (gs : h sgn = some (sgCell f)) : qMet G M_X1_readCollected [.ref r] h (qA (fun v h1 => ∃ n ln : Nat, G.2.1 ≤ n ∧ G.2.1 ≤ ln ∧ h n = none ∧ h ln = none ∧ n ≠ ln ∧ v = (if oOk (sAllL (Sg c f) c) = true then some n else none) ∧ RdOut h h1 1 r sgn c n ln (sAllL (Sg c f) c))) := by
  refine qMet.of (by decide) (Nat.le_of_ble_eq_true rfl) rfl ?_
  refine QP.locsE (L1 := [some (.ref r), none, none]) rfl ?_
  refine qk_new dX1_readCollected_0 nX1_26 rfl rfl rfl (fun n h1 n4 z5 g2 o3 => ?_)
  have z6 : h n = none := z5
  have g7 : h1 r = some (.inr (2, [.int (1), .ref sgn, .int (nI c), .int (pp)])) := (o3 _ (ne_of_none gr z5)).trans gr
  have g8 : h1 sgn = some (.inl (0, 60, .inl (f))) := (o3 _ (ne_of_none gs z5)).trans gs
  have g2 : h1 n = some (.inr (1, [.int (0), .int (0), .long (0), .int (0), .int (0), .int (0), .int (0), .int (0), .int (0), .long (0), .int (0), .null, .int (0)])) := g2
  refine qp_dup dX1_readCollected_3 rfl ?_
  refine qi_V dX1_readCollected_4 mX1_28 (c_cnInit G n4 g2) rfl rfl rfl rfl rfl rfl (fun h10 p11 => ?_)
  obtain ⟨ln, n15, z16, g12, g13, o14⟩ := p11
  have z17 : h ln = none := ((o3 ln (Ne.symm (ne_of_none g2 z16)))).symm.trans z16
  have g18 : h10 r = some (.inr (2, [.int (1), .ref sgn, .int (nI c), .int (pp)])) := (o14 _ (ne_of_cells g7 g2 (by simp)) (ne_of_none g7 z16)).trans g7
  have g19 : h10 sgn = some (.inl (0, 60, .inl (f))) := (o14 _ (ne_of_cells g8 g2 (by simp)) (ne_of_none g8 z16)).trans g8
  have g12 : h10 n = some (.inr (1, [.int (cnNew.cl), .int (cnNew.cc), .long (cnNew.cd), .int (cnNew.cap), .int (cnNew.cut), .int (cnNew.cutn), .int (cnNew.year), .int (cnNew.vol), .int (cnNew.voll), .long (cnNew.mark), .int (cnNew.markn), .ref ln, .int (cnNew.lc)])) := g12
  have g13 : h10 ln = some (.inl (0, 6, .inl (fun _ => 0))) := g13
  have nl := n15
  have hnl : n ≠ ln := ne_of_cells g12 g13 (by simp)
  have nn := n4
  refine qp_astore_n dX1_readCollected_7 (by decide) ?_
  refine QP.locsE (L1 := [some (.ref r), some (.ref n), none]) rfl ?_
  refine qp_aload_n dX1_readCollected_8 rfl ?_
  refine qp_iconst (v := 0) dX1_readCollected_9 (by decide) ?_
  refine qk_put dX1_readCollected_10 fX1_23 g18 nr rfl rfl rfl rfl rfl (fun h20 g21 o22 => ?_)
  have g23 : h20 sgn = some (.inl (0, 60, .inl (f))) := (o22 _ (ne_of_cells g19 g18 (by simp))).trans g19
  have g24 : h20 n = some (.inr (1, [.int (cnNew.cl), .int (cnNew.cc), .long (cnNew.cd), .int (cnNew.cap), .int (cnNew.cut), .int (cnNew.cutn), .int (cnNew.year), .int (cnNew.vol), .int (cnNew.voll), .long (cnNew.mark), .int (cnNew.markn), .ref ln, .int (cnNew.lc)])) := (o22 _ (ne_of_cells g12 g18 (by simp))).trans g12
  have g25 : h20 ln = some (.inl (0, 6, .inl (fun _ => 0))) := (o22 _ (ne_of_cells g13 g18 (by simp))).trans g13
  have g21 : h20 r = some (.inr (2, [.int (1), .ref sgn, .int (nI c), .int (0)])) := g21
  refine qp_aload_n dX1_readCollected_13 rfl ?_
  refine qp_aload_n dX1_readCollected_14 rfl ?_
  refine qv_Iq dX1_readCollected_15 mX1_29 (c_readClassL G (p := 0) (x := cnNew) (k := 0) (by omega) ⟨nr, nn, nl, hc, by omega, rfl, by omega, g21, g23, g24, g25⟩) g21 rfl rfl rfl rfl rfl rfl rfl (fun h27 p28 => ?_)
  rcases hs29 : sClassL (Sg c f) (0) (0) cnNew (fun _ => 0) with w29 | ⟨q29, y29, f29⟩
  · rw [hs29] at p28
    obtain ⟨g30, o31⟩ := p28
    have g32 : h27 sgn = some (.inl (0, 60, .inl (f))) := (o31 _ (ne_of_cells g23 g21 (by simp)) (ne_of_cells g23 g24 (by simp)) (ne_of_cells g23 g25 (by simp))).trans g23
    have g30 : h27 r = some (.inr (2, [.int (1), .ref sgn, .int (nI c), .int (nI w29)])) := g30
    refine QP.topI (y := 0) rfl ?_
    refine qp_if_eq 48 dX1_readCollected_18 (by decide) (fun c_18 => ?_) (fun c_18 => absurd rfl c_18)
    refine qp_iconst (v := 0) dX1_readCollected_48 (by decide) ?_
    refine qp_istore_n dX1_readCollected_49 (by decide) ?_
    refine QP.locsE (L1 := [some (.ref r), some (.ref n), some (.int (0))]) rfl ?_
    refine qp_iload_n dX1_readCollected_50 rfl ?_
    refine qp_if_eq 58 dX1_readCollected_51 (by decide) (fun c_51 => ?_) (fun c_51 => absurd rfl c_51)
    refine qp_null dX1_readCollected_58 ?_
    have eR : sAllL (Sg c f) c = .inl w29 := by simp only [sAllL]; rw [hs29]; rfl
    exact qr_a (v := none) dX1_readCollected_59 rfl rfl rfl ⟨n, ln, nn, nl, z6, z17, hnl, by rw [eR]; rfl, by rw [eR]; exact ⟨g30, fun b hb1 hb2 hb3 => ((((o31 b hb1 hb2 hb3).trans (o22 b hb1)).trans (o14 b hb2 hb3)).trans (o3 b hb2))⟩⟩
  · rw [hs29] at p28
    obtain ⟨g33, g35, g36, o34⟩ := p28
    obtain ⟨ok37, b38, b39⟩ := sClassL_ok hs29
    have g40 : h27 sgn = some (.inl (0, 60, .inl (f))) := (o34 _ (ne_of_cells g23 g21 (by simp)) (ne_of_cells g23 g24 (by simp)) (ne_of_cells g23 g25 (by simp))).trans g23
    have g33 : h27 r = some (.inr (2, [.int (1), .ref sgn, .int (nI c), .int (nI q29)])) := g33
    have g35 : h27 n = some (.inr (1, [.int (y29.cl), .int (y29.cc), .long (y29.cd), .int (y29.cap), .int (y29.cut), .int (y29.cutn), .int (y29.year), .int (y29.vol), .int (y29.voll), .long (y29.mark), .int (y29.markn), .ref ln, .int (y29.lc)])) := g35
    have g36 : h27 ln = some (.inl (0, 6, .inl (f29))) := g36
    refine QP.topI (y := 1) rfl ?_
    refine qp_if_eq 48 dX1_readCollected_18 (by decide) (fun c_18 => absurd c_18 (by decide)) (fun c_18 => ?_)
    refine qp_aload_n dX1_readCollected_21 rfl ?_
    refine qv_Iq dX1_readCollected_22 mX1_33 (c_readSpace G nr hc (by omega) g33 g40) g33 rfl rfl rfl rfl rfl rfl rfl (fun h43 p44 => ?_)
    have le41 := sSpace_le (Sg c f) (q29)
    have ge41 := sSpace_ge (Sg c f) (q29)
    rcases hd41 : sSpace (Sg c f) (q29) with ⟨b41, q41⟩
    rw [hd41] at p44 le41 ge41
    dsimp only at le41 ge41
    obtain ⟨g45, o46⟩ := p44
    have g47 : h43 sgn = some (.inl (0, 60, .inl (f))) := (o46 _ (ne_of_cells g40 g33 (by simp))).trans g40
    have g48 : h43 n = some (.inr (1, [.int (y29.cl), .int (y29.cc), .long (y29.cd), .int (y29.cap), .int (y29.cut), .int (y29.cutn), .int (y29.year), .int (y29.vol), .int (y29.voll), .long (y29.mark), .int (y29.markn), .ref ln, .int (y29.lc)])) := (o46 _ (ne_of_cells g35 g33 (by simp))).trans g35
    have g49 : h43 ln = some (.inl (0, 6, .inl (f29))) := (o46 _ (ne_of_cells g36 g33 (by simp))).trans g36
    have g45 : h43 r = some (.inr (2, [.int (1), .ref sgn, .int (nI c), .int (nI q41)])) := g45
    refine QP.topI (y := bI b41) rfl ?_
    refine qp_if_eq 48 dX1_readCollected_25 (by decide) (fun c_25 => ?_) (fun c_25 => ?_)
    · rw [bI_0] at c_25
      refine qp_iconst (v := 0) dX1_readCollected_48 (by decide) ?_
      refine qp_istore_n dX1_readCollected_49 (by decide) ?_
      refine QP.locsE (L1 := [some (.ref r), some (.ref n), some (.int (0))]) rfl ?_
      refine qp_iload_n dX1_readCollected_50 rfl ?_
      refine qp_if_eq 58 dX1_readCollected_51 (by decide) (fun c_51 => ?_) (fun c_51 => absurd rfl c_51)
      refine qp_null dX1_readCollected_58 ?_
      have eR : sAllL (Sg c f) c = .inl q41 := by simp only [sAllL]; rw [hs29]; simp only [oThen]; rw [hd41]; dsimp only; rw [if_pos c_25]
      exact qr_a (v := none) dX1_readCollected_59 rfl rfl rfl ⟨n, ln, nn, nl, z6, z17, hnl, by rw [eR]; rfl, by rw [eR]; exact ⟨g45, fun b hb1 hb2 hb3 => (((((o46 b hb1).trans (o34 b hb1 hb2 hb3)).trans (o22 b hb1)).trans (o14 b hb2 hb3)).trans (o3 b hb2))⟩⟩
    · rw [bI_n0] at c_25
      refine qp_aload_n dX1_readCollected_28 rfl ?_
      refine qp_aload_n dX1_readCollected_29 rfl ?_
      refine qv_Iq dX1_readCollected_30 mX1_37 (c_readCutter G (p := q41) (x := y29) (k := 2) ⟨nr, nn, nl, hc, by omega, ok37, by omega, g45, g47, g48, g49⟩) g45 rfl rfl rfl rfl rfl rfl rfl (fun h51 p52 => ?_)
      rcases hs53 : sCutter (Sg c f) (q41) (2) y29 (f29) with w53 | ⟨q53, y53, f53⟩
      · rw [hs53] at p52
        obtain ⟨g54, o55⟩ := p52
        have g56 : h51 sgn = some (.inl (0, 60, .inl (f))) := (o55 _ (ne_of_cells g47 g45 (by simp)) (ne_of_cells g47 g48 (by simp)) (ne_of_cells g47 g49 (by simp))).trans g47
        have g54 : h51 r = some (.inr (2, [.int (1), .ref sgn, .int (nI c), .int (nI w53)])) := g54
        refine QP.topI (y := 0) rfl ?_
        refine qp_if_eq 48 dX1_readCollected_33 (by decide) (fun c_33 => ?_) (fun c_33 => absurd rfl c_33)
        refine qp_iconst (v := 0) dX1_readCollected_48 (by decide) ?_
        refine qp_istore_n dX1_readCollected_49 (by decide) ?_
        refine QP.locsE (L1 := [some (.ref r), some (.ref n), some (.int (0))]) rfl ?_
        refine qp_iload_n dX1_readCollected_50 rfl ?_
        refine qp_if_eq 58 dX1_readCollected_51 (by decide) (fun c_51 => ?_) (fun c_51 => absurd rfl c_51)
        refine qp_null dX1_readCollected_58 ?_
        have eR : sAllL (Sg c f) c = .inl w53 := by simp only [sAllL]; rw [hs29]; simp only [oThen]; rw [hd41]; dsimp only; rw [if_neg (by rw [c_25]; decide), hs53]
        exact qr_a (v := none) dX1_readCollected_59 rfl rfl rfl ⟨n, ln, nn, nl, z6, z17, hnl, by rw [eR]; rfl, by rw [eR]; exact ⟨g54, fun b hb1 hb2 hb3 => ((((((o55 b hb1 hb2 hb3).trans (o46 b hb1)).trans (o34 b hb1 hb2 hb3)).trans (o22 b hb1)).trans (o14 b hb2 hb3)).trans (o3 b hb2))⟩⟩
      · rw [hs53] at p52
        obtain ⟨g57, g59, g60, o58⟩ := p52
        obtain ⟨ok61, b62, b63⟩ := sCutter_ok hs53
        have g64 : h51 sgn = some (.inl (0, 60, .inl (f))) := (o58 _ (ne_of_cells g47 g45 (by simp)) (ne_of_cells g47 g48 (by simp)) (ne_of_cells g47 g49 (by simp))).trans g47
        have g57 : h51 r = some (.inr (2, [.int (1), .ref sgn, .int (nI c), .int (nI q53)])) := g57
        have g59 : h51 n = some (.inr (1, [.int (y53.cl), .int (y53.cc), .long (y53.cd), .int (y53.cap), .int (y53.cut), .int (y53.cutn), .int (y53.year), .int (y53.vol), .int (y53.voll), .long (y53.mark), .int (y53.markn), .ref ln, .int (y53.lc)])) := g59
        have g60 : h51 ln = some (.inl (0, 6, .inl (f53))) := g60
        refine QP.topI (y := 1) rfl ?_
        refine qp_if_eq 48 dX1_readCollected_33 (by decide) (fun c_33 => absurd c_33 (by decide)) (fun c_33 => ?_)
        refine qp_aload_n dX1_readCollected_36 rfl ?_
        refine qp_aload_n dX1_readCollected_37 rfl ?_
        refine qv_Iq dX1_readCollected_38 mX1_40 (c_readRest G (p := q53) (x := y53) (k := 3) (by omega) (by omega) ⟨nr, nn, nl, hc, by omega, ok61, by omega, g57, g64, g59, g60⟩) g57 rfl rfl rfl rfl rfl rfl rfl (fun h66 p67 => ?_)
        rcases hs68 : sRest (Sg c f) c 4 1 (q53) (3) y53 (f53) with w68 | ⟨q68, y68, f68⟩
        · rw [hs68] at p67
          obtain ⟨g69, o70⟩ := p67
          have g71 : h66 sgn = some (.inl (0, 60, .inl (f))) := (o70 _ (ne_of_cells g64 g57 (by simp)) (ne_of_cells g64 g59 (by simp)) (ne_of_cells g64 g60 (by simp))).trans g64
          have g69 : h66 r = some (.inr (2, [.int (1), .ref sgn, .int (nI c), .int (nI w68)])) := g69
          refine QP.topI (y := 0) rfl ?_
          refine qp_if_eq 48 dX1_readCollected_41 (by decide) (fun c_41 => ?_) (fun c_41 => absurd rfl c_41)
          refine qp_iconst (v := 0) dX1_readCollected_48 (by decide) ?_
          refine qp_istore_n dX1_readCollected_49 (by decide) ?_
          refine QP.locsE (L1 := [some (.ref r), some (.ref n), some (.int (0))]) rfl ?_
          refine qp_iload_n dX1_readCollected_50 rfl ?_
          refine qp_if_eq 58 dX1_readCollected_51 (by decide) (fun c_51 => ?_) (fun c_51 => absurd rfl c_51)
          refine qp_null dX1_readCollected_58 ?_
          have eR : sAllL (Sg c f) c = .inl w68 := by simp only [sAllL]; rw [hs29]; simp only [oThen]; rw [hd41]; dsimp only; rw [if_neg (by rw [c_25]; decide), hs53]; dsimp only; rw [hs68]
          exact qr_a (v := none) dX1_readCollected_59 rfl rfl rfl ⟨n, ln, nn, nl, z6, z17, hnl, by rw [eR]; rfl, by rw [eR]; exact ⟨g69, fun b hb1 hb2 hb3 => (((((((o70 b hb1 hb2 hb3).trans (o58 b hb1 hb2 hb3)).trans (o46 b hb1)).trans (o34 b hb1 hb2 hb3)).trans (o22 b hb1)).trans (o14 b hb2 hb3)).trans (o3 b hb2))⟩⟩
        · rw [hs68] at p67
          obtain ⟨g72, g74, g75, o73⟩ := p67
          obtain ⟨ok76, b77, b78⟩ := sRest_all hs68
          have g79 : h66 sgn = some (.inl (0, 60, .inl (f))) := (o73 _ (ne_of_cells g64 g57 (by simp)) (ne_of_cells g64 g59 (by simp)) (ne_of_cells g64 g60 (by simp))).trans g64
          have g72 : h66 r = some (.inr (2, [.int (1), .ref sgn, .int (nI c), .int (nI q68)])) := g72
          have g74 : h66 n = some (.inr (1, [.int (y68.cl), .int (y68.cc), .long (y68.cd), .int (y68.cap), .int (y68.cut), .int (y68.cutn), .int (y68.year), .int (y68.vol), .int (y68.voll), .long (y68.mark), .int (y68.markn), .ref ln, .int (y68.lc)])) := g74
          have g75 : h66 ln = some (.inl (0, 6, .inl (f68))) := g75
          refine QP.topI (y := 1) rfl ?_
          refine qp_if_eq 48 dX1_readCollected_41 (by decide) (fun c_41 => absurd c_41 (by decide)) (fun c_41 => ?_)
          refine qp_iconst (v := 1) dX1_readCollected_44 (by decide) ?_
          refine qp_goto 49 dX1_readCollected_45 (by decide) ?_
          refine qp_istore_n dX1_readCollected_49 (by decide) ?_
          refine QP.locsE (L1 := [some (.ref r), some (.ref n), some (.int (1))]) rfl ?_
          refine qp_iload_n dX1_readCollected_50 rfl ?_
          refine qp_if_eq 58 dX1_readCollected_51 (by decide) (fun c_51 => absurd c_51 (by decide)) (fun c_51 => ?_)
          refine qp_aload_n dX1_readCollected_54 rfl ?_
          refine qp_goto 59 dX1_readCollected_55 (by decide) ?_
          have eR : sAllL (Sg c f) c = .inr (q68, y68, f68) := by simp only [sAllL]; rw [hs29]; simp only [oThen]; rw [hd41]; dsimp only; rw [if_neg (by rw [c_25]; decide), hs53]; dsimp only; rw [hs68]
          exact qr_a (v := some n) dX1_readCollected_59 rfl rfl rfl ⟨n, ln, nn, nl, z6, z17, hnl, by rw [eR]; rfl, by rw [eR]; exact ⟨g72, g74, g75, fun b hb1 hb2 hb3 => (((((((o73 b hb1 hb2 hb3).trans (o58 b hb1 hb2 hb3)).trans (o46 b hb1)).trans (o34 b hb1 hb2 hb3)).trans (o22 b hb1)).trans (o14 b hb2 hb3)).trans (o3 b hb2))⟩⟩
end
section
abbrev csCell (r k0 : Nat) (lat tol : Option Nat) : qE := .inr (4, [.ref r, .ref k0, va_rf lat, va_rf tol])
set_option maxHeartbeats 4000000 in
set_option maxRecDepth 100000 in
theorem c_letterN (G : qG) {h : qH} {o0 r k0 : Nat} {tol : Option Nat} (i : Int32) (go : h o0 = some (csCell r k0 none tol)) : qMet G M_X3_letter [.ref o0, .int i] h (qI (fun v h1 => h1 = h ∧ v = 0)) := by
  refine qMet.of (by decide) (Nat.le_of_ble_eq_true rfl) rfl ?_
  refine QP.locsE (L1 := [some (.ref o0), some (.int (i))]) rfl ?_
  refine qp_aload_n dX3_letter_0 rfl ?_
  refine qp_getf dX3_letter_1 fX3_25 go rfl ?_
  refine qp_ifnonnullN dX3_letter_4 ?_
  refine qp_iconst (v := 0) dX3_letter_7 (by decide) ?_
  refine qp_goto 19 dX3_letter_8 (by decide) ?_
  exact qr_i dX3_letter_19 rfl rfl rfl ⟨rfl, rfl⟩
set_option maxHeartbeats 4000000 in
set_option maxRecDepth 100000 in
theorem c_letter (G : qG) {h : qH} {o0 r k0 a ln : Nat} {tol : Option Nat} {x : CNv} (i : Int32) (go : h o0 = some (csCell r k0 (some a) tol)) (ga : h a = some (cnCell x ln)) : qMet G M_X3_letter [.ref o0, .int i] h (qI (fun v h1 => h1 = h ∧ v = sCapitalAt x i)) := by
  refine qMet.of (by decide) (Nat.le_of_ble_eq_true rfl) rfl ?_
  refine QP.locsE (L1 := [some (.ref o0), some (.int (i))]) rfl ?_
  refine qp_aload_n dX3_letter_0 rfl ?_
  refine qp_getf dX3_letter_1 fX3_25 go rfl ?_
  refine qp_ifnonnull 11 dX3_letter_4 (by decide) ?_
  refine qp_aload_n dX3_letter_11 rfl ?_
  refine qp_getf dX3_letter_12 fX3_25 go rfl ?_
  refine qp_iload_n dX3_letter_15 rfl ?_
  refine qv_Ip dX3_letter_16 mX3_76 (c_capitalAt G (i) ga) ga rfl rfl rfl rfl rfl rfl rfl ?_
  exact qr_i dX3_letter_19 rfl rfl rfl ⟨rfl, rfl⟩
set_option maxHeartbeats 4000000 in
set_option maxRecDepth 100000 in
theorem c_spineN (G : qG) {h : qH} {o0 r k0 : Nat} {tol : Option Nat} (i : Int32) (go : h o0 = some (csCell r k0 none tol)) : qMet G M_X3_spine [.ref o0, .int i] h (qI (fun v h1 => h1 = h ∧ v = -1)) := by
  refine qMet.of (by decide) (Nat.le_of_ble_eq_true rfl) rfl ?_
  refine QP.locsE (L1 := [some (.ref o0), some (.int (i))]) rfl ?_
  refine qp_aload_n dX3_spine_0 rfl ?_
  refine qp_getf dX3_spine_1 fX3_25 go rfl ?_
  refine qp_ifnonnullN dX3_spine_4 ?_
  refine qp_iconst (v := -1) dX3_spine_7 (by decide) ?_
  refine qp_goto 19 dX3_spine_8 (by decide) ?_
  exact qr_i dX3_spine_19 rfl rfl rfl ⟨rfl, rfl⟩
set_option maxHeartbeats 4000000 in
set_option maxRecDepth 100000 in
theorem c_spine (G : qG) {h : qH} {o0 r k0 a ln : Nat} {tol : Option Nat} {x : CNv} {f : Nat → Int32} (i : Int32) (go : h o0 = some (csCell r k0 (some a) tol)) (ga : h a = some (cnCell x ln)) (gl : h ln = some (lnCell f)) : qMet G M_X3_spine [.ref o0, .int i] h (qI (fun v h1 => h1 = h ∧ v = sLineAt x.lc f i)) := by
  refine qMet.of (by decide) (Nat.le_of_ble_eq_true rfl) rfl ?_
  refine QP.locsE (L1 := [some (.ref o0), some (.int (i))]) rfl ?_
  refine qp_aload_n dX3_spine_0 rfl ?_
  refine qp_getf dX3_spine_1 fX3_25 go rfl ?_
  refine qp_ifnonnull 11 dX3_spine_4 (by decide) ?_
  refine qp_aload_n dX3_spine_11 rfl ?_
  refine qp_getf dX3_spine_12 fX3_25 go rfl ?_
  refine qp_iload_n dX3_spine_15 rfl ?_
  refine qv_Ip dX3_spine_16 mX3_113 (c_lineAt G (i) ga gl) ga rfl rfl rfl rfl rfl rfl rfl ?_
  exact qr_i dX3_spine_19 rfl rfl rfl ⟨rfl, rfl⟩
set_option maxHeartbeats 4000000 in
set_option maxRecDepth 100000 in
theorem c_shelf (G : qG) {h : qH} {o0 r k0 nb rc c : Nat} {lat tol : Option Nat} {R : Nat → Int32} (p : Int32) (go : h o0 = some (csCell r k0 lat tol)) (hc : c ≤ 60) (gk : h k0 = some (shCell nb rc (nI c))) (gr : h rc = some (rcCell R)) : qMet G M_X3_shelf [.ref o0, .int p] h (qI (fun v h1 => h1 = h ∧ v = sRecAt c R p)) := by
  refine qMet.of (by decide) (Nat.le_of_ble_eq_true rfl) rfl ?_
  refine QP.locsE (L1 := [some (.ref o0), some (.int (p))]) rfl ?_
  refine qp_aload_n dX3_shelf_0 rfl ?_
  refine qp_getf dX3_shelf_1 fX3_21 go rfl ?_
  refine qp_iload_n dX3_shelf_4 rfl ?_
  refine qv_Ip dX3_shelf_5 mX3_92 (c_recordAt G (p) hc gk gr) gk rfl rfl rfl rfl rfl rfl rfl ?_
  exact qr_i dX3_shelf_8 rfl rfl rfl ⟨rfl, rfl⟩
set_option maxHeartbeats 4000000 in
set_option maxRecDepth 100000 in
theorem c_beforeN (G : qG) {h : qH} {o0 r k0 : Nat} {tol : Option Nat} (go : h o0 = some (csCell r k0 none tol)) : qMet G M_X3_before [.ref o0] h (qI (fun v h1 => h1 = h ∧ v = -1)) := by
  refine qMet.of (by decide) (Nat.le_of_ble_eq_true rfl) rfl ?_
  refine QP.locsE (L1 := [some (.ref o0)]) rfl ?_
  refine qp_aload_n dX3_before_0 rfl ?_
  refine qp_getf dX3_before_1 fX3_25 go rfl ?_
  refine qp_ifnonnullN dX3_before_4 ?_
  refine qp_iconst (v := -1) dX3_before_7 (by decide) ?_
  refine qp_goto 22 dX3_before_8 (by decide) ?_
  exact qr_i dX3_before_22 rfl rfl rfl ⟨rfl, rfl⟩
set_option maxHeartbeats 4000000 in
set_option maxRecDepth 100000 in
theorem c_before (G : qG) {h : qH} {o0 r k0 nb rc a ln c : Nat} {tol : Option Nat} {N : Nat → Option Nat} {X : Nat → CNv} {y : CNv} (go : h o0 = some (csCell r k0 (some a) tol)) (hc : c ≤ 60) (gk : h k0 = some (shCell nb rc (nI c))) (gn : h nb = some (nbCell N)) (hok : ShOk h c N X) (ga : h a = some (cnCell y ln)) : qMet G M_X3_before [.ref o0] h (qI (fun v h1 => h1 = h ∧ v = nI (cntB X y c))) := by
  refine qMet.of (by decide) (Nat.le_of_ble_eq_true rfl) rfl ?_
  refine QP.locsE (L1 := [some (.ref o0)]) rfl ?_
  refine qp_aload_n dX3_before_0 rfl ?_
  refine qp_getf dX3_before_1 fX3_25 go rfl ?_
  refine qp_ifnonnull 11 dX3_before_4 (by decide) ?_
  refine qp_aload_n dX3_before_11 rfl ?_
  refine qp_getf dX3_before_12 fX3_21 go rfl ?_
  refine qp_aload_n dX3_before_15 rfl ?_
  refine qp_getf dX3_before_16 fX3_25 go rfl ?_
  refine qv_Ip dX3_before_19 mX3_80 (c_countBefore G hc gk gn hok ga) gk rfl rfl rfl rfl rfl rfl rfl ?_
  exact qr_i dX3_before_22 rfl rfl rfl ⟨rfl, rfl⟩
theorem sNumAt_some {h : qH} {c : Nat} {N : Nat → Option Nat} {X : Nat → CNv} {p : Int32} (hc : c ≤ 60) (hok : ShOk h c N X) (hp : sHas c p = true) : ∃ a ln, sNumAt c N p = some a ∧ h a = some (cnCell (X p.toNatClampNeg) ln) := by
  have hin := sHas_in hp hc
  obtain ⟨j, hj, e⟩ := vp_in_of hin (by decide)
  subst e
  have hjc : j < c := by
    simp only [sHas, decide_eq_true_eq] at hp
    rw [nI_toInt (by omega)] at hp
    omega
  obtain ⟨a, ln, e1, e2⟩ := hok j hjc
  refine ⟨a, ln, ?_, ?_⟩
  · rw [sNumAt, if_pos hp, nI_clamp (by omega), e1]
  · rw [nI_clamp (by omega)]; exact e2
theorem sNumAt_none {c : Nat} {N : Nat → Option Nat} {p : Int32} (hp : sHas c p = false) : sNumAt c N p = none := by
  rw [sNumAt, if_neg (by rw [hp]; decide)]
def sCompare (c : Nat) (X : Nat → CNv) (a b : Int32) : Int32 := if sHas c a = true ∧ sHas c b = true then sOrder (X a.toNatClampNeg) (X b.toNatClampNeg) else -2
set_option maxHeartbeats 4000000 in
set_option maxRecDepth 100000 in
theorem c_compare (G : qG) {h : qH} {o0 r k0 nb rc c : Nat} {lat tol : Option Nat} {N : Nat → Option Nat} {X : Nat → CNv} (p1 p2 : Int32) (go : h o0 = some (csCell r k0 lat tol)) (hc : c ≤ 60) (gk : h k0 = some (shCell nb rc (nI c))) (gn : h nb = some (nbCell N)) (hok : ShOk h c N X) : qMet G M_X3_compare [.ref o0, .int p1, .int p2] h (qI (fun v h1 => h1 = h ∧ v = sCompare c X p1 p2)) := by
  refine qMet.of (by decide) (Nat.le_of_ble_eq_true rfl) rfl ?_
  rcases Bool.eq_false_or_eq_true (sHas c p1) with h1 | h1 <;> rcases Bool.eq_false_or_eq_true (sHas c p2) with h2 | h2
  · obtain ⟨a1, ln1, e1, g1⟩ := sNumAt_some hc hok h1
    obtain ⟨a2, ln2, e2, g2⟩ := sNumAt_some hc hok h2
    refine QP.locsE (L1 := [some (.ref o0), some (.int (p1)), some (.int (p2)), none, none]) rfl ?_
    refine qp_aload_n dX3_compare_0 rfl ?_
    refine qp_getf dX3_compare_1 fX3_21 go rfl ?_
    refine qp_iload_n dX3_compare_4 rfl ?_
    refine qv_Ap dX3_compare_5 mX3_98 (c_numberAt G (p1) hc gk gn) gk rfl rfl rfl rfl rfl rfl rfl ?_
    refine QP.topO (y := some a1) e1 ?_
    refine qp_astore_n dX3_compare_8 (by decide) ?_
    refine QP.locsE (L1 := [some (.ref o0), some (.int (p1)), some (.int (p2)), some (.ref a1), none]) rfl ?_
    refine qp_aload_n dX3_compare_9 rfl ?_
    refine qp_getf dX3_compare_10 fX3_21 go rfl ?_
    refine qp_iload_n dX3_compare_13 rfl ?_
    refine qv_Ap dX3_compare_14 mX3_98 (c_numberAt G (p2) hc gk gn) gk rfl rfl rfl rfl rfl rfl rfl ?_
    refine QP.topO (y := some a2) e2 ?_
    refine qp_astore dX3_compare_17 (by decide) ?_
    refine QP.locsE (L1 := [some (.ref o0), some (.int (p1)), some (.int (p2)), some (.ref a1), some (.ref a2)]) rfl ?_
    refine qp_aload_n dX3_compare_19 rfl ?_
    refine qp_ifnull dX3_compare_20 ?_
    refine qp_aload dX3_compare_23 rfl ?_
    refine qp_ifnonnull 31 dX3_compare_25 (by decide) ?_
    refine qp_aload_n dX3_compare_31 rfl ?_
    refine qp_aload dX3_compare_32 rfl ?_
    refine qs_Ip dX3_compare_34 mX3_102 (c_order G g1 g2) rfl rfl rfl rfl rfl rfl ?_
    exact qr_i dX3_compare_37 rfl rfl rfl ⟨rfl, by simp only [sCompare]; rw [if_pos ⟨h1, h2⟩]⟩
  · obtain ⟨a1, ln1, e1, g1⟩ := sNumAt_some hc hok h1
    have e2 := sNumAt_none (N := N) h2
    refine QP.locsE (L1 := [some (.ref o0), some (.int (p1)), some (.int (p2)), none, none]) rfl ?_
    refine qp_aload_n dX3_compare_0 rfl ?_
    refine qp_getf dX3_compare_1 fX3_21 go rfl ?_
    refine qp_iload_n dX3_compare_4 rfl ?_
    refine qv_Ap dX3_compare_5 mX3_98 (c_numberAt G (p1) hc gk gn) gk rfl rfl rfl rfl rfl rfl rfl ?_
    refine QP.topO (y := some a1) e1 ?_
    refine qp_astore_n dX3_compare_8 (by decide) ?_
    refine QP.locsE (L1 := [some (.ref o0), some (.int (p1)), some (.int (p2)), some (.ref a1), none]) rfl ?_
    refine qp_aload_n dX3_compare_9 rfl ?_
    refine qp_getf dX3_compare_10 fX3_21 go rfl ?_
    refine qp_iload_n dX3_compare_13 rfl ?_
    refine qv_Ap dX3_compare_14 mX3_98 (c_numberAt G (p2) hc gk gn) gk rfl rfl rfl rfl rfl rfl rfl ?_
    refine QP.topO (y := none) e2 ?_
    refine qp_astoreN dX3_compare_17 (by decide) ?_
    refine QP.locsE (L1 := [some (.ref o0), some (.int (p1)), some (.int (p2)), some (.ref a1), some (.null)]) rfl ?_
    refine qp_aload_n dX3_compare_19 rfl ?_
    refine qp_ifnull dX3_compare_20 ?_
    refine qp_aloadN dX3_compare_23 rfl ?_
    refine qp_ifnonnullN dX3_compare_25 ?_
    refine qp_bipush (v := -2) dX3_compare_28 (by decide) ?_
    exact qr_i dX3_compare_30 rfl rfl rfl ⟨rfl, by simp only [sCompare]; rw [if_neg (fun q => by rw [h2] at q; exact absurd q.2 (by decide))]⟩
  · have e1 := sNumAt_none (N := N) h1
    obtain ⟨a2, ln2, e2, g2⟩ := sNumAt_some hc hok h2
    refine QP.locsE (L1 := [some (.ref o0), some (.int (p1)), some (.int (p2)), none, none]) rfl ?_
    refine qp_aload_n dX3_compare_0 rfl ?_
    refine qp_getf dX3_compare_1 fX3_21 go rfl ?_
    refine qp_iload_n dX3_compare_4 rfl ?_
    refine qv_Ap dX3_compare_5 mX3_98 (c_numberAt G (p1) hc gk gn) gk rfl rfl rfl rfl rfl rfl rfl ?_
    refine QP.topO (y := none) e1 ?_
    refine qp_astore_nN dX3_compare_8 (by decide) ?_
    refine QP.locsE (L1 := [some (.ref o0), some (.int (p1)), some (.int (p2)), some (.null), none]) rfl ?_
    refine qp_aload_n dX3_compare_9 rfl ?_
    refine qp_getf dX3_compare_10 fX3_21 go rfl ?_
    refine qp_iload_n dX3_compare_13 rfl ?_
    refine qv_Ap dX3_compare_14 mX3_98 (c_numberAt G (p2) hc gk gn) gk rfl rfl rfl rfl rfl rfl rfl ?_
    refine QP.topO (y := some a2) e2 ?_
    refine qp_astore dX3_compare_17 (by decide) ?_
    refine QP.locsE (L1 := [some (.ref o0), some (.int (p1)), some (.int (p2)), some (.null), some (.ref a2)]) rfl ?_
    refine qp_aload_nN dX3_compare_19 rfl ?_
    refine qp_ifnullN 28 dX3_compare_20 (by decide) ?_
    refine qp_bipush (v := -2) dX3_compare_28 (by decide) ?_
    exact qr_i dX3_compare_30 rfl rfl rfl ⟨rfl, by simp only [sCompare]; rw [if_neg (fun q => by rw [h1] at q; exact absurd q.1 (by decide))]⟩
  · have e1 := sNumAt_none (N := N) h1
    have e2 := sNumAt_none (N := N) h2
    refine QP.locsE (L1 := [some (.ref o0), some (.int (p1)), some (.int (p2)), none, none]) rfl ?_
    refine qp_aload_n dX3_compare_0 rfl ?_
    refine qp_getf dX3_compare_1 fX3_21 go rfl ?_
    refine qp_iload_n dX3_compare_4 rfl ?_
    refine qv_Ap dX3_compare_5 mX3_98 (c_numberAt G (p1) hc gk gn) gk rfl rfl rfl rfl rfl rfl rfl ?_
    refine QP.topO (y := none) e1 ?_
    refine qp_astore_nN dX3_compare_8 (by decide) ?_
    refine QP.locsE (L1 := [some (.ref o0), some (.int (p1)), some (.int (p2)), some (.null), none]) rfl ?_
    refine qp_aload_n dX3_compare_9 rfl ?_
    refine qp_getf dX3_compare_10 fX3_21 go rfl ?_
    refine qp_iload_n dX3_compare_13 rfl ?_
    refine qv_Ap dX3_compare_14 mX3_98 (c_numberAt G (p2) hc gk gn) gk rfl rfl rfl rfl rfl rfl rfl ?_
    refine QP.topO (y := none) e2 ?_
    refine qp_astoreN dX3_compare_17 (by decide) ?_
    refine QP.locsE (L1 := [some (.ref o0), some (.int (p1)), some (.int (p2)), some (.null), some (.null)]) rfl ?_
    refine qp_aload_nN dX3_compare_19 rfl ?_
    refine qp_ifnullN 28 dX3_compare_20 (by decide) ?_
    refine qp_bipush (v := -2) dX3_compare_28 (by decide) ?_
    exact qr_i dX3_compare_30 rfl rfl rfl ⟨rfl, by simp only [sCompare]; rw [if_neg (fun q => by rw [h1] at q; exact absurd q.1 (by decide))]⟩
set_option maxHeartbeats 4000000 in
set_option maxRecDepth 100000 in
theorem c_signFull (G : qG) {h : qH} {o0 r sgn k0 c : Nat} {lat tol : Option Nat} {lt pp : Int32} {f : Nat → Int32} (ch : Int32) (hc : c = 60) (go : h o0 = some (csCell r k0 lat tol)) (gr : h r = some (rdCell lt sgn (nI c) pp)) (gs : h sgn = some (sgCell f)) : qMet G M_X3_sign [.ref o0, .int ch] h (qV (fun h1 => h1 = h)) := by
  refine qMet.of (by decide) (Nat.le_of_ble_eq_true rfl) rfl ?_
  refine QP.locsE (L1 := [some (.ref o0), some (.int (ch))]) rfl ?_
  refine qp_aload_n dX3_sign_0 rfl ?_
  refine qp_getf dX3_sign_1 fX3_12 go rfl ?_
  refine qp_iload_n dX3_sign_4 rfl ?_
  refine qp_sipush (v := 255) dX3_sign_5 (by decide) ?_
  refine qp_iand dX3_sign_8 ?_
  refine qv_V dX3_sign_9 mX3_32 (c_collectFull G ((ch) &&& (255)) hc gr gs) gr rfl rfl rfl rfl rfl rfl rfl (fun h2 p3 => ?_)
  obtain rfl := p3
  exact qr_v dX3_sign_12 rfl rfl rfl rfl
set_option maxHeartbeats 4000000 in
set_option maxRecDepth 100000 in
theorem c_sign (G : qG) {h : qH} {o0 r sgn k0 c : Nat} {lat tol : Option Nat} {lt pp : Int32} {f : Nat → Int32} (ch : Int32) (nr : G.2.1 ≤ r) (ns : G.2.1 ≤ sgn) (hc : c < 60) (go : h o0 = some (csCell r k0 lat tol)) (gr : h r = some (rdCell lt sgn (nI c) pp)) (gs : h sgn = some (sgCell f)) : qMet G M_X3_sign [.ref o0, .int ch] h (qV (fun h1 => h1 r = some (rdCell lt sgn (nI (c + 1)) pp) ∧ h1 sgn = some (sgCell (upd f c (ch &&& 255))) ∧ ∀ b : Nat, b ≠ r → b ≠ sgn → h1 b = h b)) := by
  refine qMet.of (by decide) (Nat.le_of_ble_eq_true rfl) rfl ?_
  refine QP.locsE (L1 := [some (.ref o0), some (.int (ch))]) rfl ?_
  refine qp_aload_n dX3_sign_0 rfl ?_
  refine qp_getf dX3_sign_1 fX3_12 go rfl ?_
  refine qp_iload_n dX3_sign_4 rfl ?_
  refine qp_sipush (v := 255) dX3_sign_5 (by decide) ?_
  refine qp_iand dX3_sign_8 ?_
  refine qv_V dX3_sign_9 mX3_32 (c_collect G ((ch) &&& (255)) nr ns hc gr gs) gr rfl rfl rfl rfl rfl rfl rfl (fun h2 p3 => ?_)
  obtain ⟨g4, g5, o6⟩ := p3
  have g7 : h2 o0 = some (.inr (4, [.ref r, .ref k0, va_rf (lat), va_rf (tol)])) := (o6 _ (ne_of_cells go gr (by simp)) (ne_of_cells go gs (by simp))).trans go
  have g4 : h2 r = some (.inr (2, [.int (lt), .ref sgn, .int (nI (c + 1)), .int (pp)])) := g4
  have g5 : h2 sgn = some (.inl (0, 60, .inl (upd f c ((ch) &&& (255))))) := g5
  exact qr_v dX3_sign_12 rfl rfl rfl ⟨g4, g5, fun b hb hb2 => (o6 b hb hb2)⟩
set_option maxHeartbeats 4000000 in
set_option maxRecDepth 100000 in
theorem c_takeNot (G : qG) {h : qH} {o0 r k0 nb rc c : Nat} {lat tol : Option Nat} {R : Nat → Int32} (p : Int32) (hp : sHas c p = false) (go : h o0 = some (csCell r k0 lat tol)) (hc : c ≤ 60) (gk : h k0 = some (shCell nb rc (nI c))) (gr : h rc = some (rcCell R)) : qMet G M_X3_take [.ref o0, .int p] h (qI (fun v h1 => h1 = h ∧ v = -1)) := by
  refine qMet.of (by decide) (Nat.le_of_ble_eq_true rfl) rfl ?_
  refine QP.locsE (L1 := [some (.ref o0), some (.int (p)), none]) rfl ?_
  refine qp_aload_n dX3_take_0 rfl ?_
  refine qp_getf dX3_take_1 fX3_21 go rfl ?_
  refine qp_iload_n dX3_take_4 rfl ?_
  refine qv_Ip dX3_take_5 mX3_92 (c_recordAt G (p) hc gk gr) gk rfl rfl rfl rfl rfl rfl rfl ?_
  refine qp_istore_n dX3_take_8 (by decide) ?_
  refine QP.locsE (L1 := [some (.ref o0), some (.int (p)), some (.int (sRecAt c R (p)))]) rfl ?_
  refine qp_aload_n dX3_take_9 rfl ?_
  refine qp_getf dX3_take_10 fX3_21 go rfl ?_
  refine qp_iload_n dX3_take_13 rfl ?_
  refine qv_V dX3_take_14 mX3_95 (c_removeNot G (p) hc hp gk) gk rfl rfl rfl rfl rfl rfl rfl (fun h5 p6 => ?_)
  obtain rfl := p6
  refine qp_iload_n dX3_take_17 rfl ?_
  exact qr_i dX3_take_18 rfl rfl rfl ⟨rfl, by rw [sRecAt, if_neg (by rw [hp]; decide)]⟩
set_option maxHeartbeats 4000000 in
set_option maxRecDepth 100000 in
theorem c_take (G : qG) {h : qH} {o0 r k0 nb rc c : Nat} {lat tol : Option Nat} {N : Nat → Option Nat} {R : Nat → Int32} {X : Nat → CNv} (j : Nat) (nk : G.2.1 ≤ k0) (nn : G.2.1 ≤ nb) (nr : G.2.1 ≤ rc) (hj : j < c) (go : h o0 = some (csCell r k0 lat tol)) (hc : c ≤ 60) (gk : h k0 = some (shCell nb rc (nI c))) (gn : h nb = some (nbCell N)) (gr : h rc = some (rcCell R)) (hok : ShOk h c N X) : qMet G M_X3_take [.ref o0, .int (nI j)] h (qI (fun v h1 => v = R j ∧ h1 k0 = some (shCell nb rc (nI (c - 1))) ∧ h1 nb = some (nbCell (remF N j c)) ∧ h1 rc = some (rcCell (shD R j (c - 1))) ∧ ∀ b : Nat, b ≠ k0 → b ≠ nb → b ≠ rc → h1 b = h b)) := by
  refine qMet.of (by decide) (Nat.le_of_ble_eq_true rfl) rfl ?_
  refine QP.locsE (L1 := [some (.ref o0), some (.int (nI j)), none]) rfl ?_
  refine qp_aload_n dX3_take_0 rfl ?_
  refine qp_getf dX3_take_1 fX3_21 go rfl ?_
  refine qp_iload_n dX3_take_4 rfl ?_
  refine qv_Ip dX3_take_5 mX3_92 (c_recordAt G (nI j) hc gk gr) gk rfl rfl rfl rfl rfl rfl rfl ?_
  refine qp_istore_n dX3_take_8 (by decide) ?_
  refine QP.locsE (L1 := [some (.ref o0), some (.int (nI j)), some (.int (sRecAt c R (nI j)))]) rfl ?_
  refine qp_aload_n dX3_take_9 rfl ?_
  refine qp_getf dX3_take_10 fX3_21 go rfl ?_
  refine qp_iload_n dX3_take_13 rfl ?_
  refine qv_V dX3_take_14 mX3_95 (c_remove G j nk nn nr hc hj gk gn gr hok) gk rfl rfl rfl rfl rfl rfl rfl (fun h5 p6 => ?_)
  obtain ⟨g7, g8, g9, o10⟩ := p6
  have g11 : h5 o0 = some (.inr (4, [.ref r, .ref k0, va_rf (lat), va_rf (tol)])) := (o10 _ (ne_of_cells go gk (by simp)) (ne_of_cells go gn (by simp)) (ne_of_cells go gr (by simp))).trans go
  have g7 : h5 k0 = some (.inr (3, [.ref nb, .ref rc, .int (nI (c - 1))])) := g7
  have g8 : h5 nb = some (.inl (3, 60, .inr (.inr (.inr (.inr (remF N j c)))))) := g8
  have g9 : h5 rc = some (.inl (0, 60, .inl (shD R j (c - 1)))) := g9
  refine qp_iload_n dX3_take_17 rfl ?_
  exact qr_i dX3_take_18 rfl rfl rfl ⟨by rw [sRecAt, if_pos (sHas_nI hj hc), nI_clamp (by omega)], g7, g8, g9, fun b hb1 hb2 hb3 => (o10 b hb1 hb2 hb3)⟩
set_option maxHeartbeats 4000000 in
set_option maxRecDepth 100000 in
theorem c_putN (G : qG) {h : qH} {o0 r k0 : Nat} {tol : Option Nat} (rec : Int32) (go : h o0 = some (csCell r k0 none tol)) : qMet G M_X3_put [.ref o0, .int rec] h (qI (fun v h1 => h1 = h ∧ v = -1)) := by
  refine qMet.of (by decide) (Nat.le_of_ble_eq_true rfl) rfl ?_
  refine QP.locsE (L1 := [some (.ref o0), some (.int (rec)), none]) rfl ?_
  refine qp_aload_n dX3_put_0 rfl ?_
  refine qp_getf dX3_put_1 fX3_25 go rfl ?_
  refine qp_ifnonnullN dX3_put_4 ?_
  refine qp_iconst (v := -1) dX3_put_7 (by decide) ?_
  exact qr_i dX3_put_8 rfl rfl rfl ⟨rfl, rfl⟩
set_option maxHeartbeats 4000000 in
set_option maxRecDepth 100000 in
theorem c_putSame (G : qG) {h : qH} {o0 r k0 nb rc a ln c : Nat} {tol : Option Nat} {N : Nat → Option Nat} {X : Nat → CNv} {y : CNv} (rec : Int32) (hsm : sSame c X y (cntB X y c) = true) (go : h o0 = some (csCell r k0 (some a) tol)) (hc : c ≤ 60) (gk : h k0 = some (shCell nb rc (nI c))) (gn : h nb = some (nbCell N)) (hok : ShOk h c N X) (ga : h a = some (cnCell y ln)) : qMet G M_X3_put [.ref o0, .int rec] h (qI (fun v h1 => h1 = h ∧ v = -2 - nI (cntB X y c))) := by
  refine qMet.of (by decide) (Nat.le_of_ble_eq_true rfl) rfl ?_
  refine QP.locsE (L1 := [some (.ref o0), some (.int (rec)), none]) rfl ?_
  refine qp_aload_n dX3_put_0 rfl ?_
  refine qp_getf dX3_put_1 fX3_25 go rfl ?_
  refine qp_ifnonnull 9 dX3_put_4 (by decide) ?_
  refine qp_aload_n dX3_put_9 rfl ?_
  refine qp_getf dX3_put_10 fX3_21 go rfl ?_
  refine qp_aload_n dX3_put_13 rfl ?_
  refine qp_getf dX3_put_14 fX3_25 go rfl ?_
  refine qv_Ip dX3_put_17 mX3_80 (c_countBefore G hc gk gn hok ga) gk rfl rfl rfl rfl rfl rfl rfl ?_
  refine qp_istore_n dX3_put_20 (by decide) ?_
  refine QP.locsE (L1 := [some (.ref o0), some (.int (rec)), some (.int (nI (cntB X y c)))]) rfl ?_
  refine qp_aload_n dX3_put_21 rfl ?_
  refine qp_getf dX3_put_22 fX3_21 go rfl ?_
  refine qp_iload_n dX3_put_25 rfl ?_
  refine qp_aload_n dX3_put_26 rfl ?_
  refine qp_getf dX3_put_27 fX3_25 go rfl ?_
  refine qv_Ip dX3_put_30 mX3_84 (c_isSameAt G (cntB X y c) (by have := cntB_le X y c; omega) hc gk gn hok ga) gk rfl rfl rfl rfl rfl rfl rfl ?_
  refine qp_if_eq 41 dX3_put_33 (by decide) (fun c_33 => absurd c_33 (by rw [hsm]; decide)) (fun c_33 => ?_)
  refine qp_bipush (v := -2) dX3_put_36 (by decide) ?_
  refine qp_iload_n dX3_put_38 rfl ?_
  refine qp_isub dX3_put_39 ?_
  exact qr_i dX3_put_40 rfl rfl rfl ⟨rfl, rfl⟩
set_option maxHeartbeats 4000000 in
set_option maxRecDepth 100000 in
theorem c_putFull (G : qG) {h : qH} {o0 r k0 nb rc a ln c : Nat} {tol : Option Nat} {N : Nat → Option Nat} {X : Nat → CNv} {y : CNv} (rec : Int32) (hsm : sSame c X y (cntB X y c) = false) (hc60 : c = 60) (go : h o0 = some (csCell r k0 (some a) tol)) (hc : c ≤ 60) (gk : h k0 = some (shCell nb rc (nI c))) (gn : h nb = some (nbCell N)) (hok : ShOk h c N X) (ga : h a = some (cnCell y ln)) : qMet G M_X3_put [.ref o0, .int rec] h (qI (fun v h1 => h1 = h ∧ v = -1)) := by
  refine qMet.of (by decide) (Nat.le_of_ble_eq_true rfl) rfl ?_
  refine QP.locsE (L1 := [some (.ref o0), some (.int (rec)), none]) rfl ?_
  refine qp_aload_n dX3_put_0 rfl ?_
  refine qp_getf dX3_put_1 fX3_25 go rfl ?_
  refine qp_ifnonnull 9 dX3_put_4 (by decide) ?_
  refine qp_aload_n dX3_put_9 rfl ?_
  refine qp_getf dX3_put_10 fX3_21 go rfl ?_
  refine qp_aload_n dX3_put_13 rfl ?_
  refine qp_getf dX3_put_14 fX3_25 go rfl ?_
  refine qv_Ip dX3_put_17 mX3_80 (c_countBefore G hc gk gn hok ga) gk rfl rfl rfl rfl rfl rfl rfl ?_
  refine qp_istore_n dX3_put_20 (by decide) ?_
  refine QP.locsE (L1 := [some (.ref o0), some (.int (rec)), some (.int (nI (cntB X y c)))]) rfl ?_
  refine qp_aload_n dX3_put_21 rfl ?_
  refine qp_getf dX3_put_22 fX3_21 go rfl ?_
  refine qp_iload_n dX3_put_25 rfl ?_
  refine qp_aload_n dX3_put_26 rfl ?_
  refine qp_getf dX3_put_27 fX3_25 go rfl ?_
  refine qv_Ip dX3_put_30 mX3_84 (c_isSameAt G (cntB X y c) (by have := cntB_le X y c; omega) hc gk gn hok ga) gk rfl rfl rfl rfl rfl rfl rfl ?_
  refine qp_if_eq 41 dX3_put_33 (by decide) (fun c_33 => ?_) (fun c_33 => absurd (by rw [hsm]; rfl) c_33)
  refine qp_aload_n dX3_put_41 rfl ?_
  refine qp_getf dX3_put_42 fX3_21 go rfl ?_
  refine qp_iload_n dX3_put_45 rfl ?_
  refine qp_aload_n dX3_put_46 rfl ?_
  refine qp_getf dX3_put_47 fX3_25 go rfl ?_
  refine qp_iload_n dX3_put_50 rfl ?_
  refine qv_Ip dX3_put_51 mX3_88 (c_insertFull G (nI (cntB X y c)) (rec) hc60 gk) gk rfl rfl rfl rfl rfl rfl rfl ?_
  refine qp_if_eq 61 dX3_put_54 (by decide) (fun c_54 => ?_) (fun c_54 => absurd rfl c_54)
  refine qp_iconst (v := -1) dX3_put_61 (by decide) ?_
  exact qr_i dX3_put_62 rfl rfl rfl ⟨rfl, rfl⟩
set_option maxHeartbeats 4000000 in
set_option maxRecDepth 100000 in
theorem c_put (G : qG) {h : qH} {o0 r k0 nb rc a ln c : Nat} {tol : Option Nat} {N : Nat → Option Nat} {R : Nat → Int32} {X : Nat → CNv} {y : CNv} (rec : Int32) (nk : G.2.1 ≤ k0) (nn : G.2.1 ≤ nb) (nr : G.2.1 ≤ rc) (hsm : sSame c X y (cntB X y c) = false) (hc60 : c < 60) (go : h o0 = some (csCell r k0 (some a) tol)) (hc : c ≤ 60) (gk : h k0 = some (shCell nb rc (nI c))) (gn : h nb = some (nbCell N)) (hok : ShOk h c N X) (ga : h a = some (cnCell y ln)) (gr : h rc = some (rcCell R)) : qMet G M_X3_put [.ref o0, .int rec] h (qI (fun v h1 => v = nI (cntB X y c) ∧ h1 k0 = some (shCell nb rc (nI (c + 1))) ∧ h1 nb = some (nbCell (insF N (cntB X y c) c (some a))) ∧ h1 rc = some (rcCell (insF R (cntB X y c) c rec)) ∧ ∀ b : Nat, b ≠ k0 → b ≠ nb → b ≠ rc → h1 b = h b)) := by
  refine qMet.of (by decide) (Nat.le_of_ble_eq_true rfl) rfl ?_
  refine QP.locsE (L1 := [some (.ref o0), some (.int (rec)), none]) rfl ?_
  refine qp_aload_n dX3_put_0 rfl ?_
  refine qp_getf dX3_put_1 fX3_25 go rfl ?_
  refine qp_ifnonnull 9 dX3_put_4 (by decide) ?_
  refine qp_aload_n dX3_put_9 rfl ?_
  refine qp_getf dX3_put_10 fX3_21 go rfl ?_
  refine qp_aload_n dX3_put_13 rfl ?_
  refine qp_getf dX3_put_14 fX3_25 go rfl ?_
  refine qv_Ip dX3_put_17 mX3_80 (c_countBefore G hc gk gn hok ga) gk rfl rfl rfl rfl rfl rfl rfl ?_
  refine qp_istore_n dX3_put_20 (by decide) ?_
  refine QP.locsE (L1 := [some (.ref o0), some (.int (rec)), some (.int (nI (cntB X y c)))]) rfl ?_
  refine qp_aload_n dX3_put_21 rfl ?_
  refine qp_getf dX3_put_22 fX3_21 go rfl ?_
  refine qp_iload_n dX3_put_25 rfl ?_
  refine qp_aload_n dX3_put_26 rfl ?_
  refine qp_getf dX3_put_27 fX3_25 go rfl ?_
  refine qv_Ip dX3_put_30 mX3_84 (c_isSameAt G (cntB X y c) (by have := cntB_le X y c; omega) hc gk gn hok ga) gk rfl rfl rfl rfl rfl rfl rfl ?_
  refine qp_if_eq 41 dX3_put_33 (by decide) (fun c_33 => ?_) (fun c_33 => absurd (by rw [hsm]; rfl) c_33)
  refine qp_aload_n dX3_put_41 rfl ?_
  refine qp_getf dX3_put_42 fX3_21 go rfl ?_
  refine qp_iload_n dX3_put_45 rfl ?_
  refine qp_aload_n dX3_put_46 rfl ?_
  refine qp_getf dX3_put_47 fX3_25 go rfl ?_
  refine qp_iload_n dX3_put_50 rfl ?_
  refine qv_Iq dX3_put_51 mX3_88 (c_insert G (cntB X y c) (rec) nk nn nr (by omega) (cntB_le X y c) gk gn gr ga hok) gk rfl rfl rfl rfl rfl rfl rfl (fun h8 p9 => ?_)
  obtain ⟨g10, g11, g12, o13⟩ := p9
  have g14 : h8 o0 = some (.inr (4, [.ref r, .ref k0, .ref a, va_rf (tol)])) := (o13 _ (ne_of_cells go gk (by simp)) (ne_of_cells go gn (by simp)) (ne_of_cells go gr (by simp))).trans go
  have g15 : h8 a = some (.inr (1, [.int (y.cl), .int (y.cc), .long (y.cd), .int (y.cap), .int (y.cut), .int (y.cutn), .int (y.year), .int (y.vol), .int (y.voll), .long (y.mark), .int (y.markn), .ref ln, .int (y.lc)])) := (o13 _ (ne_of_cells ga gk (by simp)) (ne_of_cells ga gn (by simp)) (ne_of_cells ga gr (by simp))).trans ga
  have g10 : h8 k0 = some (.inr (3, [.ref nb, .ref rc, .int (nI (c + 1))])) := g10
  have g11 : h8 nb = some (.inl (3, 60, .inr (.inr (.inr (.inr (insF N (cntB X y c) c (some a))))))) := g11
  have g12 : h8 rc = some (.inl (0, 60, .inl (insF R (cntB X y c) c rec))) := g12
  refine qp_if_eq 61 dX3_put_54 (by decide) (fun c_54 => absurd c_54 (by decide)) (fun c_54 => ?_)
  refine qp_iload_n dX3_put_57 rfl ?_
  refine qp_goto 62 dX3_put_58 (by decide) ?_
  exact qr_i dX3_put_62 rfl rfl rfl ⟨rfl, g10, g11, g12, fun b hb1 hb2 hb3 => (o13 b hb1 hb2 hb3)⟩
end
section
/-- what read() comes to -/
def RdRes (h h1 : qH) (lt : Int32) (o0 r sgn k0 n ln : Nat) (tol : Option Nat) (v : Int32) (o : ROut) : Prop := match o with
  | .inl w => v = -1 - nI w ∧ h1 r = some (rdCell lt sgn 0 (nI w)) ∧ ∀ b : Nat, b ≠ r → b ≠ n → b ≠ ln → h1 b = h b
  | .inr y => v = sPartCount y.2.1 ∧ h1 r = some (rdCell lt sgn 0 (nI y.1)) ∧ h1 o0 = some (csCell r k0 (some n) tol) ∧ h1 n = some (cnCell y.2.1 ln) ∧ h1 ln = some (lnCell y.2.2) ∧ ∀ b : Nat, b ≠ o0 → b ≠ r → b ≠ n → b ≠ ln → h1 b = h b
set_option maxHeartbeats 4000000 in
set_option maxRecDepth 100000 in
theorem c_readD (G : qG) {h : qH} {o0 r sgn k0 c : Nat} {lat tol : Option Nat} {pp : Int32} {f : Nat → Int32} (no : G.2.1 ≤ o0) (nr : G.2.1 ≤ r) (hc : c ≤ 60) (go : h o0 = some (csCell r k0 lat tol)) (gr : h r = some (rdCell 0 sgn (nI c) pp)) (gs : h sgn = some (sgCell f)) : qMet G M_X3_read [.ref o0] h (qI (fun v h1 => ∃ n ln : Nat, G.2.1 ≤ n ∧ G.2.1 ≤ ln ∧ h n = none ∧ h ln = none ∧ n ≠ ln ∧ RdRes h h1 0 o0 r sgn k0 n ln tol v (sAllD (Sg c f) c))) := by
  refine qMet.of (by decide) (Nat.le_of_ble_eq_true rfl) rfl ?_
  refine QP.locsE (L1 := [some (.ref o0), none]) rfl ?_
  refine qp_aload_n dX3_read_0 rfl ?_
  refine qp_getf dX3_read_1 fX3_12 go rfl ?_
  refine qv_A dX3_read_4 mX3_36 (c_readCollectedD G nr hc gr gs) gr rfl rfl rfl rfl rfl rfl rfl (fun v1 hA hq => ?_)
  obtain ⟨n, ln, nn, nl, zn, zl, hnl, ev, hout⟩ := hq
  rcases hO : sAllD (Sg c f) c with w | ⟨q, y, g⟩ <;> rw [hO] at ev hout
  · have ev : v1 = none := ev
    subst ev
    obtain ⟨g1, o1⟩ := hout
    have g4 : hA o0 = some (.inr (4, [.ref r, .ref k0, va_rf (lat), va_rf (tol)])) := (o1 _ (ne_of_cells go gr (by simp)) (ne_of_none go zn) (ne_of_none go zl)).trans go
    have g5 : hA sgn = some (.inl (0, 60, .inl (f))) := (o1 _ (ne_of_cells gs gr (by simp)) (ne_of_none gs zn) (ne_of_none gs zl)).trans gs
    have g1 : hA r = some (.inr (2, [.int (0), .ref sgn, .int (nI c), .int (nI w)])) := g1
    refine qp_astore_nN dX3_read_7 (by decide) ?_
    refine QP.locsE (L1 := [some (.ref o0), some (.null)]) rfl ?_
    refine qp_aload_n dX3_read_8 rfl ?_
    refine qp_getf dX3_read_9 fX3_12 g4 rfl ?_
    refine qv_V dX3_read_12 mX3_40 (c_forget G nr g1) g1 rfl rfl rfl rfl rfl rfl rfl (fun h7 p8 => ?_)
    obtain ⟨g9, o10⟩ := p8
    have g11 : h7 o0 = some (.inr (4, [.ref r, .ref k0, va_rf (lat), va_rf (tol)])) := (o10 _ (ne_of_cells g4 g1 (by simp))).trans g4
    have g12 : h7 sgn = some (.inl (0, 60, .inl (f))) := (o10 _ (ne_of_cells g5 g1 (by simp))).trans g5
    have g9 : h7 r = some (.inr (2, [.int (0), .ref sgn, .int (0), .int (nI w)])) := g9
    refine qp_aload_nN dX3_read_15 rfl ?_
    refine qp_ifnonnullN dX3_read_16 ?_
    refine qp_iconst (v := -1) dX3_read_19 (by decide) ?_
    refine qp_aload_n dX3_read_20 rfl ?_
    refine qp_getf dX3_read_21 fX3_12 g11 rfl ?_
    refine qv_Ip dX3_read_24 mX3_43 (c_place G (c := 0) g9) g9 rfl rfl rfl rfl rfl rfl rfl ?_
    refine qp_isub dX3_read_27 ?_
    exact qr_i dX3_read_28 rfl rfl rfl ⟨n, ln, nn, nl, zn, zl, hnl, ⟨rfl, g9, fun b hb1 hb2 hb3 => ((o10 b hb1).trans (o1 b hb1 hb2 hb3))⟩⟩
  · have ev : v1 = some n := ev
    subst ev
    obtain ⟨g1, g2, g3, o1⟩ := hout
    have g16 : hA o0 = some (.inr (4, [.ref r, .ref k0, va_rf (lat), va_rf (tol)])) := (o1 _ (ne_of_cells go gr (by simp)) (ne_of_none go zn) (ne_of_none go zl)).trans go
    have g17 : hA sgn = some (.inl (0, 60, .inl (f))) := (o1 _ (ne_of_cells gs gr (by simp)) (ne_of_none gs zn) (ne_of_none gs zl)).trans gs
    have g1 : hA r = some (.inr (2, [.int (0), .ref sgn, .int (nI c), .int (nI q)])) := g1
    have g2 : hA n = some (.inr (1, [.int (y.cl), .int (y.cc), .long (y.cd), .int (y.cap), .int (y.cut), .int (y.cutn), .int (y.year), .int (y.vol), .int (y.voll), .long (y.mark), .int (y.markn), .ref ln, .int (y.lc)])) := g2
    have g3 : hA ln = some (.inl (0, 6, .inl (g))) := g3
    refine qp_astore_n dX3_read_7 (by decide) ?_
    refine QP.locsE (L1 := [some (.ref o0), some (.ref n)]) rfl ?_
    refine qp_aload_n dX3_read_8 rfl ?_
    refine qp_getf dX3_read_9 fX3_12 g16 rfl ?_
    refine qv_V dX3_read_12 mX3_40 (c_forget G nr g1) g1 rfl rfl rfl rfl rfl rfl rfl (fun h19 p20 => ?_)
    obtain ⟨g21, o22⟩ := p20
    have g23 : h19 o0 = some (.inr (4, [.ref r, .ref k0, va_rf (lat), va_rf (tol)])) := (o22 _ (ne_of_cells g16 g1 (by simp))).trans g16
    have g24 : h19 sgn = some (.inl (0, 60, .inl (f))) := (o22 _ (ne_of_cells g17 g1 (by simp))).trans g17
    have g25 : h19 n = some (.inr (1, [.int (y.cl), .int (y.cc), .long (y.cd), .int (y.cap), .int (y.cut), .int (y.cutn), .int (y.year), .int (y.vol), .int (y.voll), .long (y.mark), .int (y.markn), .ref ln, .int (y.lc)])) := (o22 _ (ne_of_cells g2 g1 (by simp))).trans g2
    have g26 : h19 ln = some (.inl (0, 6, .inl (g))) := (o22 _ (ne_of_cells g3 g1 (by simp))).trans g3
    have g21 : h19 r = some (.inr (2, [.int (0), .ref sgn, .int (0), .int (nI q)])) := g21
    refine qp_aload_n dX3_read_15 rfl ?_
    refine qp_ifnonnull 29 dX3_read_16 (by decide) ?_
    refine qp_aload_n dX3_read_29 rfl ?_
    refine qp_aload_n dX3_read_30 rfl ?_
    refine qk_put dX3_read_31 fX3_25 g23 no rfl rfl rfl rfl rfl (fun h27 g28 o29 => ?_)
    have g30 : h27 sgn = some (.inl (0, 60, .inl (f))) := (o29 _ (ne_of_cells g24 g23 (by simp))).trans g24
    have g31 : h27 n = some (.inr (1, [.int (y.cl), .int (y.cc), .long (y.cd), .int (y.cap), .int (y.cut), .int (y.cutn), .int (y.year), .int (y.vol), .int (y.voll), .long (y.mark), .int (y.markn), .ref ln, .int (y.lc)])) := (o29 _ (ne_of_cells g25 g23 (by simp))).trans g25
    have g32 : h27 ln = some (.inl (0, 6, .inl (g))) := (o29 _ (ne_of_cells g26 g23 (by simp))).trans g26
    have g33 : h27 r = some (.inr (2, [.int (0), .ref sgn, .int (0), .int (nI q)])) := (o29 _ (ne_of_cells g21 g23 (by simp))).trans g21
    have g28 : h27 o0 = some (.inr (4, [.ref r, .ref k0, .ref n, va_rf (tol)])) := g28
    refine qp_aload_n dX3_read_34 rfl ?_
    refine qv_Ip dX3_read_35 mX3_47 (c_partCount G g31) g31 rfl rfl rfl rfl rfl rfl rfl ?_
    exact qr_i dX3_read_38 rfl rfl rfl ⟨n, ln, nn, nl, zn, zl, hnl, ⟨rfl, g33, g28, g31, g32, fun b hb0 hb1 hb2 hb3 => (((o29 b hb0).trans (o22 b hb1)).trans (o1 b hb1 hb2 hb3))⟩⟩
set_option maxHeartbeats 4000000 in
set_option maxRecDepth 100000 in
theorem c_readL (G : qG) {h : qH} {o0 r sgn k0 c : Nat} {lat tol : Option Nat} {pp : Int32} {f : Nat → Int32} (no : G.2.1 ≤ o0) (nr : G.2.1 ≤ r) (hc : c ≤ 60) (go : h o0 = some (csCell r k0 lat tol)) (gr : h r = some (rdCell 1 sgn (nI c) pp)) (gs : h sgn = some (sgCell f)) : qMet G M_X3_read [.ref o0] h (qI (fun v h1 => ∃ n ln : Nat, G.2.1 ≤ n ∧ G.2.1 ≤ ln ∧ h n = none ∧ h ln = none ∧ n ≠ ln ∧ RdRes h h1 1 o0 r sgn k0 n ln tol v (sAllL (Sg c f) c))) := by
  refine qMet.of (by decide) (Nat.le_of_ble_eq_true rfl) rfl ?_
  refine QP.locsE (L1 := [some (.ref o0), none]) rfl ?_
  refine qp_aload_n dX3_read_0 rfl ?_
  refine qp_getf dX3_read_1 fX3_12 go rfl ?_
  refine qv_A dX3_read_4 mX3_36 (c_readCollectedL G nr hc gr gs) gr rfl rfl rfl rfl rfl rfl rfl (fun v1 hA hq => ?_)
  obtain ⟨n, ln, nn, nl, zn, zl, hnl, ev, hout⟩ := hq
  rcases hO : sAllL (Sg c f) c with w | ⟨q, y, g⟩ <;> rw [hO] at ev hout
  · have ev : v1 = none := ev
    subst ev
    obtain ⟨g1, o1⟩ := hout
    have g4 : hA o0 = some (.inr (4, [.ref r, .ref k0, va_rf (lat), va_rf (tol)])) := (o1 _ (ne_of_cells go gr (by simp)) (ne_of_none go zn) (ne_of_none go zl)).trans go
    have g5 : hA sgn = some (.inl (0, 60, .inl (f))) := (o1 _ (ne_of_cells gs gr (by simp)) (ne_of_none gs zn) (ne_of_none gs zl)).trans gs
    have g1 : hA r = some (.inr (2, [.int (1), .ref sgn, .int (nI c), .int (nI w)])) := g1
    refine qp_astore_nN dX3_read_7 (by decide) ?_
    refine QP.locsE (L1 := [some (.ref o0), some (.null)]) rfl ?_
    refine qp_aload_n dX3_read_8 rfl ?_
    refine qp_getf dX3_read_9 fX3_12 g4 rfl ?_
    refine qv_V dX3_read_12 mX3_40 (c_forget G nr g1) g1 rfl rfl rfl rfl rfl rfl rfl (fun h7 p8 => ?_)
    obtain ⟨g9, o10⟩ := p8
    have g11 : h7 o0 = some (.inr (4, [.ref r, .ref k0, va_rf (lat), va_rf (tol)])) := (o10 _ (ne_of_cells g4 g1 (by simp))).trans g4
    have g12 : h7 sgn = some (.inl (0, 60, .inl (f))) := (o10 _ (ne_of_cells g5 g1 (by simp))).trans g5
    have g9 : h7 r = some (.inr (2, [.int (1), .ref sgn, .int (0), .int (nI w)])) := g9
    refine qp_aload_nN dX3_read_15 rfl ?_
    refine qp_ifnonnullN dX3_read_16 ?_
    refine qp_iconst (v := -1) dX3_read_19 (by decide) ?_
    refine qp_aload_n dX3_read_20 rfl ?_
    refine qp_getf dX3_read_21 fX3_12 g11 rfl ?_
    refine qv_Ip dX3_read_24 mX3_43 (c_place G (c := 0) g9) g9 rfl rfl rfl rfl rfl rfl rfl ?_
    refine qp_isub dX3_read_27 ?_
    exact qr_i dX3_read_28 rfl rfl rfl ⟨n, ln, nn, nl, zn, zl, hnl, ⟨rfl, g9, fun b hb1 hb2 hb3 => ((o10 b hb1).trans (o1 b hb1 hb2 hb3))⟩⟩
  · have ev : v1 = some n := ev
    subst ev
    obtain ⟨g1, g2, g3, o1⟩ := hout
    have g16 : hA o0 = some (.inr (4, [.ref r, .ref k0, va_rf (lat), va_rf (tol)])) := (o1 _ (ne_of_cells go gr (by simp)) (ne_of_none go zn) (ne_of_none go zl)).trans go
    have g17 : hA sgn = some (.inl (0, 60, .inl (f))) := (o1 _ (ne_of_cells gs gr (by simp)) (ne_of_none gs zn) (ne_of_none gs zl)).trans gs
    have g1 : hA r = some (.inr (2, [.int (1), .ref sgn, .int (nI c), .int (nI q)])) := g1
    have g2 : hA n = some (.inr (1, [.int (y.cl), .int (y.cc), .long (y.cd), .int (y.cap), .int (y.cut), .int (y.cutn), .int (y.year), .int (y.vol), .int (y.voll), .long (y.mark), .int (y.markn), .ref ln, .int (y.lc)])) := g2
    have g3 : hA ln = some (.inl (0, 6, .inl (g))) := g3
    refine qp_astore_n dX3_read_7 (by decide) ?_
    refine QP.locsE (L1 := [some (.ref o0), some (.ref n)]) rfl ?_
    refine qp_aload_n dX3_read_8 rfl ?_
    refine qp_getf dX3_read_9 fX3_12 g16 rfl ?_
    refine qv_V dX3_read_12 mX3_40 (c_forget G nr g1) g1 rfl rfl rfl rfl rfl rfl rfl (fun h19 p20 => ?_)
    obtain ⟨g21, o22⟩ := p20
    have g23 : h19 o0 = some (.inr (4, [.ref r, .ref k0, va_rf (lat), va_rf (tol)])) := (o22 _ (ne_of_cells g16 g1 (by simp))).trans g16
    have g24 : h19 sgn = some (.inl (0, 60, .inl (f))) := (o22 _ (ne_of_cells g17 g1 (by simp))).trans g17
    have g25 : h19 n = some (.inr (1, [.int (y.cl), .int (y.cc), .long (y.cd), .int (y.cap), .int (y.cut), .int (y.cutn), .int (y.year), .int (y.vol), .int (y.voll), .long (y.mark), .int (y.markn), .ref ln, .int (y.lc)])) := (o22 _ (ne_of_cells g2 g1 (by simp))).trans g2
    have g26 : h19 ln = some (.inl (0, 6, .inl (g))) := (o22 _ (ne_of_cells g3 g1 (by simp))).trans g3
    have g21 : h19 r = some (.inr (2, [.int (1), .ref sgn, .int (0), .int (nI q)])) := g21
    refine qp_aload_n dX3_read_15 rfl ?_
    refine qp_ifnonnull 29 dX3_read_16 (by decide) ?_
    refine qp_aload_n dX3_read_29 rfl ?_
    refine qp_aload_n dX3_read_30 rfl ?_
    refine qk_put dX3_read_31 fX3_25 g23 no rfl rfl rfl rfl rfl (fun h27 g28 o29 => ?_)
    have g30 : h27 sgn = some (.inl (0, 60, .inl (f))) := (o29 _ (ne_of_cells g24 g23 (by simp))).trans g24
    have g31 : h27 n = some (.inr (1, [.int (y.cl), .int (y.cc), .long (y.cd), .int (y.cap), .int (y.cut), .int (y.cutn), .int (y.year), .int (y.vol), .int (y.voll), .long (y.mark), .int (y.markn), .ref ln, .int (y.lc)])) := (o29 _ (ne_of_cells g25 g23 (by simp))).trans g25
    have g32 : h27 ln = some (.inl (0, 6, .inl (g))) := (o29 _ (ne_of_cells g26 g23 (by simp))).trans g26
    have g33 : h27 r = some (.inr (2, [.int (1), .ref sgn, .int (0), .int (nI q)])) := (o29 _ (ne_of_cells g21 g23 (by simp))).trans g21
    have g28 : h27 o0 = some (.inr (4, [.ref r, .ref k0, .ref n, va_rf (tol)])) := g28
    refine qp_aload_n dX3_read_34 rfl ?_
    refine qv_Ip dX3_read_35 mX3_47 (c_partCount G g31) g31 rfl rfl rfl rfl rfl rfl rfl ?_
    exact qr_i dX3_read_38 rfl rfl rfl ⟨n, ln, nn, nl, zn, zl, hnl, ⟨rfl, g33, g28, g31, g32, fun b hb0 hb1 hb2 hb3 => (((o29 b hb0).trans (o22 b hb1)).trans (o1 b hb1 hb2 hb3))⟩⟩
theorem sHas_m1 (c : Nat) : sHas c (-1) = false := by
  simp only [sHas, decide_eq_false_iff_not]
  have : (-1 : Int32).toInt = -1 := by decide
  omega
set_option maxHeartbeats 4000000 in
set_option maxRecDepth 100000 in
theorem c_passNot (G : qG) {h : qH} {o0 r k0 nb rc c : Nat} {lat tol : Option Nat} {N : Nat → Option Nat} {R : Nat → Int32} (rec : Int32) (hfw : sFirst R rec c 0 = -1) (go : h o0 = some (csCell r k0 lat tol)) (hc : c ≤ 60) (gk : h k0 = some (shCell nb rc (nI c))) (gn : h nb = some (nbCell N)) (gr : h rc = some (rcCell R)) : qMet G M_X3_pass [.ref o0, .int rec] h (qI (fun v h1 => h1 = h ∧ v = -1)) := by
  refine qMet.of (by decide) (Nat.le_of_ble_eq_true rfl) rfl ?_
  refine QP.locsE (L1 := [some (.ref o0), some (.int (rec)), none, none]) rfl ?_
  refine qp_aload_n dX3_pass_0 rfl ?_
  refine qp_getf dX3_pass_1 fX3_21 go rfl ?_
  refine qp_aload_n dX3_pass_4 rfl ?_
  refine qp_getf dX3_pass_5 fX3_21 go rfl ?_
  refine qp_iload_n dX3_pass_8 rfl ?_
  refine qv_Ip dX3_pass_9 mX3_116 (c_firstWith G (rec) hc gk gr) gk rfl rfl rfl rfl rfl rfl rfl ?_
  refine QP.topI (y := -1) hfw ?_
  refine qv_Ap dX3_pass_12 mX3_98 (c_numberAt G (-1) hc gk gn) gk rfl rfl rfl rfl rfl rfl rfl ?_
  refine QP.topO (y := none) (sNumAt_none (sHas_m1 c)) ?_
  refine qp_astore_nN dX3_pass_15 (by decide) ?_
  refine QP.locsE (L1 := [some (.ref o0), some (.int (rec)), some (.null), none]) rfl ?_
  refine qp_aload_nN dX3_pass_16 rfl ?_
  refine qp_ifnonnullN dX3_pass_17 ?_
  refine qp_iconst (v := -1) dX3_pass_20 (by decide) ?_
  exact qr_i dX3_pass_21 rfl rfl rfl ⟨rfl, rfl⟩
set_option maxHeartbeats 4000000 in
set_option maxRecDepth 100000 in
theorem c_pass0 (G : qG) {h : qH} {o0 r k0 nb rc a ln c : Nat} {lat : Option Nat} {N : Nat → Option Nat} {R : Nat → Int32} {y : CNv} (rec : Int32) (j : Nat) (no : G.2.1 ≤ o0) (hfw : sFirst R rec c 0 = nI j) (hj : j < c) (hN : N j = some a) (ga : h a = some (cnCell y ln)) (go : h o0 = some (csCell r k0 lat none)) (hc : c ≤ 60) (gk : h k0 = some (shCell nb rc (nI c))) (gn : h nb = some (nbCell N)) (gr : h rc = some (rcCell R)) : qMet G M_X3_pass [.ref o0, .int rec] h (qI (fun v h1 => v = 1 ∧ h1 o0 = some (csCell r k0 lat (some a)) ∧ ∀ b : Nat, b ≠ o0 → h1 b = h b)) := by
  refine qMet.of (by decide) (Nat.le_of_ble_eq_true rfl) rfl ?_
  refine QP.locsE (L1 := [some (.ref o0), some (.int (rec)), none, none]) rfl ?_
  refine qp_aload_n dX3_pass_0 rfl ?_
  refine qp_getf dX3_pass_1 fX3_21 go rfl ?_
  refine qp_aload_n dX3_pass_4 rfl ?_
  refine qp_getf dX3_pass_5 fX3_21 go rfl ?_
  refine qp_iload_n dX3_pass_8 rfl ?_
  refine qv_Ip dX3_pass_9 mX3_116 (c_firstWith G (rec) hc gk gr) gk rfl rfl rfl rfl rfl rfl rfl ?_
  refine QP.topI (y := nI j) hfw ?_
  refine qv_Ap dX3_pass_12 mX3_98 (c_numberAtN G j hj hN hc gk gn) gk rfl rfl rfl rfl rfl rfl rfl ?_
  refine qp_astore_n dX3_pass_15 (by decide) ?_
  refine QP.locsE (L1 := [some (.ref o0), some (.int (rec)), some (.ref a), none]) rfl ?_
  refine qp_aload_n dX3_pass_16 rfl ?_
  refine qp_ifnonnull 22 dX3_pass_17 (by decide) ?_
  refine qp_aload_n dX3_pass_22 rfl ?_
  refine qp_getf dX3_pass_23 fX3_29 go rfl ?_
  refine qp_ifnullN 40 dX3_pass_26 (by decide) ?_
  refine qp_iconst (v := 1) dX3_pass_40 (by decide) ?_
  refine qp_goto 45 dX3_pass_41 (by decide) ?_
  refine qp_istore_n dX3_pass_45 (by decide) ?_
  refine QP.locsE (L1 := [some (.ref o0), some (.int (rec)), some (.ref a), some (.int (1))]) rfl ?_
  refine qp_aload_n dX3_pass_46 rfl ?_
  refine qp_aload_n dX3_pass_47 rfl ?_
  refine qk_put dX3_pass_48 fX3_29 go no rfl rfl rfl rfl rfl (fun h7 g8 o9 => ?_)
  have g10 : h7 k0 = some (.inr (3, [.ref nb, .ref rc, .int (nI c)])) := (o9 _ (ne_of_cells gk go (by simp))).trans gk
  have g11 : h7 nb = some (.inl (3, 60, .inr (.inr (.inr (.inr (N)))))) := (o9 _ (ne_of_cells gn go (by simp))).trans gn
  have g12 : h7 rc = some (.inl (0, 60, .inl (R))) := (o9 _ (ne_of_cells gr go (by simp))).trans gr
  have g13 : h7 a = some (.inr (1, [.int (y.cl), .int (y.cc), .long (y.cd), .int (y.cap), .int (y.cut), .int (y.cutn), .int (y.year), .int (y.vol), .int (y.voll), .long (y.mark), .int (y.markn), .ref ln, .int (y.lc)])) := (o9 _ (ne_of_cells ga go (by simp))).trans ga
  have g8 : h7 o0 = some (.inr (4, [.ref r, .ref k0, va_rf (lat), .ref a])) := g8
  refine qp_iload_n dX3_pass_51 rfl ?_
  refine qp_if_eq 59 dX3_pass_52 (by decide) (fun c_52 => absurd c_52 (by decide)) (fun c_52 => ?_)
  refine qp_iconst (v := 1) dX3_pass_55 (by decide) ?_
  refine qp_goto 60 dX3_pass_56 (by decide) ?_
  exact qr_i dX3_pass_60 rfl rfl rfl ⟨rfl, g8, fun b hb => (o9 b hb)⟩
set_option maxHeartbeats 4000000 in
set_option maxRecDepth 100000 in
theorem c_pass1 (G : qG) {h : qH} {o0 r k0 nb rc a b2 ln ln2 c : Nat} {lat : Option Nat} {N : Nat → Option Nat} {R : Nat → Int32} {y z : CNv} (rec : Int32) (j : Nat) (no : G.2.1 ≤ o0) (hfw : sFirst R rec c 0 = nI j) (hj : j < c) (hN : N j = some a) (ga : h a = some (cnCell y ln)) (gb : h b2 = some (cnCell z ln2)) (go : h o0 = some (csCell r k0 lat (some b2))) (hc : c ≤ 60) (gk : h k0 = some (shCell nb rc (nI c))) (gn : h nb = some (nbCell N)) (gr : h rc = some (rcCell R)) : qMet G M_X3_pass [.ref o0, .int rec] h (qI (fun v h1 => v = (if 0 < sOrder z y then 0 else 1) ∧ h1 o0 = some (csCell r k0 lat (some a)) ∧ ∀ b : Nat, b ≠ o0 → h1 b = h b)) := by
  refine qMet.of (by decide) (Nat.le_of_ble_eq_true rfl) rfl ?_
  refine QP.locsE (L1 := [some (.ref o0), some (.int (rec)), none, none]) rfl ?_
  refine qp_aload_n dX3_pass_0 rfl ?_
  refine qp_getf dX3_pass_1 fX3_21 go rfl ?_
  refine qp_aload_n dX3_pass_4 rfl ?_
  refine qp_getf dX3_pass_5 fX3_21 go rfl ?_
  refine qp_iload_n dX3_pass_8 rfl ?_
  refine qv_Ip dX3_pass_9 mX3_116 (c_firstWith G (rec) hc gk gr) gk rfl rfl rfl rfl rfl rfl rfl ?_
  refine QP.topI (y := nI j) hfw ?_
  refine qv_Ap dX3_pass_12 mX3_98 (c_numberAtN G j hj hN hc gk gn) gk rfl rfl rfl rfl rfl rfl rfl ?_
  refine qp_astore_n dX3_pass_15 (by decide) ?_
  refine QP.locsE (L1 := [some (.ref o0), some (.int (rec)), some (.ref a), none]) rfl ?_
  refine qp_aload_n dX3_pass_16 rfl ?_
  refine qp_ifnonnull 22 dX3_pass_17 (by decide) ?_
  refine qp_aload_n dX3_pass_22 rfl ?_
  refine qp_getf dX3_pass_23 fX3_29 go rfl ?_
  refine qp_ifnull dX3_pass_26 ?_
  refine qp_aload_n dX3_pass_29 rfl ?_
  refine qp_getf dX3_pass_30 fX3_29 go rfl ?_
  refine qp_aload_n dX3_pass_33 rfl ?_
  refine qs_Ip dX3_pass_34 mX3_102 (c_order G gb ga) rfl rfl rfl rfl rfl rfl ?_
  refine qp_if_gt 44 dX3_pass_37 (by decide) (fun c_37 => ?_) (fun c_37 => ?_)
  · refine qp_iconst (v := 0) dX3_pass_44 (by decide) ?_
    refine qp_istore_n dX3_pass_45 (by decide) ?_
    refine QP.locsE (L1 := [some (.ref o0), some (.int (rec)), some (.ref a), some (.int (0))]) rfl ?_
    refine qp_aload_n dX3_pass_46 rfl ?_
    refine qp_aload_n dX3_pass_47 rfl ?_
    refine qk_put dX3_pass_48 fX3_29 go no rfl rfl rfl rfl rfl (fun h10 g11 o12 => ?_)
    have g13 : h10 k0 = some (.inr (3, [.ref nb, .ref rc, .int (nI c)])) := (o12 _ (ne_of_cells gk go (by simp))).trans gk
    have g14 : h10 nb = some (.inl (3, 60, .inr (.inr (.inr (.inr (N)))))) := (o12 _ (ne_of_cells gn go (by simp))).trans gn
    have g15 : h10 rc = some (.inl (0, 60, .inl (R))) := (o12 _ (ne_of_cells gr go (by simp))).trans gr
    have g16 : h10 a = some (.inr (1, [.int (y.cl), .int (y.cc), .long (y.cd), .int (y.cap), .int (y.cut), .int (y.cutn), .int (y.year), .int (y.vol), .int (y.voll), .long (y.mark), .int (y.markn), .ref ln, .int (y.lc)])) := (o12 _ (ne_of_cells ga go (by simp))).trans ga
    have g17 : h10 b2 = some (.inr (1, [.int (z.cl), .int (z.cc), .long (z.cd), .int (z.cap), .int (z.cut), .int (z.cutn), .int (z.year), .int (z.vol), .int (z.voll), .long (z.mark), .int (z.markn), .ref ln2, .int (z.lc)])) := (o12 _ (ne_of_cells gb go (by simp))).trans gb
    have g11 : h10 o0 = some (.inr (4, [.ref r, .ref k0, va_rf (lat), .ref a])) := g11
    refine qp_iload_n dX3_pass_51 rfl ?_
    refine qp_if_eq 59 dX3_pass_52 (by decide) (fun c_52 => ?_) (fun c_52 => absurd rfl c_52)
    refine qp_iconst (v := 0) dX3_pass_59 (by decide) ?_
    exact qr_i dX3_pass_60 rfl rfl rfl ⟨by rw [if_pos c_37], g11, fun b hb => (o12 b hb)⟩
  · refine qp_iconst (v := 1) dX3_pass_40 (by decide) ?_
    refine qp_goto 45 dX3_pass_41 (by decide) ?_
    refine qp_istore_n dX3_pass_45 (by decide) ?_
    refine QP.locsE (L1 := [some (.ref o0), some (.int (rec)), some (.ref a), some (.int (1))]) rfl ?_
    refine qp_aload_n dX3_pass_46 rfl ?_
    refine qp_aload_n dX3_pass_47 rfl ?_
    refine qk_put dX3_pass_48 fX3_29 go no rfl rfl rfl rfl rfl (fun h18 g19 o20 => ?_)
    have g21 : h18 k0 = some (.inr (3, [.ref nb, .ref rc, .int (nI c)])) := (o20 _ (ne_of_cells gk go (by simp))).trans gk
    have g22 : h18 nb = some (.inl (3, 60, .inr (.inr (.inr (.inr (N)))))) := (o20 _ (ne_of_cells gn go (by simp))).trans gn
    have g23 : h18 rc = some (.inl (0, 60, .inl (R))) := (o20 _ (ne_of_cells gr go (by simp))).trans gr
    have g24 : h18 a = some (.inr (1, [.int (y.cl), .int (y.cc), .long (y.cd), .int (y.cap), .int (y.cut), .int (y.cutn), .int (y.year), .int (y.vol), .int (y.voll), .long (y.mark), .int (y.markn), .ref ln, .int (y.lc)])) := (o20 _ (ne_of_cells ga go (by simp))).trans ga
    have g25 : h18 b2 = some (.inr (1, [.int (z.cl), .int (z.cc), .long (z.cd), .int (z.cap), .int (z.cut), .int (z.cutn), .int (z.year), .int (z.vol), .int (z.voll), .long (z.mark), .int (z.markn), .ref ln2, .int (z.lc)])) := (o20 _ (ne_of_cells gb go (by simp))).trans gb
    have g19 : h18 o0 = some (.inr (4, [.ref r, .ref k0, va_rf (lat), .ref a])) := g19
    refine qp_iload_n dX3_pass_51 rfl ?_
    refine qp_if_eq 59 dX3_pass_52 (by decide) (fun c_52 => absurd c_52 (by decide)) (fun c_52 => ?_)
    refine qp_iconst (v := 1) dX3_pass_55 (by decide) ?_
    refine qp_goto 60 dX3_pass_56 (by decide) ?_
    exact qr_i dX3_pass_60 rfl rfl rfl ⟨by rw [if_neg c_37], g19, fun b hb => (o20 b hb)⟩
/-- the first free tail from tl on, so many at most -/
def sTail (T : Nat → Bool) (start fill : Nat) : Nat → Nat → Int32
  | 0, _ => 0
  | t + 1, tl => if nzf 6 tl = true ∧ T ((start + tl) * fill) = false then nI (start + tl) else sTail T start fill t (tl + 1)
/-- whether one with the class and capital of y has this cutter -/
def sTaken (X : Nat → CNv) (y : CNv) (c : Nat) (v : Nat) : Bool := sAny (sCutAt X y (nI v)) c 0
def sFreeM (X : Nat → CNv) (y : CNv) (c wr n more : Nat) : Int32 := sTail (sTaken X y c) (wr * 10 ^ more) (10 ^ (6 - (n + more))) (10 ^ more - 10 ^ more / 10) (10 ^ more / 10)
theorem l2i_pow {e : Nat} : (lN (10 ^ e)).toInt32 = nI (10 ^ e) := lN_i _
theorem pow_le6 {e : Nat} (h : e ≤ 6) : 10 ^ e ≤ 1000000 := by
  have := Nat.pow_le_pow_right (n := 10) (by decide) h
  simpa using this
theorem pow_pos10 (e : Nat) : 0 < 10 ^ e := Nat.pow_pos (by decide)
set_option maxHeartbeats 4000000 in
set_option maxRecDepth 100000 in
theorem l_freeWithMore {G : qG} {h : qH} {o0 r k0 nb rc a ln c : Nat} {lat tol : Option Nat} {N : Nat → Option Nat} {X : Nat → CNv} {y : CNv} {m3 d3 res : Int32} {fill bey start : Nat} (hbey : bey ≤ 1000000) (go : h o0 = some (csCell r k0 lat tol)) (hc : c ≤ 60) (gk : h k0 = some (shCell nb rc (nI c))) (gn : h nb = some (nbCell N)) (hok : ShOk h c N X) (ga : h a = some (cnCell y ln)) : ∀ (t tl : Nat), bey < tl + t → tl ≤ bey → res = sTail (sTaken X y c) start fill (bey - tl) tl → QP G M_X3_freeWithMore qTr (qMZ G M_X3_freeWithMore (qI (fun v h1 => h1 = h ∧ v = res))) 40 [some (.ref o0), some (.ref a), some (.int m3), some (.int d3), some (.int (nI fill)), some (.int (nI bey)), some (.int (nI start)), some (.int (nI tl))] [] h 0 0 := by
  intro t
  induction t with
  | zero =>
    intro tl h1 h2
    omega
  | succ t ih =>
    intro tl h1 h2 hr
    refine qp_iload dX3_freeWithMore_40 rfl ?_
    refine qp_iload dX3_freeWithMore_42 rfl ?_
    refine qp_icmp_ge 86 dX3_freeWithMore_44 (by decide) (fun c_44 => ?_) (fun c_44 => ?_)
    · have hk : bey ≤ tl := (nI_leI (by omega) (by omega)).mp c_44
      refine qp_iconst (v := 0) dX3_freeWithMore_86 (by decide) ?_
      exact qr_i dX3_freeWithMore_87 rfl rfl rfl ⟨rfl, by rw [hr, show bey - tl = 0 by omega]; rfl⟩
    · have hk : tl < bey := Nat.not_le.mp fun q => c_44 ((nI_leI (by omega) (by omega)).mpr q)
      refine qp_iload dX3_freeWithMore_47 rfl ?_
      refine qs_Ip dX3_freeWithMore_49 mX3_126 (c_hasNoZero G (tl) (by omega)) rfl rfl rfl rfl rfl rfl ?_
      refine qp_if_eq 80 dX3_freeWithMore_52 (by decide) (fun c_52 => ?_) (fun c_52 => ?_)
      · rw [bI_0] at c_52
        refine qp_iinc (v := nI (tl + 1)) dX3_freeWithMore_80 rfl (by decide) (nI_1 tl) ?_
        refine QP.locsE (L1 := [some (.ref o0), some (.ref a), some (.int (m3)), some (.int (d3)), some (.int (nI fill)), some (.int (nI bey)), some (.int (nI start)), some (.int (nI (tl + 1)))]) rfl ?_
        refine qp_goto 40 dX3_freeWithMore_83 (by decide) ?_
        refine ih (tl + 1) (by omega) (by omega) ?_
        rw [hr, show bey - tl = (bey - (tl + 1)) + 1 by omega, sTail, if_neg (fun q => by rw [q.1] at c_52; exact absurd c_52 (by decide))]
      · rw [bI_n0] at c_52
        refine qp_aload_n dX3_freeWithMore_55 rfl ?_
        refine qp_getf dX3_freeWithMore_56 fX3_21 go rfl ?_
        refine qp_aload_n dX3_freeWithMore_59 rfl ?_
        refine qp_iload dX3_freeWithMore_60 rfl ?_
        refine qp_iload dX3_freeWithMore_62 rfl ?_
        refine qp_iadd dX3_freeWithMore_64 ?_
        refine QP.topI (y := nI (start + tl)) (nI_add start tl) ?_
        refine qp_iload dX3_freeWithMore_65 rfl ?_
        refine qp_imul dX3_freeWithMore_67 ?_
        refine QP.topI (y := nI ((start + tl) * fill)) (pk_mul _ _) ?_
        refine qv_Ip dX3_freeWithMore_68 mX3_130 (c_hasCutter G (nI ((start + tl) * fill)) hc gk gn hok ga) gk rfl rfl rfl rfl rfl rfl rfl ?_
        refine qp_if_ne 80 dX3_freeWithMore_71 (by decide) (fun c_71 => ?_) (fun c_71 => ?_)
        · rw [bI_n0] at c_71
          refine qp_iinc (v := nI (tl + 1)) dX3_freeWithMore_80 rfl (by decide) (nI_1 tl) ?_
          refine QP.locsE (L1 := [some (.ref o0), some (.ref a), some (.int (m3)), some (.int (d3)), some (.int (nI fill)), some (.int (nI bey)), some (.int (nI start)), some (.int (nI (tl + 1)))]) rfl ?_
          refine qp_goto 40 dX3_freeWithMore_83 (by decide) ?_
          refine ih (tl + 1) (by omega) (by omega) ?_
          rw [hr, show bey - tl = (bey - (tl + 1)) + 1 by omega, sTail, if_neg (fun q => absurd (c_71.symm.trans q.2) (by decide))]
        · rw [bI_0] at c_71
          refine qp_iload dX3_freeWithMore_74 rfl ?_
          refine qp_iload dX3_freeWithMore_76 rfl ?_
          refine qp_iadd dX3_freeWithMore_78 ?_
          refine QP.topI (y := nI (start + tl)) (nI_add start tl) ?_
          exact qr_i dX3_freeWithMore_79 rfl rfl rfl ⟨rfl, by rw [hr, show bey - tl = (bey - (tl + 1)) + 1 by omega, sTail, if_pos ⟨c_52, c_71⟩]⟩
set_option maxHeartbeats 4000000 in
set_option maxRecDepth 100000 in
theorem c_freeWithMore (G : qG) {h : qH} {o0 r k0 nb rc a ln c : Nat} {lat tol : Option Nat} {N : Nat → Option Nat} {X : Nat → CNv} {y : CNv} (cu n more : Nat) (hcut : y.cut = nI cu) (hcn : y.cutn = nI n) (hcu : cu < 1000000) (hnm : n + more ≤ 6) (go : h o0 = some (csCell r k0 lat tol)) (hc : c ≤ 60) (gk : h k0 = some (shCell nb rc (nI c))) (gn : h nb = some (nbCell N)) (hok : ShOk h c N X) (ga : h a = some (cnCell y ln)) : qMet G M_X3_freeWithMore [.ref o0, .ref a, .int (nI more)] h (qI (fun v h1 => h1 = h ∧ v = sFreeM X y c (cu / 10 ^ (6 - n)) n more)) := by
  refine qMet.of (by decide) (Nat.le_of_ble_eq_true rfl) rfl ?_
  refine QP.locsE (L1 := [some (.ref o0), some (.ref a), some (.int (nI more)), none, none, none, none, none]) rfl ?_
  refine qp_aload_n dX3_freeWithMore_0 rfl ?_
  refine qp_getf dX3_freeWithMore_1 fX3_106 ga rfl ?_
  refine qp_iload_n dX3_freeWithMore_4 rfl ?_
  refine qp_iadd dX3_freeWithMore_5 ?_
  refine QP.topI (y := nI (n + more)) (show y.cutn + nI more = nI (n + more) by rw [hcn]; exact nI_add n more) ?_
  refine qp_istore_n dX3_freeWithMore_6 (by decide) ?_
  refine QP.locsE (L1 := [some (.ref o0), some (.ref a), some (.int (nI more)), some (.int (nI (n + more))), none, none, none, none]) rfl ?_
  refine qp_bipush (v := 6) dX3_freeWithMore_7 (by decide) ?_
  refine qp_iload_n dX3_freeWithMore_9 rfl ?_
  refine qp_isub dX3_freeWithMore_10 ?_
  refine QP.topI (y := nI (6 - (n + more))) (pk_sub (a := 6) (by omega)) ?_
  refine qs_Jp dX3_freeWithMore_11 mX3_119 (c_powerOfTen G (6 - (n + more)) (by omega)) rfl rfl rfl rfl rfl rfl ?_
  refine qp_l2i dX3_freeWithMore_14 ?_
  refine QP.topI (y := nI (10 ^ (6 - (n + more)))) l2i_pow ?_
  refine qp_istore dX3_freeWithMore_15 (by decide) ?_
  refine QP.locsE (L1 := [some (.ref o0), some (.ref a), some (.int (nI more)), some (.int (nI (n + more))), some (.int (nI (10 ^ (6 - (n + more))))), none, none, none]) rfl ?_
  refine qp_iload_n dX3_freeWithMore_17 rfl ?_
  refine qs_Jp dX3_freeWithMore_18 mX3_119 (c_powerOfTen G (more) (by omega)) rfl rfl rfl rfl rfl rfl ?_
  refine qp_l2i dX3_freeWithMore_21 ?_
  refine QP.topI (y := nI (10 ^ more)) l2i_pow ?_
  refine qp_istore dX3_freeWithMore_22 (by decide) ?_
  refine QP.locsE (L1 := [some (.ref o0), some (.ref a), some (.int (nI more)), some (.int (nI (n + more))), some (.int (nI (10 ^ (6 - (n + more))))), some (.int (nI (10 ^ more))), none, none]) rfl ?_
  refine qp_aload_n dX3_freeWithMore_24 rfl ?_
  refine qv_Ip dX3_freeWithMore_25 mX3_123 (c_cutterAsWritten G hcut hcn (by omega) (by omega) ga) ga rfl rfl rfl rfl rfl rfl rfl ?_
  refine qp_iload dX3_freeWithMore_28 rfl ?_
  refine qp_imul dX3_freeWithMore_30 ?_
  refine QP.topI (y := nI (cu / 10 ^ (6 - n) * 10 ^ more)) (pk_mul _ _) ?_
  refine qp_istore dX3_freeWithMore_31 (by decide) ?_
  refine QP.locsE (L1 := [some (.ref o0), some (.ref a), some (.int (nI more)), some (.int (nI (n + more))), some (.int (nI (10 ^ (6 - (n + more))))), some (.int (nI (10 ^ more))), some (.int (nI (cu / 10 ^ (6 - n) * 10 ^ more))), none]) rfl ?_
  refine qp_iload dX3_freeWithMore_33 rfl ?_
  refine qp_bipush (v := 10) dX3_freeWithMore_35 (by decide) ?_
  refine qp_idiv dX3_freeWithMore_37 (by decide) ?_
  refine QP.topI (y := nI (10 ^ more / 10)) (pk_div (by have := pow_le6 (e := more) (by omega); omega) (by decide) (by decide)) ?_
  refine qp_istore dX3_freeWithMore_38 (by decide) ?_
  refine QP.locsE (L1 := [some (.ref o0), some (.ref a), some (.int (nI more)), some (.int (nI (n + more))), some (.int (nI (10 ^ (6 - (n + more))))), some (.int (nI (10 ^ more))), some (.int (nI (cu / 10 ^ (6 - n) * 10 ^ more))), some (.int (nI (10 ^ more / 10)))]) rfl ?_
  have hb := pow_le6 (e := more) (by omega)
  exact l_freeWithMore hb go hc gk gn hok ga (10 ^ more + 1) (10 ^ more / 10) (Nat.lt_of_lt_of_le (Nat.lt_succ_self _) (Nat.le_add_left _ _)) (Nat.div_le_self _ _) rfl
def sFreeFrom (F : Nat → Int32) : Nat → Nat → Int32
  | 0, _ => 0
  | t + 1, m => if F m = 0 then sFreeFrom F t (m + 1) else F m
set_option maxHeartbeats 4000000 in
set_option maxRecDepth 100000 in
theorem c_freeN (G : qG) {h : qH} {o0 r k0 : Nat} {tol : Option Nat} (go : h o0 = some (csCell r k0 none tol)) : qMet G M_X3_free [.ref o0] h (qI (fun v h1 => h1 = h ∧ v = 0)) := by
  refine qMet.of (by decide) (Nat.le_of_ble_eq_true rfl) rfl ?_
  refine QP.locsE (L1 := [some (.ref o0), none, none]) rfl ?_
  refine qp_aload_n dX3_free_0 rfl ?_
  refine qp_getf dX3_free_1 fX3_25 go rfl ?_
  refine qp_ifnonnullN dX3_free_4 ?_
  refine qp_iconst (v := 0) dX3_free_7 (by decide) ?_
  exact qr_i dX3_free_8 rfl rfl rfl ⟨rfl, rfl⟩
set_option maxHeartbeats 4000000 in
set_option maxRecDepth 100000 in
theorem l_free {G : qG} {h : qH} {o0 r k0 nb rc a ln c : Nat} {tol : Option Nat} {N : Nat → Option Nat} {X : Nat → CNv} {y : CNv} {cu n : Nat} {res : Int32} (hcut : y.cut = nI cu) (hcn : y.cutn = nI n) (hcu : cu < 1000000) (hn6 : n ≤ 6) (go : h o0 = some (csCell r k0 (some a) tol)) (hc : c ≤ 60) (gk : h k0 = some (shCell nb rc (nI c))) (gn : h nb = some (nbCell N)) (hok : ShOk h c N X) (ga : h a = some (cnCell y ln)) : ∀ (t more : Nat), 7 - n < more + t → more ≤ 7 - n → res = sFreeFrom (sFreeM X y c (cu / 10 ^ (6 - n)) n) (7 - n - more) more → QP G M_X3_free qTr (qMZ G M_X3_free (qI (fun v h1 => h1 = h ∧ v = res))) 11 [some (.ref o0), some (.int (nI more)), none] [] h 0 0 := by
  intro t
  induction t with
  | zero =>
    intro more h1 h2
    omega
  | succ t ih =>
    intro more h1 h2 hr
    refine qp_iload_n dX3_free_11 rfl ?_
    refine qp_bipush (v := 6) dX3_free_12 (by decide) ?_
    refine qp_aload_n dX3_free_14 rfl ?_
    refine qp_getf dX3_free_15 fX3_25 go rfl ?_
    refine qp_getf dX3_free_18 fX3_106 ga rfl ?_
    refine qp_isub dX3_free_21 ?_
    refine QP.topI (y := nI (6 - n)) (show (6 : Int32) - y.cutn = nI (6 - n) by rw [hcn]; exact pk_sub (a := 6) (by omega)) ?_
    refine qp_icmp_gt 47 dX3_free_22 (by decide) (fun c_22 => ?_) (fun c_22 => ?_)
    · have hk : 6 - n < more := (nI_ltI (by omega) (by omega)).mp c_22
      refine qp_iconst (v := 0) dX3_free_47 (by decide) ?_
      exact qr_i dX3_free_48 rfl rfl rfl ⟨rfl, by rw [hr, show 7 - n - more = 0 by omega]; rfl⟩
    · have hk : more ≤ 6 - n := Nat.not_lt.mp fun q => c_22 ((nI_ltI (by omega) (by omega)).mpr q)
      refine qp_aload_n dX3_free_25 rfl ?_
      refine qp_aload_n dX3_free_26 rfl ?_
      refine qp_getf dX3_free_27 fX3_25 go rfl ?_
      refine qp_iload_n dX3_free_30 rfl ?_
      refine qv_Ip dX3_free_31 mX3_109 (c_freeWithMore G cu n more hcut hcn hcu (by omega) go hc gk gn hok ga) go rfl rfl rfl rfl rfl rfl rfl ?_
      refine QP.nameI (fun V eV => ?_)
      refine qp_istore_n dX3_free_34 (by decide) ?_
      refine QP.locsE (L1 := [some (.ref o0), some (.int (nI more)), some (.int (V))]) rfl ?_
      refine qp_iload_n dX3_free_35 rfl ?_
      refine qp_if_eq 41 dX3_free_36 (by decide) (fun c_36 => ?_) (fun c_36 => ?_)
      · refine qp_iinc (v := nI (more + 1)) dX3_free_41 rfl (by decide) (nI_1 more) ?_
        refine QP.locsE (L1 := [some (.ref o0), some (.int (nI (more + 1))), some (.int (V))]) rfl ?_
        refine qp_goto 11 dX3_free_44 (by decide) ?_
        refine QP.forget 2 ?_
        refine ih (more + 1) (by omega) (by omega) ?_
        rw [hr, show 7 - n - more = (7 - n - (more + 1)) + 1 by omega, sFreeFrom, if_pos (by rw [← eV]; exact c_36)]
      · refine qp_iload_n dX3_free_39 rfl ?_
        exact qr_i dX3_free_40 rfl rfl rfl ⟨rfl, by rw [hr, show 7 - n - more = (7 - n - (more + 1)) + 1 by omega, sFreeFrom, if_neg (by rw [← eV]; exact c_36), ← eV]⟩
set_option maxHeartbeats 4000000 in
set_option maxRecDepth 100000 in
theorem c_free (G : qG) {h : qH} {o0 r k0 nb rc a ln c : Nat} {tol : Option Nat} {N : Nat → Option Nat} {X : Nat → CNv} {y : CNv} (cu n : Nat) (hcut : y.cut = nI cu) (hcn : y.cutn = nI n) (hcu : cu < 1000000) (hn6 : n ≤ 6) (go : h o0 = some (csCell r k0 (some a) tol)) (hc : c ≤ 60) (gk : h k0 = some (shCell nb rc (nI c))) (gn : h nb = some (nbCell N)) (hok : ShOk h c N X) (ga : h a = some (cnCell y ln)) : qMet G M_X3_free [.ref o0] h (qI (fun v h1 => h1 = h ∧ v = sFreeFrom (sFreeM X y c (cu / 10 ^ (6 - n)) n) (7 - n) 0)) := by
  refine qMet.of (by decide) (Nat.le_of_ble_eq_true rfl) rfl ?_
  refine QP.locsE (L1 := [some (.ref o0), none, none]) rfl ?_
  refine qp_aload_n dX3_free_0 rfl ?_
  refine qp_getf dX3_free_1 fX3_25 go rfl ?_
  refine qp_ifnonnull 9 dX3_free_4 (by decide) ?_
  refine qp_iconst (v := 0) dX3_free_9 (by decide) ?_
  refine qp_istore_n dX3_free_10 (by decide) ?_
  refine QP.locsE (L1 := [some (.ref o0), some (.int (0)), none]) rfl ?_
  exact l_free hcut hcn hcu hn6 go hc gk gn hok ga 8 0 (by omega) (by omega) rfl
set_option maxHeartbeats 4000000 in
set_option maxRecDepth 100000 in
theorem c_csInit0 (G : qG) {h : qH} {o0 : Nat} (sch : Int32) (hsch : sch < 1) (no : G.2.1 ≤ o0) (go : h o0 = some (.inr (4, [.null, .null, .null, .null]))) : qMet G M_X3_init [.ref o0, .int sch] h (qV (fun h1 => ∃ r sgn k0 nb rc : Nat, G.2.1 ≤ r ∧ G.2.1 ≤ sgn ∧ G.2.1 ≤ k0 ∧ G.2.1 ≤ nb ∧ G.2.1 ≤ rc ∧ h r = none ∧ h sgn = none ∧ h k0 = none ∧ h nb = none ∧ h rc = none ∧ sgn ≠ rc ∧ h1 o0 = some (csCell r k0 none none) ∧ h1 r = some (rdCell 0 sgn 0 0) ∧ h1 sgn = some (sgCell (fun _ => 0)) ∧ h1 k0 = some (shCell nb rc 0) ∧ h1 nb = some (nbCell (fun _ => none)) ∧ h1 rc = some (rcCell (fun _ => 0)) ∧ ∀ b : Nat, b ≠ o0 → b ≠ r → b ≠ sgn → b ≠ k0 → b ≠ nb → b ≠ rc → h1 b = h b)) := by
  refine qMet.of (by decide) (Nat.le_of_ble_eq_true rfl) rfl ?_
  refine QP.locsE (L1 := [some (.ref o0), some (.int (sch))]) rfl ?_
  refine qp_aload_n dX3_init_0 rfl ?_
  refine qp_objInit dX3_init_1 oiX3_1 oi_in oi_cd (Nat.le_of_ble_eq_true rfl) (Nat.le_of_ble_eq_true rfl) ?_
  refine qp_aload_n dX3_init_4 rfl ?_
  refine qk_new dX3_init_5 nX3_7 rfl rfl rfl (fun r h1 n4 z5 g2 o3 => ?_)
  have z6 : h r = none := z5
  have g7 : h1 o0 = some (.inr (4, [.null, .null, .null, .null])) := (o3 _ (ne_of_none go z5)).trans go
  have g2 : h1 r = some (.inr (2, [.int (0), .null, .int (0), .int (0)])) := g2
  refine qp_dup dX3_init_8 rfl ?_
  refine qp_iload_n dX3_init_9 rfl ?_
  refine qp_iconst (v := 1) dX3_init_10 (by decide) ?_
  refine qp_icmp_lt 18 dX3_init_11 (by decide) (fun c_11 => ?_) (fun c_11 => absurd hsch c_11)
  refine qp_iconst (v := 0) dX3_init_18 (by decide) ?_
  refine qi_V dX3_init_19 mX3_9 (c_rdInit G (false) n4 g2) rfl rfl rfl rfl rfl rfl (fun h9 p10 => ?_)
  obtain ⟨sgn, ns, zs, gr2, gs2, or2⟩ := p10
  have zs0 : h sgn = none := ((o3 sgn (Ne.symm (ne_of_none g2 zs)))).symm.trans zs
  have g11 : h9 o0 = some (.inr (4, [.null, .null, .null, .null])) := (or2 _ (ne_of_cells g7 g2 (by simp)) (ne_of_none g7 zs)).trans g7
  have gr2 : h9 r = some (.inr (2, [.int (0), .ref sgn, .int (0), .int (0)])) := gr2
  have gs2 : h9 sgn = some (.inl (0, 60, .inl (fun _ => 0))) := gs2
  refine qk_putF dX3_init_22 ffX3_12 g11 no rfl rfl rfl rfl rfl rfl rfl (fun h12 g13 o14 => ?_)
  have g15 : h12 r = some (.inr (2, [.int (0), .ref sgn, .int (0), .int (0)])) := (o14 _ (ne_of_cells gr2 g11 (by simp))).trans gr2
  have g16 : h12 sgn = some (.inl (0, 60, .inl (fun _ => 0))) := (o14 _ (ne_of_cells gs2 g11 (by simp))).trans gs2
  have g13 : h12 o0 = some (.inr (4, [.ref r, .null, .null, .null])) := g13
  refine qp_aload_n dX3_init_25 rfl ?_
  refine qk_new dX3_init_26 nX3_18 rfl rfl rfl (fun k0 h17 n20 z21 g18 o19 => ?_)
  have z22 : h k0 = none := ((((o14 k0 (Ne.symm (ne_of_none g13 z21))).trans (or2 k0 (Ne.symm (ne_of_none g15 z21)) (Ne.symm (ne_of_none g16 z21)))).trans (o3 k0 (Ne.symm (ne_of_none g15 z21))))).symm.trans z21
  have g23 : h17 r = some (.inr (2, [.int (0), .ref sgn, .int (0), .int (0)])) := (o19 _ (ne_of_none g15 z21)).trans g15
  have g24 : h17 sgn = some (.inl (0, 60, .inl (fun _ => 0))) := (o19 _ (ne_of_none g16 z21)).trans g16
  have g25 : h17 o0 = some (.inr (4, [.ref r, .null, .null, .null])) := (o19 _ (ne_of_none g13 z21)).trans g13
  have g18 : h17 k0 = some (.inr (3, [.null, .null, .int (0)])) := g18
  refine qp_dup dX3_init_29 rfl ?_
  refine qi_V dX3_init_30 mX3_20 (c_shInit G n20 g18) rfl rfl rfl rfl rfl rfl (fun h27 p28 => ?_)
  obtain ⟨nb, rc, nnb, nrc, hbr, zb, zc, gk2, gn2, gc2, os2⟩ := p28
  have zb0 : h nb = none := (((((o19 nb (Ne.symm (ne_of_none g18 zb))).trans (o14 nb (Ne.symm (ne_of_none g25 zb)))).trans (or2 nb (Ne.symm (ne_of_none g23 zb)) (Ne.symm (ne_of_none g24 zb)))).trans (o3 nb (Ne.symm (ne_of_none g23 zb))))).symm.trans zb
  have zc0 : h rc = none := (((((o19 rc (Ne.symm (ne_of_none g18 zc))).trans (o14 rc (Ne.symm (ne_of_none g25 zc)))).trans (or2 rc (Ne.symm (ne_of_none g23 zc)) (Ne.symm (ne_of_none g24 zc)))).trans (o3 rc (Ne.symm (ne_of_none g23 zc))))).symm.trans zc
  have hsr : sgn ≠ rc := ne_of_none g24 zc
  have g29 : h27 r = some (.inr (2, [.int (0), .ref sgn, .int (0), .int (0)])) := (os2 _ (ne_of_cells g23 g18 (by simp)) (ne_of_none g23 zb) (ne_of_none g23 zc)).trans g23
  have g30 : h27 sgn = some (.inl (0, 60, .inl (fun _ => 0))) := (os2 _ (ne_of_cells g24 g18 (by simp)) (ne_of_none g24 zb) (ne_of_none g24 zc)).trans g24
  have g31 : h27 o0 = some (.inr (4, [.ref r, .null, .null, .null])) := (os2 _ (ne_of_cells g25 g18 (by simp)) (ne_of_none g25 zb) (ne_of_none g25 zc)).trans g25
  have gk2 : h27 k0 = some (.inr (3, [.ref nb, .ref rc, .int (0)])) := gk2
  have gn2 : h27 nb = some (.inl (3, 60, .inr (.inr (.inr (.inr (fun _ => none)))))) := gn2
  have gc2 : h27 rc = some (.inl (0, 60, .inl (fun _ => 0))) := gc2
  refine qk_putF dX3_init_33 ffX3_21 g31 no rfl rfl rfl rfl rfl rfl rfl (fun h32 g33 o34 => ?_)
  have g35 : h32 r = some (.inr (2, [.int (0), .ref sgn, .int (0), .int (0)])) := (o34 _ (ne_of_cells g29 g31 (by simp))).trans g29
  have g36 : h32 sgn = some (.inl (0, 60, .inl (fun _ => 0))) := (o34 _ (ne_of_cells g30 g31 (by simp))).trans g30
  have g37 : h32 k0 = some (.inr (3, [.ref nb, .ref rc, .int (0)])) := (o34 _ (ne_of_cells gk2 g31 (by simp))).trans gk2
  have g38 : h32 nb = some (.inl (3, 60, .inr (.inr (.inr (.inr (fun _ => none)))))) := (o34 _ (ne_of_cells gn2 g31 (by simp))).trans gn2
  have g39 : h32 rc = some (.inl (0, 60, .inl (fun _ => 0))) := (o34 _ (ne_of_cells gc2 g31 (by simp))).trans gc2
  have g33 : h32 o0 = some (.inr (4, [.ref r, .ref k0, .null, .null])) := g33
  refine qp_aload_n dX3_init_36 rfl ?_
  refine qp_null dX3_init_37 ?_
  refine qk_put dX3_init_38 fX3_25 g33 no rfl rfl rfl rfl rfl (fun h40 g41 o42 => ?_)
  have g43 : h40 r = some (.inr (2, [.int (0), .ref sgn, .int (0), .int (0)])) := (o42 _ (ne_of_cells g35 g33 (by simp))).trans g35
  have g44 : h40 sgn = some (.inl (0, 60, .inl (fun _ => 0))) := (o42 _ (ne_of_cells g36 g33 (by simp))).trans g36
  have g45 : h40 k0 = some (.inr (3, [.ref nb, .ref rc, .int (0)])) := (o42 _ (ne_of_cells g37 g33 (by simp))).trans g37
  have g46 : h40 nb = some (.inl (3, 60, .inr (.inr (.inr (.inr (fun _ => none)))))) := (o42 _ (ne_of_cells g38 g33 (by simp))).trans g38
  have g47 : h40 rc = some (.inl (0, 60, .inl (fun _ => 0))) := (o42 _ (ne_of_cells g39 g33 (by simp))).trans g39
  have g41 : h40 o0 = some (.inr (4, [.ref r, .ref k0, .null, .null])) := g41
  refine qp_aload_n dX3_init_41 rfl ?_
  refine qp_null dX3_init_42 ?_
  refine qk_put dX3_init_43 fX3_29 g41 no rfl rfl rfl rfl rfl (fun h48 g49 o50 => ?_)
  have g51 : h48 r = some (.inr (2, [.int (0), .ref sgn, .int (0), .int (0)])) := (o50 _ (ne_of_cells g43 g41 (by simp))).trans g43
  have g52 : h48 sgn = some (.inl (0, 60, .inl (fun _ => 0))) := (o50 _ (ne_of_cells g44 g41 (by simp))).trans g44
  have g53 : h48 k0 = some (.inr (3, [.ref nb, .ref rc, .int (0)])) := (o50 _ (ne_of_cells g45 g41 (by simp))).trans g45
  have g54 : h48 nb = some (.inl (3, 60, .inr (.inr (.inr (.inr (fun _ => none)))))) := (o50 _ (ne_of_cells g46 g41 (by simp))).trans g46
  have g55 : h48 rc = some (.inl (0, 60, .inl (fun _ => 0))) := (o50 _ (ne_of_cells g47 g41 (by simp))).trans g47
  have g49 : h48 o0 = some (.inr (4, [.ref r, .ref k0, .null, .null])) := g49
  exact qr_v dX3_init_46 rfl rfl rfl ⟨r, sgn, k0, nb, rc, n4, ns, n20, nnb, nrc, z6, zs0, z22, zb0, zc0, hsr, g49, g51, g52, g53, g54, g55, fun b hb0 hb1 hb2 hb3 hb4 hb5 => ((((((((o50 b hb0).trans (o42 b hb0)).trans (o34 b hb0)).trans (os2 b hb3 hb4 hb5)).trans (o19 b hb3)).trans (o14 b hb0)).trans (or2 b hb1 hb2)).trans (o3 b hb1))⟩
set_option maxHeartbeats 4000000 in
set_option maxRecDepth 100000 in
theorem c_csInit1 (G : qG) {h : qH} {o0 : Nat} (sch : Int32) (hsch : ¬ sch < 1) (no : G.2.1 ≤ o0) (go : h o0 = some (.inr (4, [.null, .null, .null, .null]))) : qMet G M_X3_init [.ref o0, .int sch] h (qV (fun h1 => ∃ r sgn k0 nb rc : Nat, G.2.1 ≤ r ∧ G.2.1 ≤ sgn ∧ G.2.1 ≤ k0 ∧ G.2.1 ≤ nb ∧ G.2.1 ≤ rc ∧ h r = none ∧ h sgn = none ∧ h k0 = none ∧ h nb = none ∧ h rc = none ∧ sgn ≠ rc ∧ h1 o0 = some (csCell r k0 none none) ∧ h1 r = some (rdCell 1 sgn 0 0) ∧ h1 sgn = some (sgCell (fun _ => 0)) ∧ h1 k0 = some (shCell nb rc 0) ∧ h1 nb = some (nbCell (fun _ => none)) ∧ h1 rc = some (rcCell (fun _ => 0)) ∧ ∀ b : Nat, b ≠ o0 → b ≠ r → b ≠ sgn → b ≠ k0 → b ≠ nb → b ≠ rc → h1 b = h b)) := by
  refine qMet.of (by decide) (Nat.le_of_ble_eq_true rfl) rfl ?_
  refine QP.locsE (L1 := [some (.ref o0), some (.int (sch))]) rfl ?_
  refine qp_aload_n dX3_init_0 rfl ?_
  refine qp_objInit dX3_init_1 oiX3_1 oi_in oi_cd (Nat.le_of_ble_eq_true rfl) (Nat.le_of_ble_eq_true rfl) ?_
  refine qp_aload_n dX3_init_4 rfl ?_
  refine qk_new dX3_init_5 nX3_7 rfl rfl rfl (fun r h1 n4 z5 g2 o3 => ?_)
  have z6 : h r = none := z5
  have g7 : h1 o0 = some (.inr (4, [.null, .null, .null, .null])) := (o3 _ (ne_of_none go z5)).trans go
  have g2 : h1 r = some (.inr (2, [.int (0), .null, .int (0), .int (0)])) := g2
  refine qp_dup dX3_init_8 rfl ?_
  refine qp_iload_n dX3_init_9 rfl ?_
  refine qp_iconst (v := 1) dX3_init_10 (by decide) ?_
  refine qp_icmp_lt 18 dX3_init_11 (by decide) (fun c_11 => absurd c_11 hsch) (fun c_11 => ?_)
  refine qp_iconst (v := 1) dX3_init_14 (by decide) ?_
  refine qp_goto 19 dX3_init_15 (by decide) ?_
  refine qi_V dX3_init_19 mX3_9 (c_rdInit G (true) n4 g2) rfl rfl rfl rfl rfl rfl (fun h9 p10 => ?_)
  obtain ⟨sgn, ns, zs, gr2, gs2, or2⟩ := p10
  have zs0 : h sgn = none := ((o3 sgn (Ne.symm (ne_of_none g2 zs)))).symm.trans zs
  have g11 : h9 o0 = some (.inr (4, [.null, .null, .null, .null])) := (or2 _ (ne_of_cells g7 g2 (by simp)) (ne_of_none g7 zs)).trans g7
  have gr2 : h9 r = some (.inr (2, [.int (1), .ref sgn, .int (0), .int (0)])) := gr2
  have gs2 : h9 sgn = some (.inl (0, 60, .inl (fun _ => 0))) := gs2
  refine qk_putF dX3_init_22 ffX3_12 g11 no rfl rfl rfl rfl rfl rfl rfl (fun h12 g13 o14 => ?_)
  have g15 : h12 r = some (.inr (2, [.int (1), .ref sgn, .int (0), .int (0)])) := (o14 _ (ne_of_cells gr2 g11 (by simp))).trans gr2
  have g16 : h12 sgn = some (.inl (0, 60, .inl (fun _ => 0))) := (o14 _ (ne_of_cells gs2 g11 (by simp))).trans gs2
  have g13 : h12 o0 = some (.inr (4, [.ref r, .null, .null, .null])) := g13
  refine qp_aload_n dX3_init_25 rfl ?_
  refine qk_new dX3_init_26 nX3_18 rfl rfl rfl (fun k0 h17 n20 z21 g18 o19 => ?_)
  have z22 : h k0 = none := ((((o14 k0 (Ne.symm (ne_of_none g13 z21))).trans (or2 k0 (Ne.symm (ne_of_none g15 z21)) (Ne.symm (ne_of_none g16 z21)))).trans (o3 k0 (Ne.symm (ne_of_none g15 z21))))).symm.trans z21
  have g23 : h17 r = some (.inr (2, [.int (1), .ref sgn, .int (0), .int (0)])) := (o19 _ (ne_of_none g15 z21)).trans g15
  have g24 : h17 sgn = some (.inl (0, 60, .inl (fun _ => 0))) := (o19 _ (ne_of_none g16 z21)).trans g16
  have g25 : h17 o0 = some (.inr (4, [.ref r, .null, .null, .null])) := (o19 _ (ne_of_none g13 z21)).trans g13
  have g18 : h17 k0 = some (.inr (3, [.null, .null, .int (0)])) := g18
  refine qp_dup dX3_init_29 rfl ?_
  refine qi_V dX3_init_30 mX3_20 (c_shInit G n20 g18) rfl rfl rfl rfl rfl rfl (fun h27 p28 => ?_)
  obtain ⟨nb, rc, nnb, nrc, hbr, zb, zc, gk2, gn2, gc2, os2⟩ := p28
  have zb0 : h nb = none := (((((o19 nb (Ne.symm (ne_of_none g18 zb))).trans (o14 nb (Ne.symm (ne_of_none g25 zb)))).trans (or2 nb (Ne.symm (ne_of_none g23 zb)) (Ne.symm (ne_of_none g24 zb)))).trans (o3 nb (Ne.symm (ne_of_none g23 zb))))).symm.trans zb
  have zc0 : h rc = none := (((((o19 rc (Ne.symm (ne_of_none g18 zc))).trans (o14 rc (Ne.symm (ne_of_none g25 zc)))).trans (or2 rc (Ne.symm (ne_of_none g23 zc)) (Ne.symm (ne_of_none g24 zc)))).trans (o3 rc (Ne.symm (ne_of_none g23 zc))))).symm.trans zc
  have hsr : sgn ≠ rc := ne_of_none g24 zc
  have g29 : h27 r = some (.inr (2, [.int (1), .ref sgn, .int (0), .int (0)])) := (os2 _ (ne_of_cells g23 g18 (by simp)) (ne_of_none g23 zb) (ne_of_none g23 zc)).trans g23
  have g30 : h27 sgn = some (.inl (0, 60, .inl (fun _ => 0))) := (os2 _ (ne_of_cells g24 g18 (by simp)) (ne_of_none g24 zb) (ne_of_none g24 zc)).trans g24
  have g31 : h27 o0 = some (.inr (4, [.ref r, .null, .null, .null])) := (os2 _ (ne_of_cells g25 g18 (by simp)) (ne_of_none g25 zb) (ne_of_none g25 zc)).trans g25
  have gk2 : h27 k0 = some (.inr (3, [.ref nb, .ref rc, .int (0)])) := gk2
  have gn2 : h27 nb = some (.inl (3, 60, .inr (.inr (.inr (.inr (fun _ => none)))))) := gn2
  have gc2 : h27 rc = some (.inl (0, 60, .inl (fun _ => 0))) := gc2
  refine qk_putF dX3_init_33 ffX3_21 g31 no rfl rfl rfl rfl rfl rfl rfl (fun h32 g33 o34 => ?_)
  have g35 : h32 r = some (.inr (2, [.int (1), .ref sgn, .int (0), .int (0)])) := (o34 _ (ne_of_cells g29 g31 (by simp))).trans g29
  have g36 : h32 sgn = some (.inl (0, 60, .inl (fun _ => 0))) := (o34 _ (ne_of_cells g30 g31 (by simp))).trans g30
  have g37 : h32 k0 = some (.inr (3, [.ref nb, .ref rc, .int (0)])) := (o34 _ (ne_of_cells gk2 g31 (by simp))).trans gk2
  have g38 : h32 nb = some (.inl (3, 60, .inr (.inr (.inr (.inr (fun _ => none)))))) := (o34 _ (ne_of_cells gn2 g31 (by simp))).trans gn2
  have g39 : h32 rc = some (.inl (0, 60, .inl (fun _ => 0))) := (o34 _ (ne_of_cells gc2 g31 (by simp))).trans gc2
  have g33 : h32 o0 = some (.inr (4, [.ref r, .ref k0, .null, .null])) := g33
  refine qp_aload_n dX3_init_36 rfl ?_
  refine qp_null dX3_init_37 ?_
  refine qk_put dX3_init_38 fX3_25 g33 no rfl rfl rfl rfl rfl (fun h40 g41 o42 => ?_)
  have g43 : h40 r = some (.inr (2, [.int (1), .ref sgn, .int (0), .int (0)])) := (o42 _ (ne_of_cells g35 g33 (by simp))).trans g35
  have g44 : h40 sgn = some (.inl (0, 60, .inl (fun _ => 0))) := (o42 _ (ne_of_cells g36 g33 (by simp))).trans g36
  have g45 : h40 k0 = some (.inr (3, [.ref nb, .ref rc, .int (0)])) := (o42 _ (ne_of_cells g37 g33 (by simp))).trans g37
  have g46 : h40 nb = some (.inl (3, 60, .inr (.inr (.inr (.inr (fun _ => none)))))) := (o42 _ (ne_of_cells g38 g33 (by simp))).trans g38
  have g47 : h40 rc = some (.inl (0, 60, .inl (fun _ => 0))) := (o42 _ (ne_of_cells g39 g33 (by simp))).trans g39
  have g41 : h40 o0 = some (.inr (4, [.ref r, .ref k0, .null, .null])) := g41
  refine qp_aload_n dX3_init_41 rfl ?_
  refine qp_null dX3_init_42 ?_
  refine qk_put dX3_init_43 fX3_29 g41 no rfl rfl rfl rfl rfl (fun h48 g49 o50 => ?_)
  have g51 : h48 r = some (.inr (2, [.int (1), .ref sgn, .int (0), .int (0)])) := (o50 _ (ne_of_cells g43 g41 (by simp))).trans g43
  have g52 : h48 sgn = some (.inl (0, 60, .inl (fun _ => 0))) := (o50 _ (ne_of_cells g44 g41 (by simp))).trans g44
  have g53 : h48 k0 = some (.inr (3, [.ref nb, .ref rc, .int (0)])) := (o50 _ (ne_of_cells g45 g41 (by simp))).trans g45
  have g54 : h48 nb = some (.inl (3, 60, .inr (.inr (.inr (.inr (fun _ => none)))))) := (o50 _ (ne_of_cells g46 g41 (by simp))).trans g46
  have g55 : h48 rc = some (.inl (0, 60, .inl (fun _ => 0))) := (o50 _ (ne_of_cells g47 g41 (by simp))).trans g47
  have g49 : h48 o0 = some (.inr (4, [.ref r, .ref k0, .null, .null])) := g49
  exact qr_v dX3_init_46 rfl rfl rfl ⟨r, sgn, k0, nb, rc, n4, ns, n20, nnb, nrc, z6, zs0, z22, zb0, zc0, hsr, g49, g51, g52, g53, g54, g55, fun b hb0 hb1 hb2 hb3 hb4 hb5 => ((((((((o50 b hb0).trans (o42 b hb0)).trans (o34 b hb0)).trans (os2 b hb3 hb4 hb5)).trans (o19 b hb3)).trans (o14 b hb0)).trans (or2 b hb1 hb2)).trans (o3 b hb1))⟩
end
section
abbrev mdCell (thr sch : Int32) (sa : Nat) (sz : Int32) (nw la : Nat) (th : Int32) (sh rcm : Nat) (cnt : Int32) (bf : Nat) (ps at' wr : Int32) : qE := .inr (5, [.int thr, .int sch, .ref sa, .int sz, .ref nw, .ref la, .int th, .ref sh, .ref rcm, .int cnt, .ref bf, .int ps, .int at', .int wr])
abbrev saCell (g : Nat → Int32) : qE := .inl (1, 60, .inl g)
abbrev rwCell (w : Nat → Int32) : qE := .inl (0, 40, .inl w)
abbrev mshCell (w : Nat → Int32) : qE := .inl (0, 2400, .inl w)
/-- the reference's signs -/
def Sm (z : Nat) (g : Nat → Int32) : Nat → Int32 := fun p => if p < z then g p &&& 255 else -1
/-- what reading comes to: the wrong place, or the next place and the row -/
abbrev MOut : Type := Nat ⊕ (Nat × (Nat → Int32))
def mOk (o : MOut) : Bool := match o with
  | .inl _ => false
  | .inr _ => true
set_option maxHeartbeats 4000000 in
set_option maxRecDepth 100000 in
theorem m_thrown (G : qG) {h : qH} {thr sch th cnt ps wr sz pp : Int32} {m0 sa nw la sh rcm bf : Nat} (gm : h m0 = some (mdCell thr sch sa sz nw la th sh rcm cnt bf ps pp wr)) : qMet G M_X4_thrown [.ref m0] h (qI (fun v h1 => h1 = h ∧ v = thr)) := by
  refine qMet.of (by decide) (Nat.le_of_ble_eq_true rfl) rfl ?_
  refine QP.locsE (L1 := [some (.ref m0)]) rfl ?_
  refine qp_aload_n dX4_thrown_0 rfl ?_
  refine qp_getf dX4_thrown_1 fX4_33 gm rfl ?_
  exact qr_i dX4_thrown_4 rfl rfl rfl ⟨rfl, rfl⟩
set_option maxHeartbeats 4000000 in
set_option maxRecDepth 100000 in
theorem m_look (G : qG) {h : qH} {thr sch th cnt ps wr : Int32} {m0 sa nw la sh rcm bf z p : Nat} {g : Nat → Int32} (hz : z ≤ 60) (hp : p < 2147483648) (gm : h m0 = some (mdCell thr sch sa (nI z) nw la th sh rcm cnt bf ps (nI p) wr)) (gs : h sa = some (saCell g)) : qMet G M_X4_look [.ref m0] h (qI (fun v h1 => h1 = h ∧ v = Sm z g p)) := by
  refine qMet.of (by decide) (Nat.le_of_ble_eq_true rfl) rfl ?_
  refine QP.locsE (L1 := [some (.ref m0)]) rfl ?_
  refine qp_aload_n dX4_look_0 rfl ?_
  refine qp_getf dX4_look_1 fX4_39 gm rfl ?_
  refine qp_aload_n dX4_look_4 rfl ?_
  refine qp_getf dX4_look_5 fX4_36 gm rfl ?_
  refine qp_icmp_ge 27 dX4_look_8 (by decide) (fun c_8 => ?_) (fun c_8 => ?_)
  · have hk : z ≤ p := (nI_leI (by omega) (by omega)).mp c_8
    refine qp_iconst (v := -1) dX4_look_27 (by decide) ?_
    exact qr_i dX4_look_28 rfl rfl rfl ⟨rfl, by simp only [Sm]; rw [if_neg (by omega)]⟩
  · have hk : p < z := Nat.not_le.mp fun q => c_8 ((nI_leI (by omega) (by omega)).mpr q)
    refine qp_aload_n dX4_look_11 rfl ?_
    refine qp_getf dX4_look_12 fX4_7 gm rfl ?_
    refine qp_aload_n dX4_look_15 rfl ?_
    refine qp_getf dX4_look_16 fX4_39 gm rfl ?_
    refine qp_baldN (p) dX4_look_19 gs rfl (by omega) (by decide) ?_
    refine qp_sipush (v := 255) dX4_look_20 (by decide) ?_
    refine qp_iand dX4_look_23 ?_
    refine qp_goto 28 dX4_look_24 (by decide) ?_
    exact qr_i dX4_look_28 rfl rfl rfl ⟨rfl, by simp only [Sm]; rw [if_pos hk]⟩
set_option maxHeartbeats 4000000 in
set_option maxRecDepth 100000 in
theorem m_bad (G : qG) {h : qH} {thr sch th cnt ps wr sz pp : Int32} {m0 sa nw la sh rcm bf : Nat} (q : Int32) (nm : G.2.1 ≤ m0) (gm : h m0 = some (mdCell thr sch sa sz nw la th sh rcm cnt bf ps pp wr)) : qMet G M_X4_bad [.ref m0, .int q] h (qI (fun v h1 => v = 0 ∧ h1 m0 = some (mdCell thr sch sa sz nw la th sh rcm cnt bf ps pp q) ∧ ∀ b : Nat, b ≠ m0 → h1 b = h b)) := by
  refine qMet.of (by decide) (Nat.le_of_ble_eq_true rfl) rfl ?_
  refine QP.locsE (L1 := [some (.ref m0), some (.int (q))]) rfl ?_
  refine qp_aload_n dX4_bad_0 rfl ?_
  refine qp_iload_n dX4_bad_1 rfl ?_
  refine qk_put dX4_bad_2 fX4_42 gm nm rfl rfl rfl rfl rfl (fun h1 g2 o3 => ?_)
  have g2 : h1 m0 = some (.inr (5, [.int (thr), .int (sch), .ref sa, .int (sz), .ref nw, .ref la, .int (th), .ref sh, .ref rcm, .int (cnt), .ref bf, .int (ps), .int (pp), .int (q)])) := g2
  refine qp_iconst (v := 0) dX4_bad_5 (by decide) ?_
  exact qr_z dX4_bad_6 rfl nar_0 rfl rfl ⟨rfl, g2, fun b hb => (o3 b hb)⟩
def MdOut (h h1 : qH) (thr sch th cnt ps : Int32) (m0 sa nw la sh rcm bf z : Nat) (o : MOut) : Prop := match o with
  | .inl q => (∃ (pp : Int32) (w' : Nat → Int32), h1 m0 = some (mdCell thr sch sa (nI z) nw la th sh rcm cnt bf ps pp (nI q)) ∧ h1 nw = some (rwCell w')) ∧ ∀ b : Nat, b ≠ m0 → b ≠ nw → h1 b = h b
  | .inr y => (∃ wr : Int32, h1 m0 = some (mdCell thr sch sa (nI z) nw la th sh rcm cnt bf ps (nI y.1) wr) ∧ h1 nw = some (rwCell y.2)) ∧ ∀ b : Nat, b ≠ m0 → b ≠ nw → h1 b = h b
def MdIn (G : qG) (h : qH) (thr sch th cnt ps wr : Int32) (m0 sa nw la sh rcm bf z p : Nat) (g w : Nat → Int32) : Prop := G.2.1 ≤ m0 ∧ G.2.1 ≤ nw ∧ z ≤ 60 ∧ p ≤ 200 ∧ h m0 = some (mdCell thr sch sa (nI z) nw la th sh rcm cnt bf ps (nI p) wr) ∧ h sa = some (saCell g) ∧ h nw = some (rwCell w)
/-- the row with n digits, each one more, from a place on -/
def digW (w : Nat → Int32) (fr : Nat) (S : Nat → Int32) (p n : Nat) : Nat → Int32 := fun i => if fr ≤ i ∧ i < fr + n then S (p + (i - fr)) - 47 else w i
theorem digW_0 (w : Nat → Int32) (fr : Nat) (S : Nat → Int32) (p : Nat) : digW w fr S p 0 = w := by
  funext i
  simp only [digW]
  rw [if_neg (by omega)]
theorem digW_s (w : Nat → Int32) (fr : Nat) (S : Nat → Int32) (p n : Nat) : upd (digW w fr S p n) (fr + n) (S (p + n) - 47) = digW w fr S p (n + 1) := by
  funext i
  simp only [upd, digW]
  by_cases h1 : i = fr + n
  · subst h1
    rw [if_pos rfl, if_pos (by omega), show fr + n - fr = n by omega]
  · rw [if_neg h1]
    by_cases h2 : fr ≤ i ∧ i < fr + n
    · rw [if_pos h2, if_pos (by omega)]
    · rw [if_neg h2, if_neg (by omega)]
theorem digW_last {w : Nat → Int32} {fr : Nat} {S : Nat → Int32} {p n : Nat} (hn : 0 < n) : digW w fr S p n (fr + n - 1) = S (p + n - 1) - 47 := by
  simp only [digW]
  rw [if_pos (by omega), show p + (fr + n - 1 - fr) = p + n - 1 by omega]
def mDigits (S : Nat → Int32) (p fr most : Nat) (w : Nat → Int32) : MOut := if isDig (S (p + runD S most p)) = true then .inl (p + runD S most p) else if runD S most p = 0 then .inl (p + runD S most p) else if S (p + runD S most p - 1) = 48 then .inl (p + runD S most p - 1) else .inr (p + runD S most p, digW w fr S p (runD S most p))
theorem runD_dig {S : Nat → Int32} : ∀ (m p : Nat), (∀ j, j < m → isDig (S (p + j)) = true) → runD S m p = m
  | 0, _, _ => rfl
  | m + 1, p, h => by
    have h0 := h 0 (by omega)
    rw [Nat.add_zero] at h0
    rw [runD, if_pos h0, runD_dig m (p + 1) (fun j hj => by
      have := h (j + 1) (by omega)
      rwa [show p + 1 + j = p + (j + 1) by omega])]
theorem runD_stop {S : Nat → Int32} : ∀ (m p n : Nat), n ≤ m → (∀ j, j < n → isDig (S (p + j)) = true) → isDig (S (p + n)) = false → runD S m p = n
  | 0, _, n, h, _, _ => by simp [runD]; omega
  | m + 1, p, 0, _, _, h => by
    rw [Nat.add_zero] at h
    rw [runD, if_neg (by rw [h]; decide)]
  | m + 1, p, n + 1, h1, h2, h3 => by
    have h0 := h2 0 (by omega)
    rw [Nat.add_zero] at h0
    rw [runD, if_pos h0, runD_stop m (p + 1) n (by omega) (fun j hj => by
      have := h2 (j + 1) (by omega)
      rwa [show p + 1 + j = p + (j + 1) by omega]) (by rwa [show p + 1 + n = p + (n + 1) by omega])]
theorem i48 {x : Int32} : x - 47 = 1 ↔ x = 48 := by
  constructor
  · intro h
    have : x = x - 47 + 47 := by rw [Int32.sub_add_cancel]
    rw [this, h]; rfl
  · intro h
    subst h; rfl
set_option maxHeartbeats 4000000 in
set_option maxRecDepth 100000 in
theorem lm_digits {G : qG} {h0 : qH} {thr sch th cnt ps : Int32} {m0 sa nw la sh rcm bf z p fr most : Nat} {g w : Nat → Int32} {R : MOut} (nm : G.2.1 ≤ m0) (nn : G.2.1 ≤ nw) (hz : z ≤ 60) (hp : p ≤ 200) (hfr2 : fr + most ≤ 40) (hR : R = mDigits (Sm z g) p fr most w) : ∀ (t n : Nat) (wr : Int32) (h : qH), most < n + t → n ≤ most → (∀ j, j < n → isDig (Sm z g (p + j)) = true) → h m0 = some (mdCell thr sch sa (nI z) nw la th sh rcm cnt bf ps (nI (p + n)) wr) → h sa = some (saCell g) → h nw = some (rwCell (digW w fr (Sm z g) p n)) → (∀ b : Nat, b ≠ m0 → b ≠ nw → h b = h0 b) → QP G M_X4_digits qTr (qMZ G M_X4_digits (qI (fun v h1 => v = bI (mOk R) ∧ MdOut h0 h1 thr sch th cnt ps m0 sa nw la sh rcm bf z R))) 2 [some (.ref m0), some (.int (nI fr)), some (.int (nI most)), some (.int (nI n))] [] h 0 0 := by
  intro t
  induction t with
  | zero =>
    intro n wr h h1 h2
    omega
  | succ t ih =>
    intro n wr h h1 h2 hdig gm gs gw hfr
    refine qp_aload_n dX4_digits_2 rfl ?_
    refine qv_Ip dX4_digits_3 mX4_45 (m_look G hz (by omega) gm gs) gm rfl rfl rfl rfl rfl rfl rfl ?_
    refine qs_Ip dX4_digits_6 mX4_49 (m_isDigit G (Sm z g (p + n))) rfl rfl rfl rfl rfl rfl ?_
    refine qp_if_eq 57 dX4_digits_9 (by decide) (fun c_9 => ?_) (fun c_9 => ?_)
    · rw [bI_0] at c_9
      refine qp_iload_n dX4_digits_57 rfl ?_
      refine qp_if_ne 70 dX4_digits_58 (by decide) (fun c_58 => ?_) (fun c_58 => ?_)
      · have hn0 : ¬ n = 0 := fun q => c_58 (by rw [q]; decide)
        refine qp_aload_n dX4_digits_70 rfl ?_
        refine qp_getf dX4_digits_71 fX4_13 gm rfl ?_
        refine qp_iload_n dX4_digits_74 rfl ?_
        refine qp_iload_n dX4_digits_75 rfl ?_
        refine qp_iadd dX4_digits_76 ?_
        refine QP.topI (y := nI (fr + n)) (nI_add fr n) ?_
        refine qp_iconst (v := 1) dX4_digits_77 (by decide) ?_
        refine qp_isub dX4_digits_78 ?_
        refine QP.topI (y := nI (fr + n - 1)) (pk_sub (a := fr + n) (b := 1) (by omega)) ?_
        refine qp_ialdN (fr + n - 1) dX4_digits_79 gw rfl (by omega) (by decide) ?_
        refine QP.topI (y := Sm z g (p + n - 1) - 47) (digW_last (by omega)) ?_
        refine qp_iconst (v := 1) dX4_digits_80 (by decide) ?_
        refine qp_icmp_ne 97 dX4_digits_81 (by decide) (fun c_81 => ?_) (fun c_81 => ?_)
        · refine qp_iconst (v := 1) dX4_digits_97 (by decide) ?_
          refine qp_goto 102 dX4_digits_98 (by decide) ?_
          have hn : runD (Sm z g) most p = n := runD_stop most p n (by omega) hdig c_9
          have eR : R = .inr (p + n, digW w fr (Sm z g) p n) := by rw [hR, mDigits, hn, if_neg (by rw [c_9]; decide), if_neg hn0, if_neg (fun q => c_81 (i48.mpr q))]
          exact qr_z dX4_digits_102 rfl nar_1 rfl rfl ⟨by rw [eR]; rfl, by rw [eR]; exact ⟨⟨_, gm, gw⟩, hfr⟩⟩
        · refine qp_aload_n dX4_digits_84 rfl ?_
          refine qp_aload_n dX4_digits_85 rfl ?_
          refine qp_getf dX4_digits_86 fX4_39 gm rfl ?_
          refine qp_iconst (v := 1) dX4_digits_89 (by decide) ?_
          refine qp_isub dX4_digits_90 ?_
          refine QP.topI (y := nI (p + n - 1)) (pk_sub (a := p + n) (b := 1) (by omega)) ?_
          refine qv_Iq dX4_digits_91 mX4_53 (m_bad G (nI (p + n - 1)) nm gm) gm rfl rfl rfl rfl rfl rfl rfl (fun h8 p9 => ?_)
          obtain ⟨g10, o11⟩ := p9
          have g12 : h8 sa = some (.inl (1, 60, .inl (g))) := (o11 _ (ne_of_cells gs gm (by simp))).trans gs
          have g13 : h8 nw = some (.inl (0, 40, .inl (digW w fr (Sm z g) p n))) := (o11 _ (ne_of_cells gw gm (by simp))).trans gw
          have g10 : h8 m0 = some (.inr (5, [.int (thr), .int (sch), .ref sa, .int (nI z), .ref nw, .ref la, .int (th), .ref sh, .ref rcm, .int (cnt), .ref bf, .int (ps), .int (nI (p + n)), .int (nI (p + n - 1))])) := g10
          refine qp_if_eq 101 dX4_digits_94 (by decide) (fun c_94 => ?_) (fun c_94 => absurd rfl c_94)
          refine qp_iconst (v := 0) dX4_digits_101 (by decide) ?_
          have hn : runD (Sm z g) most p = n := runD_stop most p n (by omega) hdig c_9
          have eR : R = .inl (p + n - 1) := by rw [hR, mDigits, hn, if_neg (by rw [c_9]; decide), if_neg hn0, if_pos (i48.mp c_81)]
          exact qr_z dX4_digits_102 rfl nar_0 rfl rfl ⟨by rw [eR]; rfl, by rw [eR]; exact ⟨⟨_, _, g10, g13⟩, fun b hb1 hb2 => (o11 b hb1).trans (hfr b hb1 hb2)⟩⟩
      · have hn0 : n = 0 := (nI_eq (b := 0) (by omega) (by decide)).mp c_58
        refine qp_aload_n dX4_digits_61 rfl ?_
        refine qp_aload_n dX4_digits_62 rfl ?_
        refine qp_getf dX4_digits_63 fX4_39 gm rfl ?_
        refine qv_Iq dX4_digits_66 mX4_53 (m_bad G (nI (p + n)) nm gm) gm rfl rfl rfl rfl rfl rfl rfl (fun h15 p16 => ?_)
        obtain ⟨g17, o18⟩ := p16
        have g19 : h15 sa = some (.inl (1, 60, .inl (g))) := (o18 _ (ne_of_cells gs gm (by simp))).trans gs
        have g20 : h15 nw = some (.inl (0, 40, .inl (digW w fr (Sm z g) p n))) := (o18 _ (ne_of_cells gw gm (by simp))).trans gw
        have g17 : h15 m0 = some (.inr (5, [.int (thr), .int (sch), .ref sa, .int (nI z), .ref nw, .ref la, .int (th), .ref sh, .ref rcm, .int (cnt), .ref bf, .int (ps), .int (nI (p + n)), .int (nI (p + n))])) := g17
        have hn : runD (Sm z g) most p = n := runD_stop most p n (by omega) hdig c_9
        have eR : R = .inl (p + n) := by rw [hR, mDigits, hn, if_neg (by rw [c_9]; decide), if_pos hn0]
        exact qr_z dX4_digits_69 rfl nar_0 rfl rfl ⟨by rw [eR]; rfl, by rw [eR]; exact ⟨⟨_, _, g17, g20⟩, fun b hb1 hb2 => (o18 b hb1).trans (hfr b hb1 hb2)⟩⟩
    · rw [bI_n0] at c_9
      refine qp_iload_n dX4_digits_12 rfl ?_
      refine qp_iload_n dX4_digits_13 rfl ?_
      refine qp_icmp_ne 26 dX4_digits_14 (by decide) (fun c_14 => ?_) (fun c_14 => ?_)
      · have hnm : n < most := by have : ¬ n = most := fun q => c_14 (by rw [q]); omega
        refine qp_aload_n dX4_digits_26 rfl ?_
        refine qp_getf dX4_digits_27 fX4_13 gm rfl ?_
        refine qp_iload_n dX4_digits_30 rfl ?_
        refine qp_iload_n dX4_digits_31 rfl ?_
        refine qp_iadd dX4_digits_32 ?_
        refine QP.topI (y := nI (fr + n)) (nI_add fr n) ?_
        refine qp_aload_n dX4_digits_33 rfl ?_
        refine qv_Ip dX4_digits_34 mX4_45 (m_look G hz (by omega) gm gs) gm rfl rfl rfl rfl rfl rfl rfl ?_
        refine qp_bipush (v := 47) dX4_digits_37 (by decide) ?_
        refine qp_isub dX4_digits_39 ?_
        refine qk_iast (fr + n) dX4_digits_40 gw nn rfl (by omega) (by decide) (fun h24 g25 o26 => ?_)
        have g27 : h24 m0 = some (.inr (5, [.int (thr), .int (sch), .ref sa, .int (nI z), .ref nw, .ref la, .int (th), .ref sh, .ref rcm, .int (cnt), .ref bf, .int (ps), .int (nI (p + n)), .int (wr)])) := (o26 _ (ne_of_cells gm gw (by simp))).trans gm
        have g28 : h24 sa = some (.inl (1, 60, .inl (g))) := (o26 _ (ne_of_cells gs gw (by simp))).trans gs
        have g25 : h24 nw = some (.inl (0, 40, .inl (upd (digW w fr (Sm z g) p n) (fr + n) ((Sm z g (p + n)) - (47))))) := g25
        refine qp_iinc (v := nI (n + 1)) dX4_digits_41 rfl (by decide) (nI_1 n) ?_
        refine QP.locsE (L1 := [some (.ref m0), some (.int (nI fr)), some (.int (nI most)), some (.int (nI (n + 1)))]) rfl ?_
        refine qp_aload_n dX4_digits_44 rfl ?_
        refine qp_dup dX4_digits_45 rfl ?_
        refine qp_getf dX4_digits_46 fX4_39 g27 rfl ?_
        refine qp_iconst (v := 1) dX4_digits_49 (by decide) ?_
        refine qp_iadd dX4_digits_50 ?_
        refine QP.topI (y := nI (p + n + 1)) (nI_1 _) ?_
        refine qk_put dX4_digits_51 fX4_39 g27 nm rfl rfl rfl rfl rfl (fun h29 g30 o31 => ?_)
        have g32 : h29 sa = some (.inl (1, 60, .inl (g))) := (o31 _ (ne_of_cells g28 g27 (by simp))).trans g28
        have g33 : h29 nw = some (.inl (0, 40, .inl (upd (digW w fr (Sm z g) p n) (fr + n) ((Sm z g (p + n)) - (47))))) := (o31 _ (ne_of_cells g25 g27 (by simp))).trans g25
        have g30 : h29 m0 = some (.inr (5, [.int (thr), .int (sch), .ref sa, .int (nI z), .ref nw, .ref la, .int (th), .ref sh, .ref rcm, .int (cnt), .ref bf, .int (ps), .int (nI (p + n + 1)), .int (wr)])) := g30
        refine qp_goto 2 dX4_digits_54 (by decide) ?_
        rw [digW_s] at g33
        exact ih (n + 1) _ h29 (by omega) (by omega) (fun j hj => by rcases Nat.lt_succ_iff_lt_or_eq.mp hj with q | q; exact hdig j q; rw [q]; exact c_9) g30 g32 g33 (fun b hb1 hb2 => ((o31 b hb1).trans (o26 b hb2)).trans (hfr b hb1 hb2))
      · have hnm : n = most := (nI_eq (by omega) (by omega)).mp c_14
        refine qp_aload_n dX4_digits_17 rfl ?_
        refine qp_aload_n dX4_digits_18 rfl ?_
        refine qp_getf dX4_digits_19 fX4_39 gm rfl ?_
        refine qv_Iq dX4_digits_22 mX4_53 (m_bad G (nI (p + n)) nm gm) gm rfl rfl rfl rfl rfl rfl rfl (fun h35 p36 => ?_)
        obtain ⟨g37, o38⟩ := p36
        have g39 : h35 sa = some (.inl (1, 60, .inl (g))) := (o38 _ (ne_of_cells gs gm (by simp))).trans gs
        have g40 : h35 nw = some (.inl (0, 40, .inl (digW w fr (Sm z g) p n))) := (o38 _ (ne_of_cells gw gm (by simp))).trans gw
        have g37 : h35 m0 = some (.inr (5, [.int (thr), .int (sch), .ref sa, .int (nI z), .ref nw, .ref la, .int (th), .ref sh, .ref rcm, .int (cnt), .ref bf, .int (ps), .int (nI (p + n)), .int (nI (p + n))])) := g37
        have hn : runD (Sm z g) most p = most := runD_dig most p (fun j hj => hdig j (by omega))
        have eR : R = .inl (p + n) := by rw [hR, mDigits, hn, ← hnm, if_pos c_9]
        exact qr_z dX4_digits_25 rfl nar_0 rfl rfl ⟨by rw [eR]; rfl, by rw [eR]; exact ⟨⟨_, _, g37, g40⟩, fun b hb1 hb2 => (o38 b hb1).trans (hfr b hb1 hb2)⟩⟩
set_option maxHeartbeats 4000000 in
set_option maxRecDepth 100000 in
theorem m_digits (G : qG) {h : qH} {thr sch th cnt ps wr : Int32} {m0 sa nw la sh rcm bf z p : Nat} {g w : Nat → Int32} (fr most : Nat) (hfr2 : fr + most ≤ 40) (hin : MdIn G h thr sch th cnt ps wr m0 sa nw la sh rcm bf z p g w) : qMet G M_X4_digits [.ref m0, .int (nI fr), .int (nI most)] h (qI (fun v h1 => v = bI (mOk (mDigits (Sm z g) p fr most w)) ∧ MdOut h h1 thr sch th cnt ps m0 sa nw la sh rcm bf z (mDigits (Sm z g) p fr most w))) := by
  obtain ⟨nm, nn, hz, hp, gm, gs, gw⟩ := hin
  refine qMet.of (by decide) (Nat.le_of_ble_eq_true rfl) rfl ?_
  refine QP.locsE (L1 := [some (.ref m0), some (.int (nI fr)), some (.int (nI most)), none]) rfl ?_
  refine qp_iconst (v := 0) dX4_digits_0 (by decide) ?_
  refine qp_istore_n dX4_digits_1 (by decide) ?_
  refine QP.locsE (L1 := [some (.ref m0), some (.int (nI fr)), some (.int (nI most)), some (.int (0))]) rfl ?_
  exact lm_digits nm nn hz hp hfr2 rfl (most + 1) 0 wr h (by omega) (by omega) (fun j hj => absurd hj (by omega)) gm gs (by rw [digW_0]; exact gw) (fun _ _ _ => rfl)
end
section
def sVal (S : Nat → Int32) (p : Nat) : Nat → Int32
  | 0 => 0
  | n + 1 => 10 * sVal S p n + S (p + n) - 48
def runP (pr : Int32 → Bool) (S : Nat → Int32) : Nat → Nat → Nat
  | 0, _ => 0
  | m + 1, p => if pr (S p) = true then runP pr S m (p + 1) + 1 else 0
theorem runP_all {pr : Int32 → Bool} {S : Nat → Int32} : ∀ (m p : Nat), (∀ j, j < m → pr (S (p + j)) = true) → runP pr S m p = m
  | 0, _, _ => rfl
  | m + 1, p, h => by
    have h0 := h 0 (by omega)
    rw [Nat.add_zero] at h0
    rw [runP, if_pos h0, runP_all m (p + 1) (fun j hj => by
      have := h (j + 1) (by omega)
      rwa [show p + 1 + j = p + (j + 1) by omega])]
theorem runP_stop {pr : Int32 → Bool} {S : Nat → Int32} : ∀ (m p n : Nat), n ≤ m → (∀ j, j < n → pr (S (p + j)) = true) → pr (S (p + n)) = false → runP pr S m p = n
  | 0, _, n, h, _, _ => by simp [runP]; omega
  | m + 1, p, 0, _, _, h => by
    rw [Nat.add_zero] at h
    rw [runP, if_neg (by rw [h]; decide)]
  | m + 1, p, n + 1, h1, h2, h3 => by
    have h0 := h2 0 (by omega)
    rw [Nat.add_zero] at h0
    rw [runP, if_pos h0, runP_stop m (p + 1) n (by omega) (fun j hj => by
      have := h2 (j + 1) (by omega)
      rwa [show p + 1 + j = p + (j + 1) by omega]) (by rwa [show p + 1 + n = p + (n + 1) by omega])]
def rowW (w : Nat → Int32) (fr : Nat) (S : Nat → Int32) (p n : Nat) : Nat → Int32 := fun i => if fr ≤ i ∧ i < fr + n then S (p + (i - fr)) else w i
theorem rowW_0 (w : Nat → Int32) (fr : Nat) (S : Nat → Int32) (p : Nat) : rowW w fr S p 0 = w := by
  funext i
  simp only [rowW]
  rw [if_neg (by omega)]
theorem rowW_s (w : Nat → Int32) (fr : Nat) (S : Nat → Int32) (p n : Nat) : upd (rowW w fr S p n) (fr + n) (S (p + n)) = rowW w fr S p (n + 1) := by
  funext i
  simp only [upd, rowW]
  by_cases h1 : i = fr + n
  · subst h1
    rw [if_pos rfl, if_pos (by omega), show fr + n - fr = n by omega]
  · rw [if_neg h1]
    by_cases h2 : fr ≤ i ∧ i < fr + n
    · rw [if_pos h2, if_pos (by omega)]
    · rw [if_neg h2, if_neg (by omega)]
theorem dig48 {x : Int32} (h : isDig x = false) : ¬ x = 48 := fun q => by
  subst q
  exact absurd h (by decide)
def mNumber (S : Nat → Int32) (p into most : Nat) (w : Nat → Int32) : MOut := if S p = 48 then .inl p else if isDig (S (p + runD S most p)) = true then .inl (p + runD S most p) else if runD S most p = 0 then .inl p else .inr (p + runD S most p, upd w into (sVal S p (runD S most p)))
def mYear (S : Nat → Int32) (p : Nat) (w : Nat → Int32) : MOut := if S p = 48 then .inl p else if runD S 4 p < 4 then .inl (p + runD S 4 p) else .inr (p + 4, upd w 23 (sVal S p 4))
def mMark (S : Nat → Int32) (p : Nat) (w : Nat → Int32) : MOut := if isSml (S (p + runP isSml S 8 p)) = true then .inl (p + runP isSml S 8 p) else .inr (p + runP isSml S 8 p, rowW w 26 S p (runP isSml S 8 p))
def mSpace (S : Nat → Int32) (p : Nat) (w : Nat → Int32) : MOut := if S p = 32 then .inr (p + 1, w) else .inl p
def mCutter (S : Nat → Int32) (p : Nat) (w : Nat → Int32) : MOut := if isCap (S p) = false then .inl p else mDigits S (p + 1) 17 6 (upd w 16 (S p))
def mThen (o : MOut) (k : Nat → (Nat → Int32) → MOut) : MOut := match o with
  | .inl q => .inl q
  | .inr y => k y.1 y.2
def mVolume (S : Nat → Int32) (p : Nat) (w : Nat → Int32) : MOut := mThen (mNumber S (p + 2) 24 4 w) (fun q w' => if isSml (S q) = true then .inr (q + 1, upd w' 25 (S q)) else .inr (q, w'))
def mFrac (S : Nat → Int32) (q most : Nat) (w : Nat → Int32) : MOut := mThen (if S q = 46 then mDigits S (q + 1) 4 most w else .inr (q, w)) (fun q w' => .inr (q, upd w' 37 (nI q)))
def mClass0 (S : Nat → Int32) (p : Nat) (w : Nat → Int32) : MOut := if runD S 3 p < 3 then .inl (p + runD S 3 p) else mFrac S (p + 3) 9 (upd w 3 (sVal S p 3 + 1))
def mClass1 (S : Nat → Int32) (p : Nat) (w : Nat → Int32) : MOut := if isCap (S (p + runP isCap S 3 p)) = true then .inl (p + runP isCap S 3 p) else if runP isCap S 3 p = 0 then .inl p else mThen (mNumber S (p + runP isCap S 3 p) 3 4 (rowW w 0 S p (runP isCap S 3 p))) (fun q w' => mFrac S q 4 w')
set_option maxHeartbeats 4000000 in
set_option maxRecDepth 100000 in
theorem lm_number {G : qG} {h0 : qH} {thr sch th cnt ps : Int32} {m0 sa nw la sh rcm bf z p : Nat} {g w : Nat → Int32} {R : MOut} (nm : G.2.1 ≤ m0) (nn : G.2.1 ≤ nw) (hz : z ≤ 60) (hp : p ≤ 200) {into most : Nat} (hi : into < 40) (hm0 : 0 < most) (hm : most ≤ 10) (hR : R = mNumber (Sm z g) p into most w) : ∀ (t n : Nat) (wr : Int32) (h : qH), most < n + t → n ≤ most → (∀ j, j < n → isDig (Sm z g (p + j)) = true) → (0 < n → ¬ Sm z g p = 48) → h m0 = some (mdCell thr sch sa (nI z) nw la th sh rcm cnt bf ps (nI (p + n)) wr) → h sa = some (saCell g) → h nw = some (rwCell (w)) → (∀ b : Nat, b ≠ m0 → b ≠ nw → h b = h0 b) → QP G M_X4_number qTr (qMZ G M_X4_number (qI (fun v h1 => v = bI (mOk R) ∧ MdOut h0 h1 thr sch th cnt ps m0 sa nw la sh rcm bf z R))) 5 [some (.ref m0), some (.int (nI into)), some (.int (nI most)), some (.int (nI n)), some (.int (sVal (Sm z g) p n))] [] h 0 0 := by
  intro t
  induction t with
  | zero =>
    intro n wr h h1 h2
    omega
  | succ t ih =>
    intro n wr h h1 h2 hdig h48 gm gs gw hfr
    refine qp_aload_n dX4_number_5 rfl ?_
    refine qv_Ip dX4_number_6 mX4_45 (m_look G hz (by omega) gm gs) gm rfl rfl rfl rfl rfl rfl rfl ?_
    refine qs_Ip dX4_number_9 mX4_49 (m_isDigit G (Sm z g (p + n))) rfl rfl rfl rfl rfl rfl ?_
    refine qp_if_eq 73 dX4_number_12 (by decide) (fun c_12 => ?_) (fun c_12 => ?_)
    · rw [bI_0] at c_12
      refine qp_aload_n dX4_number_73 rfl ?_
      refine qp_getf dX4_number_74 fX4_13 gm rfl ?_
      refine qp_iload_n dX4_number_77 rfl ?_
      refine qp_iload dX4_number_78 rfl ?_
      refine qk_iast (into) dX4_number_80 gw nn rfl (by omega) (by decide) (fun h7 g8 o9 => ?_)
      have g10 : h7 m0 = some (.inr (5, [.int (thr), .int (sch), .ref sa, .int (nI z), .ref nw, .ref la, .int (th), .ref sh, .ref rcm, .int (cnt), .ref bf, .int (ps), .int (nI (p + n)), .int (wr)])) := (o9 _ (ne_of_cells gm gw (by simp))).trans gm
      have g11 : h7 sa = some (.inl (1, 60, .inl (g))) := (o9 _ (ne_of_cells gs gw (by simp))).trans gs
      have g8 : h7 nw = some (.inl (0, 40, .inl (upd (w) (into) (sVal (Sm z g) p n)))) := g8
      refine qp_iload_n dX4_number_81 rfl ?_
      refine qp_if_gt 96 dX4_number_82 (by decide) (fun c_82 => ?_) (fun c_82 => ?_)
      · have hn0 : 0 < n := (nI_ltI (a := 0) (by decide) (by omega)).mp c_82
        refine qp_iconst (v := 1) dX4_number_96 (by decide) ?_
        refine qp_goto 101 dX4_number_97 (by decide) ?_
        have hn : runD (Sm z g) most p = n := runD_stop most p n (by omega) hdig c_12
        have eR : R = .inr (p + n, upd w into (sVal (Sm z g) p n)) := by rw [hR, mNumber, hn, if_neg (h48 hn0), if_neg (by rw [c_12]; decide), if_neg (by omega)]
        exact qr_z dX4_number_101 rfl nar_1 rfl rfl ⟨by rw [eR]; rfl, by rw [eR]; exact ⟨⟨_, g10, g8⟩, fun b hb1 hb2 => (o9 b hb2).trans (hfr b hb1 hb2)⟩⟩
      · have hn0 : n = 0 := Nat.eq_zero_of_not_pos fun q => c_82 ((nI_ltI (a := 0) (by decide) (by omega)).mpr q)
        refine qp_aload_n dX4_number_85 rfl ?_
        refine qp_aload_n dX4_number_86 rfl ?_
        refine qp_getf dX4_number_87 fX4_39 g10 rfl ?_
        refine qv_Iq dX4_number_90 mX4_53 (m_bad G (nI (p + n)) nm g10) g10 rfl rfl rfl rfl rfl rfl rfl (fun h13 p14 => ?_)
        obtain ⟨g15, o16⟩ := p14
        have g17 : h13 sa = some (.inl (1, 60, .inl (g))) := (o16 _ (ne_of_cells g11 g10 (by simp))).trans g11
        have g18 : h13 nw = some (.inl (0, 40, .inl (upd (w) (into) (sVal (Sm z g) p n)))) := (o16 _ (ne_of_cells g8 g10 (by simp))).trans g8
        have g15 : h13 m0 = some (.inr (5, [.int (thr), .int (sch), .ref sa, .int (nI z), .ref nw, .ref la, .int (th), .ref sh, .ref rcm, .int (cnt), .ref bf, .int (ps), .int (nI (p + n)), .int (nI (p + n))])) := g15
        refine qp_if_eq 100 dX4_number_93 (by decide) (fun c_93 => ?_) (fun c_93 => absurd rfl c_93)
        refine qp_iconst (v := 0) dX4_number_100 (by decide) ?_
        have hn : runD (Sm z g) most p = n := runD_stop most p n (by omega) hdig c_12
        have eR : R = .inl (p + n) := by rw [hR, mNumber, hn, hn0, if_neg (by have := dig48 c_12; rw [hn0] at this; exact this), if_neg (by have := c_12; rw [hn0] at this; rw [this]; decide), if_pos rfl]; rfl
        exact qr_z dX4_number_101 rfl nar_0 rfl rfl ⟨by rw [eR]; rfl, by rw [eR]; exact ⟨⟨_, _, g15, g18⟩, fun b hb1 hb2 => ((o16 b hb1).trans (o9 b hb2)).trans (hfr b hb1 hb2)⟩⟩
    · rw [bI_n0] at c_12
      refine qp_iload_n dX4_number_15 rfl ?_
      refine qp_iload_n dX4_number_16 rfl ?_
      refine qp_icmp_eq 33 dX4_number_17 (by decide) (fun c_17 => ?_) (fun c_17 => ?_)
      · have hnm : n = most := (nI_eq (by omega) (by omega)).mp c_17
        refine qp_aload_n dX4_number_33 rfl ?_
        refine qp_aload_n dX4_number_34 rfl ?_
        refine qp_getf dX4_number_35 fX4_39 gm rfl ?_
        refine qv_Iq dX4_number_38 mX4_53 (m_bad G (nI (p + n)) nm gm) gm rfl rfl rfl rfl rfl rfl rfl (fun h20 p21 => ?_)
        obtain ⟨g22, o23⟩ := p21
        have g24 : h20 sa = some (.inl (1, 60, .inl (g))) := (o23 _ (ne_of_cells gs gm (by simp))).trans gs
        have g25 : h20 nw = some (.inl (0, 40, .inl (w))) := (o23 _ (ne_of_cells gw gm (by simp))).trans gw
        have g22 : h20 m0 = some (.inr (5, [.int (thr), .int (sch), .ref sa, .int (nI z), .ref nw, .ref la, .int (th), .ref sh, .ref rcm, .int (cnt), .ref bf, .int (ps), .int (nI (p + n)), .int (nI (p + n))])) := g22
        have hn : runD (Sm z g) most p = n := by rw [hnm]; exact runD_dig most p (fun j hj => hdig j (by omega))
        have eR : R = .inl (p + n) := by rw [hR, mNumber, hn, if_neg (h48 (by omega)), if_pos c_12]
        exact qr_z dX4_number_41 rfl nar_0 rfl rfl ⟨by rw [eR]; rfl, by rw [eR]; exact ⟨⟨_, _, g22, g25⟩, fun b hb1 hb2 => (o23 b hb1).trans (hfr b hb1 hb2)⟩⟩
      · have hnm : n < most := by have : ¬ n = most := fun q => c_17 (by rw [q]); omega
        refine qp_iload_n dX4_number_20 rfl ?_
        refine qp_if_ne 42 dX4_number_21 (by decide) (fun c_21 => ?_) (fun c_21 => ?_)
        · have hn0 : ¬ n = 0 := fun q => c_21 (by rw [q]; decide)
          refine qp_bipush (v := 10) dX4_number_42 (by decide) ?_
          refine qp_iload dX4_number_44 rfl ?_
          refine qp_imul dX4_number_46 ?_
          refine qp_aload_n dX4_number_47 rfl ?_
          refine qv_Ip dX4_number_48 mX4_45 (m_look G hz (by omega) gm gs) gm rfl rfl rfl rfl rfl rfl rfl ?_
          refine qp_iadd dX4_number_51 ?_
          refine qp_bipush (v := 48) dX4_number_52 (by decide) ?_
          refine qp_isub dX4_number_54 ?_
          refine QP.topI (y := sVal (Sm z g) p (n + 1)) rfl ?_
          refine qp_istore dX4_number_55 (by decide) ?_
          refine QP.locsE (L1 := [some (.ref m0), some (.int (nI into)), some (.int (nI most)), some (.int (nI n)), some (.int (sVal (Sm z g) p (n + 1)))]) rfl ?_
          refine qp_iinc (v := nI (n + 1)) dX4_number_57 rfl (by decide) (nI_1 n) ?_
          refine QP.locsE (L1 := [some (.ref m0), some (.int (nI into)), some (.int (nI most)), some (.int (nI (n + 1))), some (.int (sVal (Sm z g) p (n + 1)))]) rfl ?_
          refine qp_aload_n dX4_number_60 rfl ?_
          refine qp_dup dX4_number_61 rfl ?_
          refine qp_getf dX4_number_62 fX4_39 gm rfl ?_
          refine qp_iconst (v := 1) dX4_number_65 (by decide) ?_
          refine qp_iadd dX4_number_66 ?_
          refine QP.topI (y := nI (p + n + 1)) (nI_1 _) ?_
          refine qk_put dX4_number_67 fX4_39 gm nm rfl rfl rfl rfl rfl (fun h29 g30 o31 => ?_)
          have g32 : h29 sa = some (.inl (1, 60, .inl (g))) := (o31 _ (ne_of_cells gs gm (by simp))).trans gs
          have g33 : h29 nw = some (.inl (0, 40, .inl (w))) := (o31 _ (ne_of_cells gw gm (by simp))).trans gw
          have g30 : h29 m0 = some (.inr (5, [.int (thr), .int (sch), .ref sa, .int (nI z), .ref nw, .ref la, .int (th), .ref sh, .ref rcm, .int (cnt), .ref bf, .int (ps), .int (nI (p + n + 1)), .int (wr)])) := g30
          refine qp_goto 5 dX4_number_70 (by decide) ?_
          exact ih (n + 1) _ h29 (by omega) (by omega) (fun j hj => by rcases Nat.lt_succ_iff_lt_or_eq.mp hj with q | q; exact hdig j q; rw [q]; exact c_12) (fun _ => h48 (by omega)) g30 g32 g33 (fun b hb1 hb2 => (o31 b hb1).trans (hfr b hb1 hb2))
        · have hn0 : n = 0 := (nI_eq (b := 0) (by omega) (by decide)).mp c_21
          refine qp_aload_n dX4_number_24 rfl ?_
          refine qv_Ip dX4_number_25 mX4_45 (m_look G hz (by omega) gm gs) gm rfl rfl rfl rfl rfl rfl rfl ?_
          refine qp_bipush (v := 48) dX4_number_28 (by decide) ?_
          refine qp_icmp_ne 42 dX4_number_30 (by decide) (fun c_30 => ?_) (fun c_30 => ?_)
          · refine qp_bipush (v := 10) dX4_number_42 (by decide) ?_
            refine qp_iload dX4_number_44 rfl ?_
            refine qp_imul dX4_number_46 ?_
            refine qp_aload_n dX4_number_47 rfl ?_
            refine qv_Ip dX4_number_48 mX4_45 (m_look G hz (by omega) gm gs) gm rfl rfl rfl rfl rfl rfl rfl ?_
            refine qp_iadd dX4_number_51 ?_
            refine qp_bipush (v := 48) dX4_number_52 (by decide) ?_
            refine qp_isub dX4_number_54 ?_
            refine QP.topI (y := sVal (Sm z g) p (n + 1)) rfl ?_
            refine qp_istore dX4_number_55 (by decide) ?_
            refine QP.locsE (L1 := [some (.ref m0), some (.int (nI into)), some (.int (nI most)), some (.int (nI n)), some (.int (sVal (Sm z g) p (n + 1)))]) rfl ?_
            refine qp_iinc (v := nI (n + 1)) dX4_number_57 rfl (by decide) (nI_1 n) ?_
            refine QP.locsE (L1 := [some (.ref m0), some (.int (nI into)), some (.int (nI most)), some (.int (nI (n + 1))), some (.int (sVal (Sm z g) p (n + 1)))]) rfl ?_
            refine qp_aload_n dX4_number_60 rfl ?_
            refine qp_dup dX4_number_61 rfl ?_
            refine qp_getf dX4_number_62 fX4_39 gm rfl ?_
            refine qp_iconst (v := 1) dX4_number_65 (by decide) ?_
            refine qp_iadd dX4_number_66 ?_
            refine QP.topI (y := nI (p + n + 1)) (nI_1 _) ?_
            refine qk_put dX4_number_67 fX4_39 gm nm rfl rfl rfl rfl rfl (fun h40 g41 o42 => ?_)
            have g43 : h40 sa = some (.inl (1, 60, .inl (g))) := (o42 _ (ne_of_cells gs gm (by simp))).trans gs
            have g44 : h40 nw = some (.inl (0, 40, .inl (w))) := (o42 _ (ne_of_cells gw gm (by simp))).trans gw
            have g41 : h40 m0 = some (.inr (5, [.int (thr), .int (sch), .ref sa, .int (nI z), .ref nw, .ref la, .int (th), .ref sh, .ref rcm, .int (cnt), .ref bf, .int (ps), .int (nI (p + n + 1)), .int (wr)])) := g41
            refine qp_goto 5 dX4_number_70 (by decide) ?_
            exact ih (n + 1) _ h40 (by omega) (by omega) (fun j hj => by rcases Nat.lt_succ_iff_lt_or_eq.mp hj with q | q; exact hdig j q; rw [q]; exact c_12) (fun _ => by have := c_30; rw [hn0] at this; exact this) g41 g43 g44 (fun b hb1 hb2 => (o42 b hb1).trans (hfr b hb1 hb2))
          · refine qp_aload_n dX4_number_33 rfl ?_
            refine qp_aload_n dX4_number_34 rfl ?_
            refine qp_getf dX4_number_35 fX4_39 gm rfl ?_
            refine qv_Iq dX4_number_38 mX4_53 (m_bad G (nI (p + n)) nm gm) gm rfl rfl rfl rfl rfl rfl rfl (fun h46 p47 => ?_)
            obtain ⟨g48, o49⟩ := p47
            have g50 : h46 sa = some (.inl (1, 60, .inl (g))) := (o49 _ (ne_of_cells gs gm (by simp))).trans gs
            have g51 : h46 nw = some (.inl (0, 40, .inl (w))) := (o49 _ (ne_of_cells gw gm (by simp))).trans gw
            have g48 : h46 m0 = some (.inr (5, [.int (thr), .int (sch), .ref sa, .int (nI z), .ref nw, .ref la, .int (th), .ref sh, .ref rcm, .int (cnt), .ref bf, .int (ps), .int (nI (p + n)), .int (nI (p + n))])) := g48
            have eR : R = .inl (p + n) := by rw [hR, mNumber, if_pos (by have := c_30; rw [hn0] at this; exact this), hn0]; rfl
            exact qr_z dX4_number_41 rfl nar_0 rfl rfl ⟨by rw [eR]; rfl, by rw [eR]; exact ⟨⟨_, _, g48, g51⟩, fun b hb1 hb2 => (o49 b hb1).trans (hfr b hb1 hb2)⟩⟩
set_option maxHeartbeats 4000000 in
set_option maxRecDepth 100000 in
theorem m_number (G : qG) {h : qH} {thr sch th cnt ps wr : Int32} {m0 sa nw la sh rcm bf z p : Nat} {g w : Nat → Int32} (into most : Nat) (hi : into < 40) (hm0 : 0 < most) (hm : most ≤ 10) (hin : MdIn G h thr sch th cnt ps wr m0 sa nw la sh rcm bf z p g w) : qMet G M_X4_number [.ref m0, .int (nI into), .int (nI most)] h (qI (fun v h1 => v = bI (mOk (mNumber (Sm z g) p into most w)) ∧ MdOut h h1 thr sch th cnt ps m0 sa nw la sh rcm bf z (mNumber (Sm z g) p into most w))) := by
  obtain ⟨nm, nn, hz, hp, gm, gs, gw⟩ := hin
  refine qMet.of (by decide) (Nat.le_of_ble_eq_true rfl) rfl ?_
  refine QP.locsE (L1 := [some (.ref m0), some (.int (nI into)), some (.int (nI most)), none, none]) rfl ?_
  refine qp_iconst (v := 0) dX4_number_0 (by decide) ?_
  refine qp_istore_n dX4_number_1 (by decide) ?_
  refine QP.locsE (L1 := [some (.ref m0), some (.int (nI into)), some (.int (nI most)), some (.int (0)), none]) rfl ?_
  refine qp_iconst (v := 0) dX4_number_2 (by decide) ?_
  refine qp_istore dX4_number_3 (by decide) ?_
  refine QP.locsE (L1 := [some (.ref m0), some (.int (nI into)), some (.int (nI most)), some (.int (0)), some (.int (0))]) rfl ?_
  exact lm_number nm nn hz hp hi hm0 hm rfl (most + 1) 0 wr h (by omega) (by omega) (fun j hj => absurd hj (by omega)) (fun q => absurd q (by omega)) gm gs gw (fun _ _ _ => rfl)
set_option maxHeartbeats 4000000 in
set_option maxRecDepth 100000 in
theorem lm_readYear {G : qG} {h0 : qH} {thr sch th cnt ps : Int32} {m0 sa nw la sh rcm bf z p : Nat} {g w : Nat → Int32} {R : MOut} (nm : G.2.1 ≤ m0) (nn : G.2.1 ≤ nw) (hz : z ≤ 60) (hp : p ≤ 200) (hR : R = mYear (Sm z g) p w) : ∀ (t n : Nat) (wr : Int32) (h : qH), 4 < n + t → n ≤ 4 → (∀ j, j < n → isDig (Sm z g (p + j)) = true) → (0 < n → ¬ Sm z g p = 48) → h m0 = some (mdCell thr sch sa (nI z) nw la th sh rcm cnt bf ps (nI (p + n)) wr) → h sa = some (saCell g) → h nw = some (rwCell (w)) → (∀ b : Nat, b ≠ m0 → b ≠ nw → h b = h0 b) → QP G M_X4_readYear qTr (qMZ G M_X4_readYear (qI (fun v h1 => v = bI (mOk R) ∧ MdOut h0 h1 thr sch th cnt ps m0 sa nw la sh rcm bf z R))) 4 [some (.ref m0), some (.int (sVal (Sm z g) p n)), some (.int (nI n))] [] h 0 0 := by
  intro t
  induction t with
  | zero =>
    intro n wr h h1 h2
    omega
  | succ t ih =>
    intro n wr h h1 h2 hdig h48 gm gs gw hfr
    refine qp_iload_n dX4_readYear_4 rfl ?_
    refine qp_iconst (v := 4) dX4_readYear_5 (by decide) ?_
    refine qp_icmp_ge 70 dX4_readYear_6 (by decide) (fun c_6 => ?_) (fun c_6 => ?_)
    · have hn4 : n = 4 := by have := (nI_leI (a := 4) (by decide) (by omega)).mp c_6; omega
      refine qp_aload_n dX4_readYear_70 rfl ?_
      refine qp_getf dX4_readYear_71 fX4_13 gm rfl ?_
      refine qp_bipush (v := 23) dX4_readYear_74 (by decide) ?_
      refine qp_iload_n dX4_readYear_76 rfl ?_
      refine qk_iast (23) dX4_readYear_77 gw nn rfl (by omega) (by decide) (fun h1 g2 o3 => ?_)
      have g4 : h1 m0 = some (.inr (5, [.int (thr), .int (sch), .ref sa, .int (nI z), .ref nw, .ref la, .int (th), .ref sh, .ref rcm, .int (cnt), .ref bf, .int (ps), .int (nI (p + n)), .int (wr)])) := (o3 _ (ne_of_cells gm gw (by simp))).trans gm
      have g5 : h1 sa = some (.inl (1, 60, .inl (g))) := (o3 _ (ne_of_cells gs gw (by simp))).trans gs
      have g2 : h1 nw = some (.inl (0, 40, .inl (upd (w) (23) (sVal (Sm z g) p n)))) := g2
      refine qp_iconst (v := 1) dX4_readYear_78 (by decide) ?_
      have hn : runD (Sm z g) 4 p = 4 := runD_dig 4 p (fun j hj => hdig j (by omega))
      have eR : R = .inr (p + n, upd w 23 (sVal (Sm z g) p n)) := by rw [hR, mYear, hn, if_neg (h48 (by omega)), if_neg (by omega), hn4]
      exact qr_z dX4_readYear_79 rfl nar_1 rfl rfl ⟨by rw [eR]; rfl, by rw [eR]; exact ⟨⟨_, g4, g2⟩, fun b hb1 hb2 => (o3 b hb2).trans (hfr b hb1 hb2)⟩⟩
    · have hn4 : n < 4 := Nat.not_le.mp fun q => c_6 ((nI_leI (a := 4) (by decide) (by omega)).mpr q)
      refine qp_aload_n dX4_readYear_9 rfl ?_
      refine qv_Ip dX4_readYear_10 mX4_45 (m_look G hz (by omega) gm gs) gm rfl rfl rfl rfl rfl rfl rfl ?_
      refine qs_Ip dX4_readYear_13 mX4_49 (m_isDigit G (Sm z g (p + n))) rfl rfl rfl rfl rfl rfl ?_
      refine qp_if_eq 32 dX4_readYear_16 (by decide) (fun c_16 => ?_) (fun c_16 => ?_)
      · rw [bI_0] at c_16
        refine qp_aload_n dX4_readYear_32 rfl ?_
        refine qp_aload_n dX4_readYear_33 rfl ?_
        refine qp_getf dX4_readYear_34 fX4_39 gm rfl ?_
        refine qv_Iq dX4_readYear_37 mX4_53 (m_bad G (nI (p + n)) nm gm) gm rfl rfl rfl rfl rfl rfl rfl (fun h13 p14 => ?_)
        obtain ⟨g15, o16⟩ := p14
        have g17 : h13 sa = some (.inl (1, 60, .inl (g))) := (o16 _ (ne_of_cells gs gm (by simp))).trans gs
        have g18 : h13 nw = some (.inl (0, 40, .inl (w))) := (o16 _ (ne_of_cells gw gm (by simp))).trans gw
        have g15 : h13 m0 = some (.inr (5, [.int (thr), .int (sch), .ref sa, .int (nI z), .ref nw, .ref la, .int (th), .ref sh, .ref rcm, .int (cnt), .ref bf, .int (ps), .int (nI (p + n)), .int (nI (p + n))])) := g15
        have hn : runD (Sm z g) 4 p = n := runD_stop 4 p n (by omega) hdig c_16
        have hne : ¬ Sm z g p = 48 := by by_cases q : n = 0; have q2 := dig48 c_16; rw [q] at q2; exact q2; exact h48 (by omega)
        have eR : R = .inl (p + n) := by rw [hR, mYear, hn, if_neg hne, if_pos hn4]
        exact qr_z dX4_readYear_40 rfl nar_0 rfl rfl ⟨by rw [eR]; rfl, by rw [eR]; exact ⟨⟨_, _, g15, g18⟩, fun b hb1 hb2 => (o16 b hb1).trans (hfr b hb1 hb2)⟩⟩
      · rw [bI_n0] at c_16
        refine qp_iload_n dX4_readYear_19 rfl ?_
        refine qp_if_ne 41 dX4_readYear_20 (by decide) (fun c_20 => ?_) (fun c_20 => ?_)
        · have hn0 : ¬ n = 0 := fun q => c_20 (by rw [q]; decide)
          refine qp_bipush (v := 10) dX4_readYear_41 (by decide) ?_
          refine qp_iload_n dX4_readYear_43 rfl ?_
          refine qp_imul dX4_readYear_44 ?_
          refine qp_aload_n dX4_readYear_45 rfl ?_
          refine qv_Ip dX4_readYear_46 mX4_45 (m_look G hz (by omega) gm gs) gm rfl rfl rfl rfl rfl rfl rfl ?_
          refine qp_iadd dX4_readYear_49 ?_
          refine qp_bipush (v := 48) dX4_readYear_50 (by decide) ?_
          refine qp_isub dX4_readYear_52 ?_
          refine QP.topI (y := sVal (Sm z g) p (n + 1)) rfl ?_
          refine qp_istore_n dX4_readYear_53 (by decide) ?_
          refine QP.locsE (L1 := [some (.ref m0), some (.int (sVal (Sm z g) p (n + 1))), some (.int (nI n))]) rfl ?_
          refine qp_aload_n dX4_readYear_54 rfl ?_
          refine qp_dup dX4_readYear_55 rfl ?_
          refine qp_getf dX4_readYear_56 fX4_39 gm rfl ?_
          refine qp_iconst (v := 1) dX4_readYear_59 (by decide) ?_
          refine qp_iadd dX4_readYear_60 ?_
          refine QP.topI (y := nI (p + n + 1)) (nI_1 _) ?_
          refine qk_put dX4_readYear_61 fX4_39 gm nm rfl rfl rfl rfl rfl (fun h22 g23 o24 => ?_)
          have g25 : h22 sa = some (.inl (1, 60, .inl (g))) := (o24 _ (ne_of_cells gs gm (by simp))).trans gs
          have g26 : h22 nw = some (.inl (0, 40, .inl (w))) := (o24 _ (ne_of_cells gw gm (by simp))).trans gw
          have g23 : h22 m0 = some (.inr (5, [.int (thr), .int (sch), .ref sa, .int (nI z), .ref nw, .ref la, .int (th), .ref sh, .ref rcm, .int (cnt), .ref bf, .int (ps), .int (nI (p + n + 1)), .int (wr)])) := g23
          refine qp_iinc (v := nI (n + 1)) dX4_readYear_64 rfl (by decide) (nI_1 n) ?_
          refine QP.locsE (L1 := [some (.ref m0), some (.int (sVal (Sm z g) p (n + 1))), some (.int (nI (n + 1)))]) rfl ?_
          refine qp_goto 4 dX4_readYear_67 (by decide) ?_
          exact ih (n + 1) _ h22 (by omega) (by omega) (fun j hj => by rcases Nat.lt_succ_iff_lt_or_eq.mp hj with q | q; exact hdig j q; rw [q]; exact c_16) (fun _ => h48 (by omega)) g23 g25 g26 (fun b hb1 hb2 => (o24 b hb1).trans (hfr b hb1 hb2))
        · have hn0 : n = 0 := (nI_eq (b := 0) (by omega) (by decide)).mp c_20
          refine qp_aload_n dX4_readYear_23 rfl ?_
          refine qv_Ip dX4_readYear_24 mX4_45 (m_look G hz (by omega) gm gs) gm rfl rfl rfl rfl rfl rfl rfl ?_
          refine qp_bipush (v := 48) dX4_readYear_27 (by decide) ?_
          refine qp_icmp_ne 41 dX4_readYear_29 (by decide) (fun c_29 => ?_) (fun c_29 => ?_)
          · refine qp_bipush (v := 10) dX4_readYear_41 (by decide) ?_
            refine qp_iload_n dX4_readYear_43 rfl ?_
            refine qp_imul dX4_readYear_44 ?_
            refine qp_aload_n dX4_readYear_45 rfl ?_
            refine qv_Ip dX4_readYear_46 mX4_45 (m_look G hz (by omega) gm gs) gm rfl rfl rfl rfl rfl rfl rfl ?_
            refine qp_iadd dX4_readYear_49 ?_
            refine qp_bipush (v := 48) dX4_readYear_50 (by decide) ?_
            refine qp_isub dX4_readYear_52 ?_
            refine QP.topI (y := sVal (Sm z g) p (n + 1)) rfl ?_
            refine qp_istore_n dX4_readYear_53 (by decide) ?_
            refine QP.locsE (L1 := [some (.ref m0), some (.int (sVal (Sm z g) p (n + 1))), some (.int (nI n))]) rfl ?_
            refine qp_aload_n dX4_readYear_54 rfl ?_
            refine qp_dup dX4_readYear_55 rfl ?_
            refine qp_getf dX4_readYear_56 fX4_39 gm rfl ?_
            refine qp_iconst (v := 1) dX4_readYear_59 (by decide) ?_
            refine qp_iadd dX4_readYear_60 ?_
            refine QP.topI (y := nI (p + n + 1)) (nI_1 _) ?_
            refine qk_put dX4_readYear_61 fX4_39 gm nm rfl rfl rfl rfl rfl (fun h33 g34 o35 => ?_)
            have g36 : h33 sa = some (.inl (1, 60, .inl (g))) := (o35 _ (ne_of_cells gs gm (by simp))).trans gs
            have g37 : h33 nw = some (.inl (0, 40, .inl (w))) := (o35 _ (ne_of_cells gw gm (by simp))).trans gw
            have g34 : h33 m0 = some (.inr (5, [.int (thr), .int (sch), .ref sa, .int (nI z), .ref nw, .ref la, .int (th), .ref sh, .ref rcm, .int (cnt), .ref bf, .int (ps), .int (nI (p + n + 1)), .int (wr)])) := g34
            refine qp_iinc (v := nI (n + 1)) dX4_readYear_64 rfl (by decide) (nI_1 n) ?_
            refine QP.locsE (L1 := [some (.ref m0), some (.int (sVal (Sm z g) p (n + 1))), some (.int (nI (n + 1)))]) rfl ?_
            refine qp_goto 4 dX4_readYear_67 (by decide) ?_
            exact ih (n + 1) _ h33 (by omega) (by omega) (fun j hj => by rcases Nat.lt_succ_iff_lt_or_eq.mp hj with q | q; exact hdig j q; rw [q]; exact c_16) (fun _ => by have := c_29; rw [hn0] at this; exact this) g34 g36 g37 (fun b hb1 hb2 => (o35 b hb1).trans (hfr b hb1 hb2))
          · refine qp_aload_n dX4_readYear_32 rfl ?_
            refine qp_aload_n dX4_readYear_33 rfl ?_
            refine qp_getf dX4_readYear_34 fX4_39 gm rfl ?_
            refine qv_Iq dX4_readYear_37 mX4_53 (m_bad G (nI (p + n)) nm gm) gm rfl rfl rfl rfl rfl rfl rfl (fun h39 p40 => ?_)
            obtain ⟨g41, o42⟩ := p40
            have g43 : h39 sa = some (.inl (1, 60, .inl (g))) := (o42 _ (ne_of_cells gs gm (by simp))).trans gs
            have g44 : h39 nw = some (.inl (0, 40, .inl (w))) := (o42 _ (ne_of_cells gw gm (by simp))).trans gw
            have g41 : h39 m0 = some (.inr (5, [.int (thr), .int (sch), .ref sa, .int (nI z), .ref nw, .ref la, .int (th), .ref sh, .ref rcm, .int (cnt), .ref bf, .int (ps), .int (nI (p + n)), .int (nI (p + n))])) := g41
            have eR : R = .inl (p + n) := by rw [hR, mYear, if_pos (by have := c_29; rw [hn0] at this; exact this), hn0]; rfl
            exact qr_z dX4_readYear_40 rfl nar_0 rfl rfl ⟨by rw [eR]; rfl, by rw [eR]; exact ⟨⟨_, _, g41, g44⟩, fun b hb1 hb2 => (o42 b hb1).trans (hfr b hb1 hb2)⟩⟩
set_option maxHeartbeats 4000000 in
set_option maxRecDepth 100000 in
theorem m_readYear (G : qG) {h : qH} {thr sch th cnt ps wr : Int32} {m0 sa nw la sh rcm bf z p : Nat} {g w : Nat → Int32} (hin : MdIn G h thr sch th cnt ps wr m0 sa nw la sh rcm bf z p g w) : qMet G M_X4_readYear [.ref m0] h (qI (fun v h1 => v = bI (mOk (mYear (Sm z g) p w)) ∧ MdOut h h1 thr sch th cnt ps m0 sa nw la sh rcm bf z (mYear (Sm z g) p w))) := by
  obtain ⟨nm, nn, hz, hp, gm, gs, gw⟩ := hin
  refine qMet.of (by decide) (Nat.le_of_ble_eq_true rfl) rfl ?_
  refine QP.locsE (L1 := [some (.ref m0), none, none]) rfl ?_
  refine qp_iconst (v := 0) dX4_readYear_0 (by decide) ?_
  refine qp_istore_n dX4_readYear_1 (by decide) ?_
  refine QP.locsE (L1 := [some (.ref m0), some (.int (0)), none]) rfl ?_
  refine qp_iconst (v := 0) dX4_readYear_2 (by decide) ?_
  refine qp_istore_n dX4_readYear_3 (by decide) ?_
  refine QP.locsE (L1 := [some (.ref m0), some (.int (0)), some (.int (0))]) rfl ?_
  exact lm_readYear nm nn hz hp rfl 5 0 wr h (by omega) (by omega) (fun j hj => absurd hj (by omega)) (fun q => absurd q (by omega)) gm gs gw (fun _ _ _ => rfl)
set_option maxHeartbeats 4000000 in
set_option maxRecDepth 100000 in
theorem lm_readMark {G : qG} {h0 : qH} {thr sch th cnt ps : Int32} {m0 sa nw la sh rcm bf z p : Nat} {g w : Nat → Int32} {R : MOut} (nm : G.2.1 ≤ m0) (nn : G.2.1 ≤ nw) (hz : z ≤ 60) (hp : p ≤ 200) (hR : R = mMark (Sm z g) p w) : ∀ (t n : Nat) (wr : Int32) (h : qH), 8 < n + t → n ≤ 8 → (∀ j, j < n → isSml (Sm z g (p + j)) = true) → h m0 = some (mdCell thr sch sa (nI z) nw la th sh rcm cnt bf ps (nI (p + n)) wr) → h sa = some (saCell g) → h nw = some (rwCell (rowW w 26 (Sm z g) p n)) → (∀ b : Nat, b ≠ m0 → b ≠ nw → h b = h0 b) → QP G M_X4_readMark qTr (qMZ G M_X4_readMark (qI (fun v h1 => v = bI (mOk R) ∧ MdOut h0 h1 thr sch th cnt ps m0 sa nw la sh rcm bf z R))) 2 [some (.ref m0), some (.int (nI n))] [] h 0 0 := by
  intro t
  induction t with
  | zero =>
    intro n wr h h1 h2
    omega
  | succ t ih =>
    intro n wr h h1 h2 hdig gm gs gw hfr
    refine qp_aload_n dX4_readMark_2 rfl ?_
    refine qv_Ip dX4_readMark_3 mX4_45 (m_look G hz (by omega) gm gs) gm rfl rfl rfl rfl rfl rfl rfl ?_
    refine qs_Ip dX4_readMark_6 mX4_66 (m_isSmall G (Sm z g (p + n))) rfl rfl rfl rfl rfl rfl ?_
    refine qp_if_eq 56 dX4_readMark_9 (by decide) (fun c_9 => ?_) (fun c_9 => ?_)
    · rw [bI_0] at c_9
      refine qp_iconst (v := 1) dX4_readMark_56 (by decide) ?_
      have hn : runP isSml (Sm z g) 8 p = n := runP_stop 8 p n (by omega) hdig c_9
      have eR : R = .inr (p + n, rowW w 26 (Sm z g) p n) := by rw [hR, mMark, hn, if_neg (by rw [c_9]; decide)]
      exact qr_z dX4_readMark_57 rfl nar_1 rfl rfl ⟨by rw [eR]; rfl, by rw [eR]; exact ⟨⟨_, gm, gw⟩, hfr⟩⟩
    · rw [bI_n0] at c_9
      refine qp_iload_n dX4_readMark_12 rfl ?_
      refine qp_bipush (v := 8) dX4_readMark_13 (by decide) ?_
      refine qp_icmp_ne 27 dX4_readMark_15 (by decide) (fun c_15 => ?_) (fun c_15 => ?_)
      · have hn8 : n < 8 := by have : ¬ n = 8 := fun q => c_15 (by rw [q]; decide); omega
        refine qp_aload_n dX4_readMark_27 rfl ?_
        refine qp_getf dX4_readMark_28 fX4_13 gm rfl ?_
        refine qp_bipush (v := 26) dX4_readMark_31 (by decide) ?_
        refine qp_iload_n dX4_readMark_33 rfl ?_
        refine qp_iadd dX4_readMark_34 ?_
        refine QP.topI (y := nI (26 + n)) (nI_add 26 n) ?_
        refine qp_aload_n dX4_readMark_35 rfl ?_
        refine qv_Ip dX4_readMark_36 mX4_45 (m_look G hz (by omega) gm gs) gm rfl rfl rfl rfl rfl rfl rfl ?_
        refine qk_iast (26 + n) dX4_readMark_39 gw nn rfl (by omega) (by decide) (fun h10 g11 o12 => ?_)
        have g13 : h10 m0 = some (.inr (5, [.int (thr), .int (sch), .ref sa, .int (nI z), .ref nw, .ref la, .int (th), .ref sh, .ref rcm, .int (cnt), .ref bf, .int (ps), .int (nI (p + n)), .int (wr)])) := (o12 _ (ne_of_cells gm gw (by simp))).trans gm
        have g14 : h10 sa = some (.inl (1, 60, .inl (g))) := (o12 _ (ne_of_cells gs gw (by simp))).trans gs
        have g11 : h10 nw = some (.inl (0, 40, .inl (upd (rowW w 26 (Sm z g) p n) (26 + n) (Sm z g (p + n))))) := g11
        refine qp_iinc (v := nI (n + 1)) dX4_readMark_40 rfl (by decide) (nI_1 n) ?_
        refine QP.locsE (L1 := [some (.ref m0), some (.int (nI (n + 1)))]) rfl ?_
        refine qp_aload_n dX4_readMark_43 rfl ?_
        refine qp_dup dX4_readMark_44 rfl ?_
        refine qp_getf dX4_readMark_45 fX4_39 g13 rfl ?_
        refine qp_iconst (v := 1) dX4_readMark_48 (by decide) ?_
        refine qp_iadd dX4_readMark_49 ?_
        refine QP.topI (y := nI (p + n + 1)) (nI_1 _) ?_
        refine qk_put dX4_readMark_50 fX4_39 g13 nm rfl rfl rfl rfl rfl (fun h15 g16 o17 => ?_)
        have g18 : h15 sa = some (.inl (1, 60, .inl (g))) := (o17 _ (ne_of_cells g14 g13 (by simp))).trans g14
        have g19 : h15 nw = some (.inl (0, 40, .inl (upd (rowW w 26 (Sm z g) p n) (26 + n) (Sm z g (p + n))))) := (o17 _ (ne_of_cells g11 g13 (by simp))).trans g11
        have g16 : h15 m0 = some (.inr (5, [.int (thr), .int (sch), .ref sa, .int (nI z), .ref nw, .ref la, .int (th), .ref sh, .ref rcm, .int (cnt), .ref bf, .int (ps), .int (nI (p + n + 1)), .int (wr)])) := g16
        refine qp_goto 2 dX4_readMark_53 (by decide) ?_
        rw [rowW_s] at g19
        exact ih (n + 1) _ h15 (by omega) (by omega) (fun j hj => by rcases Nat.lt_succ_iff_lt_or_eq.mp hj with q | q; exact hdig j q; rw [q]; exact c_9) g16 g18 g19 (fun b hb1 hb2 => ((o17 b hb1).trans (o12 b hb2)).trans (hfr b hb1 hb2))
      · have hn8 : n = 8 := (nI_eq (b := 8) (by omega) (by decide)).mp c_15
        refine qp_aload_n dX4_readMark_18 rfl ?_
        refine qp_aload_n dX4_readMark_19 rfl ?_
        refine qp_getf dX4_readMark_20 fX4_39 gm rfl ?_
        refine qv_Iq dX4_readMark_23 mX4_53 (m_bad G (nI (p + n)) nm gm) gm rfl rfl rfl rfl rfl rfl rfl (fun h21 p22 => ?_)
        obtain ⟨g23, o24⟩ := p22
        have g25 : h21 sa = some (.inl (1, 60, .inl (g))) := (o24 _ (ne_of_cells gs gm (by simp))).trans gs
        have g26 : h21 nw = some (.inl (0, 40, .inl (rowW w 26 (Sm z g) p n))) := (o24 _ (ne_of_cells gw gm (by simp))).trans gw
        have g23 : h21 m0 = some (.inr (5, [.int (thr), .int (sch), .ref sa, .int (nI z), .ref nw, .ref la, .int (th), .ref sh, .ref rcm, .int (cnt), .ref bf, .int (ps), .int (nI (p + n)), .int (nI (p + n))])) := g23
        have hn : runP isSml (Sm z g) 8 p = n := by rw [hn8]; exact runP_all 8 p (fun j hj => hdig j (by omega))
        have eR : R = .inl (p + n) := by rw [hR, mMark, hn, if_pos c_9]
        exact qr_z dX4_readMark_26 rfl nar_0 rfl rfl ⟨by rw [eR]; rfl, by rw [eR]; exact ⟨⟨_, _, g23, g26⟩, fun b hb1 hb2 => (o24 b hb1).trans (hfr b hb1 hb2)⟩⟩
set_option maxHeartbeats 4000000 in
set_option maxRecDepth 100000 in
theorem m_readMark (G : qG) {h : qH} {thr sch th cnt ps wr : Int32} {m0 sa nw la sh rcm bf z p : Nat} {g w : Nat → Int32} (hin : MdIn G h thr sch th cnt ps wr m0 sa nw la sh rcm bf z p g w) : qMet G M_X4_readMark [.ref m0] h (qI (fun v h1 => v = bI (mOk (mMark (Sm z g) p w)) ∧ MdOut h h1 thr sch th cnt ps m0 sa nw la sh rcm bf z (mMark (Sm z g) p w))) := by
  obtain ⟨nm, nn, hz, hp, gm, gs, gw⟩ := hin
  refine qMet.of (by decide) (Nat.le_of_ble_eq_true rfl) rfl ?_
  refine QP.locsE (L1 := [some (.ref m0), none]) rfl ?_
  refine qp_iconst (v := 0) dX4_readMark_0 (by decide) ?_
  refine qp_istore_n dX4_readMark_1 (by decide) ?_
  refine QP.locsE (L1 := [some (.ref m0), some (.int (0))]) rfl ?_
  exact lm_readMark nm nn hz hp rfl 9 0 wr h (by omega) (by omega) (fun j hj => absurd hj (by omega)) gm gs (by rw [rowW_0]; exact gw) (fun _ _ _ => rfl)
set_option maxHeartbeats 4000000 in
set_option maxRecDepth 100000 in
theorem m_space (G : qG) {h : qH} {thr sch th cnt ps wr : Int32} {m0 sa nw la sh rcm bf z p : Nat} {g w : Nat → Int32} (hin : MdIn G h thr sch th cnt ps wr m0 sa nw la sh rcm bf z p g w) : qMet G M_X4_space [.ref m0] h (qI (fun v h1 => v = bI (mOk (mSpace (Sm z g) p w)) ∧ MdOut h h1 thr sch th cnt ps m0 sa nw la sh rcm bf z (mSpace (Sm z g) p w))) := by
  obtain ⟨nm, nn, hz, hp, gm, gs, gw⟩ := hin
  refine qMet.of (by decide) (Nat.le_of_ble_eq_true rfl) rfl ?_
  refine QP.locsE (L1 := [some (.ref m0)]) rfl ?_
  refine qp_aload_n dX4_space_0 rfl ?_
  refine qv_Ip dX4_space_1 mX4_45 (m_look G hz (by omega) gm gs) gm rfl rfl rfl rfl rfl rfl rfl ?_
  refine qp_bipush (v := 32) dX4_space_4 (by decide) ?_
  refine qp_icmp_eq 18 dX4_space_6 (by decide) (fun c_6 => ?_) (fun c_6 => ?_)
  · refine qp_aload_n dX4_space_18 rfl ?_
    refine qp_dup dX4_space_19 rfl ?_
    refine qp_getf dX4_space_20 fX4_39 gm rfl ?_
    refine qp_iconst (v := 1) dX4_space_23 (by decide) ?_
    refine qp_iadd dX4_space_24 ?_
    refine QP.topI (y := nI (p + 1)) (nI_1 p) ?_
    refine qk_put dX4_space_25 fX4_39 gm nm rfl rfl rfl rfl rfl (fun h4 g5 o6 => ?_)
    have g7 : h4 sa = some (.inl (1, 60, .inl (g))) := (o6 _ (ne_of_cells gs gm (by simp))).trans gs
    have g8 : h4 nw = some (.inl (0, 40, .inl (w))) := (o6 _ (ne_of_cells gw gm (by simp))).trans gw
    have g5 : h4 m0 = some (.inr (5, [.int (thr), .int (sch), .ref sa, .int (nI z), .ref nw, .ref la, .int (th), .ref sh, .ref rcm, .int (cnt), .ref bf, .int (ps), .int (nI (p + 1)), .int (wr)])) := g5
    refine qp_iconst (v := 1) dX4_space_28 (by decide) ?_
    exact qr_z dX4_space_29 rfl nar_1 rfl rfl ⟨by simp only [mSpace]; rw [if_pos c_6]; rfl, by simp only [mSpace]; rw [if_pos c_6]; exact ⟨⟨_, g5, g8⟩, fun b hb1 hb2 => (o6 b hb1)⟩⟩
  · refine qp_aload_n dX4_space_9 rfl ?_
    refine qp_aload_n dX4_space_10 rfl ?_
    refine qp_getf dX4_space_11 fX4_39 gm rfl ?_
    refine qv_Iq dX4_space_14 mX4_53 (m_bad G (nI p) nm gm) gm rfl rfl rfl rfl rfl rfl rfl (fun h10 p11 => ?_)
    obtain ⟨g12, o13⟩ := p11
    have g14 : h10 sa = some (.inl (1, 60, .inl (g))) := (o13 _ (ne_of_cells gs gm (by simp))).trans gs
    have g15 : h10 nw = some (.inl (0, 40, .inl (w))) := (o13 _ (ne_of_cells gw gm (by simp))).trans gw
    have g12 : h10 m0 = some (.inr (5, [.int (thr), .int (sch), .ref sa, .int (nI z), .ref nw, .ref la, .int (th), .ref sh, .ref rcm, .int (cnt), .ref bf, .int (ps), .int (nI p), .int (nI p)])) := g12
    exact qr_z dX4_space_17 rfl nar_0 rfl rfl ⟨by simp only [mSpace]; rw [if_neg c_6]; rfl, by simp only [mSpace]; rw [if_neg c_6]; exact ⟨⟨_, _, g12, g15⟩, fun b hb1 hb2 => (o13 b hb1)⟩⟩
theorem mDigits_bd {S : Nat → Int32} {p fr most : Nat} {w w' : Nat → Int32} {q : Nat} (h : mDigits S p fr most w = .inr (q, w')) : p ≤ q ∧ q ≤ p + most := by
  have := runD_le S most p
  simp only [mDigits] at h
  split at h
  · cases h
  · split at h
    · cases h
    · split at h
      · cases h
      · cases h; omega
theorem mNumber_bd {S : Nat → Int32} {p into most : Nat} {w w' : Nat → Int32} {q : Nat} (h : mNumber S p into most w = .inr (q, w')) : p ≤ q ∧ q ≤ p + most := by
  have := runD_le S most p
  simp only [mNumber] at h
  split at h
  · cases h
  · split at h
    · cases h
    · split at h
      · cases h
      · cases h; omega
set_option maxHeartbeats 4000000 in
set_option maxRecDepth 100000 in
theorem m_readCutter (G : qG) {h : qH} {thr sch th cnt ps wr : Int32} {m0 sa nw la sh rcm bf z p : Nat} {g w : Nat → Int32} (hp150 : p ≤ 150) (hin : MdIn G h thr sch th cnt ps wr m0 sa nw la sh rcm bf z p g w) : qMet G M_X4_readCutter [.ref m0] h (qI (fun v h1 => v = bI (mOk (mCutter (Sm z g) p w)) ∧ MdOut h h1 thr sch th cnt ps m0 sa nw la sh rcm bf z (mCutter (Sm z g) p w))) := by
  obtain ⟨nm, nn, hz, hp, gm, gs, gw⟩ := hin
  refine qMet.of (by decide) (Nat.le_of_ble_eq_true rfl) rfl ?_
  refine QP.locsE (L1 := [some (.ref m0)]) rfl ?_
  refine qp_aload_n dX4_readCutter_0 rfl ?_
  refine qv_Ip dX4_readCutter_1 mX4_45 (m_look G hz (by omega) gm gs) gm rfl rfl rfl rfl rfl rfl rfl ?_
  refine qs_Ip dX4_readCutter_4 mX4_56 (m_isCapital G (Sm z g (p))) rfl rfl rfl rfl rfl rfl ?_
  refine qp_if_ne 19 dX4_readCutter_7 (by decide) (fun c_7 => ?_) (fun c_7 => ?_)
  · rw [bI_n0] at c_7
    refine qp_aload_n dX4_readCutter_19 rfl ?_
    refine qp_getf dX4_readCutter_20 fX4_13 gm rfl ?_
    refine qp_bipush (v := 16) dX4_readCutter_23 (by decide) ?_
    refine qp_aload_n dX4_readCutter_25 rfl ?_
    refine qv_Ip dX4_readCutter_26 mX4_45 (m_look G hz (by omega) gm gs) gm rfl rfl rfl rfl rfl rfl rfl ?_
    refine qk_iast (16) dX4_readCutter_29 gw nn rfl (by omega) (by decide) (fun h10 g11 o12 => ?_)
    have g13 : h10 m0 = some (.inr (5, [.int (thr), .int (sch), .ref sa, .int (nI z), .ref nw, .ref la, .int (th), .ref sh, .ref rcm, .int (cnt), .ref bf, .int (ps), .int (nI p), .int (wr)])) := (o12 _ (ne_of_cells gm gw (by simp))).trans gm
    have g14 : h10 sa = some (.inl (1, 60, .inl (g))) := (o12 _ (ne_of_cells gs gw (by simp))).trans gs
    have g11 : h10 nw = some (.inl (0, 40, .inl (upd (w) (16) (Sm z g (p))))) := g11
    refine qp_aload_n dX4_readCutter_30 rfl ?_
    refine qp_dup dX4_readCutter_31 rfl ?_
    refine qp_getf dX4_readCutter_32 fX4_39 g13 rfl ?_
    refine qp_iconst (v := 1) dX4_readCutter_35 (by decide) ?_
    refine qp_iadd dX4_readCutter_36 ?_
    refine QP.topI (y := nI (p + 1)) (nI_1 p) ?_
    refine qk_put dX4_readCutter_37 fX4_39 g13 nm rfl rfl rfl rfl rfl (fun h15 g16 o17 => ?_)
    have g18 : h15 sa = some (.inl (1, 60, .inl (g))) := (o17 _ (ne_of_cells g14 g13 (by simp))).trans g14
    have g19 : h15 nw = some (.inl (0, 40, .inl (upd (w) (16) (Sm z g (p))))) := (o17 _ (ne_of_cells g11 g13 (by simp))).trans g11
    have g16 : h15 m0 = some (.inr (5, [.int (thr), .int (sch), .ref sa, .int (nI z), .ref nw, .ref la, .int (th), .ref sh, .ref rcm, .int (cnt), .ref bf, .int (ps), .int (nI (p + 1)), .int (wr)])) := g16
    refine qp_aload_n dX4_readCutter_40 rfl ?_
    refine qp_bipush (v := 17) dX4_readCutter_41 (by decide) ?_
    refine qp_bipush (v := 6) dX4_readCutter_43 (by decide) ?_
    refine qv_Iq dX4_readCutter_45 mX4_63 (m_digits G (17) (6) (by omega) (p := p + 1) ⟨nm, nn, hz, by omega, g16, g18, g19⟩) g16 rfl rfl rfl rfl rfl rfl rfl (fun h21 p22 => ?_)
    rcases hs23 : mDigits (Sm z g) (p + 1) (17) (6) (upd (w) (16) (Sm z g (p))) with q23 | ⟨q23, w23⟩
    · rw [hs23] at p22
      obtain ⟨⟨pp23, w23, g24, g25⟩, o26⟩ := p22
      have g27 : h21 sa = some (.inl (1, 60, .inl (g))) := (o26 _ (ne_of_cells g18 g16 (by simp)) (ne_of_cells g18 g19 (by simp))).trans g18
      have g24 : h21 m0 = some (.inr (5, [.int (thr), .int (sch), .ref sa, .int (nI z), .ref nw, .ref la, .int (th), .ref sh, .ref rcm, .int (cnt), .ref bf, .int (ps), .int (pp23), .int (nI q23)])) := g24
      have g25 : h21 nw = some (.inl (0, 40, .inl (w23))) := g25
      refine QP.topI (y := 0) rfl ?_
      exact qr_z dX4_readCutter_48 rfl nar_0 rfl rfl ⟨by simp only [mCutter]; rw [if_neg (by rw [c_7]; decide), hs23]; rfl, by simp only [mCutter]; rw [if_neg (by rw [c_7]; decide), hs23]; exact ⟨⟨_, _, g24, g25⟩, fun b hb1 hb2 => (((o26 b hb1 hb2).trans (o17 b hb1)).trans (o12 b hb2))⟩⟩
    · rw [hs23] at p22
      obtain ⟨⟨wr23, g28, g29⟩, o30⟩ := p22
      have bd23 := mDigits_bd hs23
      have g31 : h21 sa = some (.inl (1, 60, .inl (g))) := (o30 _ (ne_of_cells g18 g16 (by simp)) (ne_of_cells g18 g19 (by simp))).trans g18
      have g28 : h21 m0 = some (.inr (5, [.int (thr), .int (sch), .ref sa, .int (nI z), .ref nw, .ref la, .int (th), .ref sh, .ref rcm, .int (cnt), .ref bf, .int (ps), .int (nI q23), .int (wr23)])) := g28
      have g29 : h21 nw = some (.inl (0, 40, .inl (w23))) := g29
      refine QP.topI (y := 1) rfl ?_
      exact qr_z dX4_readCutter_48 rfl nar_1 rfl rfl ⟨by simp only [mCutter]; rw [if_neg (by rw [c_7]; decide), hs23]; rfl, by simp only [mCutter]; rw [if_neg (by rw [c_7]; decide), hs23]; exact ⟨⟨_, g28, g29⟩, fun b hb1 hb2 => (((o30 b hb1 hb2).trans (o17 b hb1)).trans (o12 b hb2))⟩⟩
  · rw [bI_0] at c_7
    refine qp_aload_n dX4_readCutter_10 rfl ?_
    refine qp_aload_n dX4_readCutter_11 rfl ?_
    refine qp_getf dX4_readCutter_12 fX4_39 gm rfl ?_
    refine qv_Iq dX4_readCutter_15 mX4_53 (m_bad G (nI p) nm gm) gm rfl rfl rfl rfl rfl rfl rfl (fun h33 p34 => ?_)
    obtain ⟨g35, o36⟩ := p34
    have g37 : h33 sa = some (.inl (1, 60, .inl (g))) := (o36 _ (ne_of_cells gs gm (by simp))).trans gs
    have g38 : h33 nw = some (.inl (0, 40, .inl (w))) := (o36 _ (ne_of_cells gw gm (by simp))).trans gw
    have g35 : h33 m0 = some (.inr (5, [.int (thr), .int (sch), .ref sa, .int (nI z), .ref nw, .ref la, .int (th), .ref sh, .ref rcm, .int (cnt), .ref bf, .int (ps), .int (nI p), .int (nI p)])) := g35
    exact qr_z dX4_readCutter_18 rfl nar_0 rfl rfl ⟨by simp only [mCutter]; rw [if_pos c_7]; rfl, by simp only [mCutter]; rw [if_pos c_7]; exact ⟨⟨_, _, g35, g38⟩, fun b hb1 hb2 => (o36 b hb1)⟩⟩
set_option maxHeartbeats 4000000 in
set_option maxRecDepth 100000 in
theorem m_readVolume (G : qG) {h : qH} {thr sch th cnt ps wr : Int32} {m0 sa nw la sh rcm bf z p : Nat} {g w : Nat → Int32} (hp150 : p ≤ 150) (hin : MdIn G h thr sch th cnt ps wr m0 sa nw la sh rcm bf z p g w) : qMet G M_X4_readVolume [.ref m0] h (qI (fun v h1 => v = bI (mOk (mVolume (Sm z g) p w)) ∧ MdOut h h1 thr sch th cnt ps m0 sa nw la sh rcm bf z (mVolume (Sm z g) p w))) := by
  obtain ⟨nm, nn, hz, hp, gm, gs, gw⟩ := hin
  refine qMet.of (by decide) (Nat.le_of_ble_eq_true rfl) rfl ?_
  refine QP.locsE (L1 := [some (.ref m0)]) rfl ?_
  refine qp_aload_n dX4_readVolume_0 rfl ?_
  refine qp_dup dX4_readVolume_1 rfl ?_
  refine qp_getf dX4_readVolume_2 fX4_39 gm rfl ?_
  refine qp_iconst (v := 2) dX4_readVolume_5 (by decide) ?_
  refine qp_iadd dX4_readVolume_6 ?_
  refine QP.topI (y := nI (p + 2)) (nI_add p 2) ?_
  refine qk_put dX4_readVolume_7 fX4_39 gm nm rfl rfl rfl rfl rfl (fun h1 g2 o3 => ?_)
  have g4 : h1 sa = some (.inl (1, 60, .inl (g))) := (o3 _ (ne_of_cells gs gm (by simp))).trans gs
  have g5 : h1 nw = some (.inl (0, 40, .inl (w))) := (o3 _ (ne_of_cells gw gm (by simp))).trans gw
  have g2 : h1 m0 = some (.inr (5, [.int (thr), .int (sch), .ref sa, .int (nI z), .ref nw, .ref la, .int (th), .ref sh, .ref rcm, .int (cnt), .ref bf, .int (ps), .int (nI (p + 2)), .int (wr)])) := g2
  refine qp_aload_n dX4_readVolume_10 rfl ?_
  refine qp_bipush (v := 24) dX4_readVolume_11 (by decide) ?_
  refine qp_iconst (v := 4) dX4_readVolume_13 (by decide) ?_
  refine qv_Iq dX4_readVolume_14 mX4_59 (m_number G (24) (4) (by omega) (by omega) (by omega) (p := p + 2) ⟨nm, nn, hz, by omega, g2, g4, g5⟩) g2 rfl rfl rfl rfl rfl rfl rfl (fun h7 p8 => ?_)
  rcases hs9 : mNumber (Sm z g) (p + 2) (24) (4) (w) with q9 | ⟨q9, w9⟩
  · rw [hs9] at p8
    obtain ⟨⟨pp9, w9, g10, g11⟩, o12⟩ := p8
    have g13 : h7 sa = some (.inl (1, 60, .inl (g))) := (o12 _ (ne_of_cells g4 g2 (by simp)) (ne_of_cells g4 g5 (by simp))).trans g4
    have g10 : h7 m0 = some (.inr (5, [.int (thr), .int (sch), .ref sa, .int (nI z), .ref nw, .ref la, .int (th), .ref sh, .ref rcm, .int (cnt), .ref bf, .int (ps), .int (pp9), .int (nI q9)])) := g10
    have g11 : h7 nw = some (.inl (0, 40, .inl (w9))) := g11
    refine QP.topI (y := 0) rfl ?_
    refine qp_if_ne 22 dX4_readVolume_17 (by decide) (fun c_17 => absurd rfl c_17) (fun c_17 => ?_)
    refine qp_iconst (v := 0) dX4_readVolume_20 (by decide) ?_
    exact qr_z dX4_readVolume_21 rfl nar_0 rfl rfl ⟨by simp only [mVolume]; rw [hs9]; rfl, by simp only [mVolume]; rw [hs9]; exact ⟨⟨_, _, g10, g11⟩, fun b hb1 hb2 => ((o12 b hb1 hb2).trans (o3 b hb1))⟩⟩
  · rw [hs9] at p8
    obtain ⟨⟨wr9, g14, g15⟩, o16⟩ := p8
    have bd9 := mNumber_bd hs9
    have g17 : h7 sa = some (.inl (1, 60, .inl (g))) := (o16 _ (ne_of_cells g4 g2 (by simp)) (ne_of_cells g4 g5 (by simp))).trans g4
    have g14 : h7 m0 = some (.inr (5, [.int (thr), .int (sch), .ref sa, .int (nI z), .ref nw, .ref la, .int (th), .ref sh, .ref rcm, .int (cnt), .ref bf, .int (ps), .int (nI q9), .int (wr9)])) := g14
    have g15 : h7 nw = some (.inl (0, 40, .inl (w9))) := g15
    refine QP.topI (y := 1) rfl ?_
    refine qp_if_ne 22 dX4_readVolume_17 (by decide) (fun c_17 => ?_) (fun c_17 => absurd c_17 (by decide))
    refine qp_aload_n dX4_readVolume_22 rfl ?_
    refine qv_Ip dX4_readVolume_23 mX4_45 (m_look G hz (by omega) g14 g17) g14 rfl rfl rfl rfl rfl rfl rfl ?_
    refine qs_Ip dX4_readVolume_26 mX4_66 (m_isSmall G (Sm z g (q9))) rfl rfl rfl rfl rfl rfl ?_
    refine qp_if_eq 53 dX4_readVolume_29 (by decide) (fun c_29 => ?_) (fun c_29 => ?_)
    · rw [bI_0] at c_29
      refine qp_iconst (v := 1) dX4_readVolume_53 (by decide) ?_
      exact qr_z dX4_readVolume_54 rfl nar_1 rfl rfl ⟨by simp only [mVolume]; rw [hs9]; simp only [mThen]; rw [if_neg (by rw [c_29]; decide)]; rfl, by simp only [mVolume]; rw [hs9]; simp only [mThen]; rw [if_neg (by rw [c_29]; decide)]; exact ⟨⟨_, g14, g15⟩, fun b hb1 hb2 => ((o16 b hb1 hb2).trans (o3 b hb1))⟩⟩
    · rw [bI_n0] at c_29
      refine qp_aload_n dX4_readVolume_32 rfl ?_
      refine qp_getf dX4_readVolume_33 fX4_13 g14 rfl ?_
      refine qp_bipush (v := 25) dX4_readVolume_36 (by decide) ?_
      refine qp_aload_n dX4_readVolume_38 rfl ?_
      refine qv_Ip dX4_readVolume_39 mX4_45 (m_look G hz (by omega) g14 g17) g14 rfl rfl rfl rfl rfl rfl rfl ?_
      refine qk_iast (25) dX4_readVolume_42 g15 nn rfl (by omega) (by decide) (fun h27 g28 o29 => ?_)
      have g30 : h27 sa = some (.inl (1, 60, .inl (g))) := (o29 _ (ne_of_cells g17 g15 (by simp))).trans g17
      have g31 : h27 m0 = some (.inr (5, [.int (thr), .int (sch), .ref sa, .int (nI z), .ref nw, .ref la, .int (th), .ref sh, .ref rcm, .int (cnt), .ref bf, .int (ps), .int (nI q9), .int (wr9)])) := (o29 _ (ne_of_cells g14 g15 (by simp))).trans g14
      have g28 : h27 nw = some (.inl (0, 40, .inl (upd (w9) (25) (Sm z g (q9))))) := g28
      refine qp_aload_n dX4_readVolume_43 rfl ?_
      refine qp_dup dX4_readVolume_44 rfl ?_
      refine qp_getf dX4_readVolume_45 fX4_39 g31 rfl ?_
      refine qp_iconst (v := 1) dX4_readVolume_48 (by decide) ?_
      refine qp_iadd dX4_readVolume_49 ?_
      refine QP.topI (y := nI (q9 + 1)) (nI_1 _) ?_
      refine qk_put dX4_readVolume_50 fX4_39 g31 nm rfl rfl rfl rfl rfl (fun h32 g33 o34 => ?_)
      have g35 : h32 sa = some (.inl (1, 60, .inl (g))) := (o34 _ (ne_of_cells g30 g31 (by simp))).trans g30
      have g36 : h32 nw = some (.inl (0, 40, .inl (upd (w9) (25) (Sm z g (q9))))) := (o34 _ (ne_of_cells g28 g31 (by simp))).trans g28
      have g33 : h32 m0 = some (.inr (5, [.int (thr), .int (sch), .ref sa, .int (nI z), .ref nw, .ref la, .int (th), .ref sh, .ref rcm, .int (cnt), .ref bf, .int (ps), .int (nI (q9 + 1)), .int (wr9)])) := g33
      refine qp_iconst (v := 1) dX4_readVolume_53 (by decide) ?_
      exact qr_z dX4_readVolume_54 rfl nar_1 rfl rfl ⟨by simp only [mVolume]; rw [hs9]; simp only [mThen]; rw [if_pos c_29]; rfl, by simp only [mVolume]; rw [hs9]; simp only [mThen]; rw [if_pos c_29]; exact ⟨⟨_, g33, g36⟩, fun b hb1 hb2 => ((((o34 b hb1).trans (o29 b hb2)).trans (o16 b hb1 hb2)).trans (o3 b hb1))⟩⟩
end
section
set_option maxHeartbeats 4000000 in
set_option maxRecDepth 100000 in
theorem lm_frac0 {G : qG} {h0 : qH} {thr th cnt ps : Int32} {m0 sa nw la sh rcm bf z p : Nat} {g w : Nat → Int32} {R : MOut} (nm : G.2.1 ≤ m0) (nn : G.2.1 ≤ nw) (hz : z ≤ 60) (hp : p ≤ 150) {wr : Int32} {h : qH} {a1 a2 : Option Value} (hR : R = mFrac (Sm z g) p 9 w) (gm : h m0 = some (mdCell thr 0 sa (nI z) nw la th sh rcm cnt bf ps (nI p) wr)) (gs : h sa = some (saCell g)) (gw : h nw = some (rwCell w)) (hfr : ∀ b : Nat, b ≠ m0 → b ≠ nw → h b = h0 b) : QP G M_X4_readClass qTr (qMZ G M_X4_readClass (qI (fun v h1 => v = bI (mOk R) ∧ MdOut h0 h1 thr 0 th cnt ps m0 sa nw la sh rcm bf z R))) 158 [some (.ref m0), a1, a2] [] h 0 0 := by
  refine qp_aload_n dX4_readClass_158 rfl ?_
  refine qv_Ip dX4_readClass_159 mX4_45 (m_look G hz (by omega) gm gs) gm rfl rfl rfl rfl rfl rfl rfl ?_
  refine qp_bipush (v := 46) dX4_readClass_162 (by decide) ?_
  refine qp_icmp_ne 200 dX4_readClass_164 (by decide) (fun c_164 => ?_) (fun c_164 => ?_)
  · refine qp_aload_n dX4_readClass_200 rfl ?_
    refine qp_getf dX4_readClass_201 fX4_13 gm rfl ?_
    refine qp_bipush (v := 37) dX4_readClass_204 (by decide) ?_
    refine qp_aload_n dX4_readClass_206 rfl ?_
    refine qp_getf dX4_readClass_207 fX4_39 gm rfl ?_
    refine qk_iast (37) dX4_readClass_210 gw nn rfl (by omega) (by decide) (fun h4 g5 o6 => ?_)
    have g7 : h4 m0 = some (.inr (5, [.int (thr), .int (0), .ref sa, .int (nI z), .ref nw, .ref la, .int (th), .ref sh, .ref rcm, .int (cnt), .ref bf, .int (ps), .int (nI p), .int (wr)])) := (o6 _ (ne_of_cells gm gw (by simp))).trans gm
    have g8 : h4 sa = some (.inl (1, 60, .inl (g))) := (o6 _ (ne_of_cells gs gw (by simp))).trans gs
    have g5 : h4 nw = some (.inl (0, 40, .inl (upd (w) (37) (nI p)))) := g5
    refine qp_iconst (v := 1) dX4_readClass_211 (by decide) ?_
    have eR : R = .inr (p, upd w 37 (nI p)) := by rw [hR, mFrac, if_neg c_164]; rfl
    exact qr_z dX4_readClass_212 rfl nar_1 rfl rfl ⟨by rw [eR]; rfl, by rw [eR]; exact ⟨⟨_, g7, g5⟩, fun b hb1 hb2 => (o6 b hb2).trans (hfr b hb1 hb2)⟩⟩
  · refine qp_aload_n dX4_readClass_167 rfl ?_
    refine qp_dup dX4_readClass_168 rfl ?_
    refine qp_getf dX4_readClass_169 fX4_39 gm rfl ?_
    refine qp_iconst (v := 1) dX4_readClass_172 (by decide) ?_
    refine qp_iadd dX4_readClass_173 ?_
    refine QP.topI (y := nI (p + 1)) (nI_1 p) ?_
    refine qk_put dX4_readClass_174 fX4_39 gm nm rfl rfl rfl rfl rfl (fun h9 g10 o11 => ?_)
    have g12 : h9 sa = some (.inl (1, 60, .inl (g))) := (o11 _ (ne_of_cells gs gm (by simp))).trans gs
    have g13 : h9 nw = some (.inl (0, 40, .inl (w))) := (o11 _ (ne_of_cells gw gm (by simp))).trans gw
    have g10 : h9 m0 = some (.inr (5, [.int (thr), .int (0), .ref sa, .int (nI z), .ref nw, .ref la, .int (th), .ref sh, .ref rcm, .int (cnt), .ref bf, .int (ps), .int (nI (p + 1)), .int (wr)])) := g10
    refine qp_aload_n dX4_readClass_177 rfl ?_
    refine qp_iconst (v := 4) dX4_readClass_178 (by decide) ?_
    refine qp_aload_n dX4_readClass_179 rfl ?_
    refine qp_getf dX4_readClass_180 fX4_29 g10 rfl ?_
    refine qp_if_ne 191 dX4_readClass_183 (by decide) (fun c_183 => absurd rfl c_183) (fun c_183 => ?_)
    refine qp_bipush (v := 9) dX4_readClass_186 (by decide) ?_
    refine qp_goto 192 dX4_readClass_188 (by decide) ?_
    refine qv_Iq dX4_readClass_192 mX4_63 (m_digits G (4) (9) (by omega) (p := p + 1) ⟨nm, nn, hz, by omega, g10, g12, g13⟩) g10 rfl rfl rfl rfl rfl rfl rfl (fun h15 p16 => ?_)
    rcases hs17 : mDigits (Sm z g) (p + 1) (4) (9) (w) with q17 | ⟨q17, w17⟩
    · rw [hs17] at p16
      obtain ⟨⟨pp17, w17, g18, g19⟩, o20⟩ := p16
      have g21 : h15 sa = some (.inl (1, 60, .inl (g))) := (o20 _ (ne_of_cells g12 g10 (by simp)) (ne_of_cells g12 g13 (by simp))).trans g12
      have g18 : h15 m0 = some (.inr (5, [.int (thr), .int (0), .ref sa, .int (nI z), .ref nw, .ref la, .int (th), .ref sh, .ref rcm, .int (cnt), .ref bf, .int (ps), .int (pp17), .int (nI q17)])) := g18
      have g19 : h15 nw = some (.inl (0, 40, .inl (w17))) := g19
      refine QP.topI (y := 0) rfl ?_
      refine qp_if_ne 200 dX4_readClass_195 (by decide) (fun c_195 => absurd rfl c_195) (fun c_195 => ?_)
      refine qp_iconst (v := 0) dX4_readClass_198 (by decide) ?_
      have eR : R = .inl q17 := by rw [hR, mFrac, if_pos c_164, hs17]; rfl
      exact qr_z dX4_readClass_199 rfl nar_0 rfl rfl ⟨by rw [eR]; rfl, by rw [eR]; exact ⟨⟨_, _, g18, g19⟩, fun b hb1 hb2 => ((o20 b hb1 hb2).trans (o11 b hb1)).trans (hfr b hb1 hb2)⟩⟩
    · rw [hs17] at p16
      obtain ⟨⟨wr17, g22, g23⟩, o24⟩ := p16
      have bd17 := mDigits_bd hs17
      have g25 : h15 sa = some (.inl (1, 60, .inl (g))) := (o24 _ (ne_of_cells g12 g10 (by simp)) (ne_of_cells g12 g13 (by simp))).trans g12
      have g22 : h15 m0 = some (.inr (5, [.int (thr), .int (0), .ref sa, .int (nI z), .ref nw, .ref la, .int (th), .ref sh, .ref rcm, .int (cnt), .ref bf, .int (ps), .int (nI q17), .int (wr17)])) := g22
      have g23 : h15 nw = some (.inl (0, 40, .inl (w17))) := g23
      refine QP.topI (y := 1) rfl ?_
      refine qp_if_ne 200 dX4_readClass_195 (by decide) (fun c_195 => ?_) (fun c_195 => absurd c_195 (by decide))
      refine qp_aload_n dX4_readClass_200 rfl ?_
      refine qp_getf dX4_readClass_201 fX4_13 g22 rfl ?_
      refine qp_bipush (v := 37) dX4_readClass_204 (by decide) ?_
      refine qp_aload_n dX4_readClass_206 rfl ?_
      refine qp_getf dX4_readClass_207 fX4_39 g22 rfl ?_
      refine qk_iast (37) dX4_readClass_210 g23 nn rfl (by omega) (by decide) (fun h26 g27 o28 => ?_)
      have g29 : h26 sa = some (.inl (1, 60, .inl (g))) := (o28 _ (ne_of_cells g25 g23 (by simp))).trans g25
      have g30 : h26 m0 = some (.inr (5, [.int (thr), .int (0), .ref sa, .int (nI z), .ref nw, .ref la, .int (th), .ref sh, .ref rcm, .int (cnt), .ref bf, .int (ps), .int (nI q17), .int (wr17)])) := (o28 _ (ne_of_cells g22 g23 (by simp))).trans g22
      have g27 : h26 nw = some (.inl (0, 40, .inl (upd (w17) (37) (nI q17)))) := g27
      refine qp_iconst (v := 1) dX4_readClass_211 (by decide) ?_
      have eR : R = .inr (q17, upd w17 37 (nI q17)) := by rw [hR, mFrac, if_pos c_164, hs17]; rfl
      exact qr_z dX4_readClass_212 rfl nar_1 rfl rfl ⟨by rw [eR]; rfl, by rw [eR]; exact ⟨⟨_, g30, g27⟩, fun b hb1 hb2 => (((o28 b hb2).trans (o24 b hb1 hb2)).trans (o11 b hb1)).trans (hfr b hb1 hb2)⟩⟩
set_option maxHeartbeats 4000000 in
set_option maxRecDepth 100000 in
theorem lm_frac1 {G : qG} {h0 : qH} {thr th cnt ps : Int32} {m0 sa nw la sh rcm bf z p : Nat} {g w : Nat → Int32} {R : MOut} (nm : G.2.1 ≤ m0) (nn : G.2.1 ≤ nw) (hz : z ≤ 60) (hp : p ≤ 150) {wr : Int32} {h : qH} {a1 a2 : Option Value} (hR : R = mFrac (Sm z g) p 4 w) (gm : h m0 = some (mdCell thr 1 sa (nI z) nw la th sh rcm cnt bf ps (nI p) wr)) (gs : h sa = some (saCell g)) (gw : h nw = some (rwCell w)) (hfr : ∀ b : Nat, b ≠ m0 → b ≠ nw → h b = h0 b) : QP G M_X4_readClass qTr (qMZ G M_X4_readClass (qI (fun v h1 => v = bI (mOk R) ∧ MdOut h0 h1 thr 1 th cnt ps m0 sa nw la sh rcm bf z R))) 158 [some (.ref m0), a1, a2] [] h 0 0 := by
  refine qp_aload_n dX4_readClass_158 rfl ?_
  refine qv_Ip dX4_readClass_159 mX4_45 (m_look G hz (by omega) gm gs) gm rfl rfl rfl rfl rfl rfl rfl ?_
  refine qp_bipush (v := 46) dX4_readClass_162 (by decide) ?_
  refine qp_icmp_ne 200 dX4_readClass_164 (by decide) (fun c_164 => ?_) (fun c_164 => ?_)
  · refine qp_aload_n dX4_readClass_200 rfl ?_
    refine qp_getf dX4_readClass_201 fX4_13 gm rfl ?_
    refine qp_bipush (v := 37) dX4_readClass_204 (by decide) ?_
    refine qp_aload_n dX4_readClass_206 rfl ?_
    refine qp_getf dX4_readClass_207 fX4_39 gm rfl ?_
    refine qk_iast (37) dX4_readClass_210 gw nn rfl (by omega) (by decide) (fun h4 g5 o6 => ?_)
    have g7 : h4 m0 = some (.inr (5, [.int (thr), .int (1), .ref sa, .int (nI z), .ref nw, .ref la, .int (th), .ref sh, .ref rcm, .int (cnt), .ref bf, .int (ps), .int (nI p), .int (wr)])) := (o6 _ (ne_of_cells gm gw (by simp))).trans gm
    have g8 : h4 sa = some (.inl (1, 60, .inl (g))) := (o6 _ (ne_of_cells gs gw (by simp))).trans gs
    have g5 : h4 nw = some (.inl (0, 40, .inl (upd (w) (37) (nI p)))) := g5
    refine qp_iconst (v := 1) dX4_readClass_211 (by decide) ?_
    have eR : R = .inr (p, upd w 37 (nI p)) := by rw [hR, mFrac, if_neg c_164]; rfl
    exact qr_z dX4_readClass_212 rfl nar_1 rfl rfl ⟨by rw [eR]; rfl, by rw [eR]; exact ⟨⟨_, g7, g5⟩, fun b hb1 hb2 => (o6 b hb2).trans (hfr b hb1 hb2)⟩⟩
  · refine qp_aload_n dX4_readClass_167 rfl ?_
    refine qp_dup dX4_readClass_168 rfl ?_
    refine qp_getf dX4_readClass_169 fX4_39 gm rfl ?_
    refine qp_iconst (v := 1) dX4_readClass_172 (by decide) ?_
    refine qp_iadd dX4_readClass_173 ?_
    refine QP.topI (y := nI (p + 1)) (nI_1 p) ?_
    refine qk_put dX4_readClass_174 fX4_39 gm nm rfl rfl rfl rfl rfl (fun h9 g10 o11 => ?_)
    have g12 : h9 sa = some (.inl (1, 60, .inl (g))) := (o11 _ (ne_of_cells gs gm (by simp))).trans gs
    have g13 : h9 nw = some (.inl (0, 40, .inl (w))) := (o11 _ (ne_of_cells gw gm (by simp))).trans gw
    have g10 : h9 m0 = some (.inr (5, [.int (thr), .int (1), .ref sa, .int (nI z), .ref nw, .ref la, .int (th), .ref sh, .ref rcm, .int (cnt), .ref bf, .int (ps), .int (nI (p + 1)), .int (wr)])) := g10
    refine qp_aload_n dX4_readClass_177 rfl ?_
    refine qp_iconst (v := 4) dX4_readClass_178 (by decide) ?_
    refine qp_aload_n dX4_readClass_179 rfl ?_
    refine qp_getf dX4_readClass_180 fX4_29 g10 rfl ?_
    refine qp_if_ne 191 dX4_readClass_183 (by decide) (fun c_183 => ?_) (fun c_183 => absurd c_183 (by decide))
    refine qp_iconst (v := 4) dX4_readClass_191 (by decide) ?_
    refine qv_Iq dX4_readClass_192 mX4_63 (m_digits G (4) (4) (by omega) (p := p + 1) ⟨nm, nn, hz, by omega, g10, g12, g13⟩) g10 rfl rfl rfl rfl rfl rfl rfl (fun h15 p16 => ?_)
    rcases hs17 : mDigits (Sm z g) (p + 1) (4) (4) (w) with q17 | ⟨q17, w17⟩
    · rw [hs17] at p16
      obtain ⟨⟨pp17, w17, g18, g19⟩, o20⟩ := p16
      have g21 : h15 sa = some (.inl (1, 60, .inl (g))) := (o20 _ (ne_of_cells g12 g10 (by simp)) (ne_of_cells g12 g13 (by simp))).trans g12
      have g18 : h15 m0 = some (.inr (5, [.int (thr), .int (1), .ref sa, .int (nI z), .ref nw, .ref la, .int (th), .ref sh, .ref rcm, .int (cnt), .ref bf, .int (ps), .int (pp17), .int (nI q17)])) := g18
      have g19 : h15 nw = some (.inl (0, 40, .inl (w17))) := g19
      refine QP.topI (y := 0) rfl ?_
      refine qp_if_ne 200 dX4_readClass_195 (by decide) (fun c_195 => absurd rfl c_195) (fun c_195 => ?_)
      refine qp_iconst (v := 0) dX4_readClass_198 (by decide) ?_
      have eR : R = .inl q17 := by rw [hR, mFrac, if_pos c_164, hs17]; rfl
      exact qr_z dX4_readClass_199 rfl nar_0 rfl rfl ⟨by rw [eR]; rfl, by rw [eR]; exact ⟨⟨_, _, g18, g19⟩, fun b hb1 hb2 => ((o20 b hb1 hb2).trans (o11 b hb1)).trans (hfr b hb1 hb2)⟩⟩
    · rw [hs17] at p16
      obtain ⟨⟨wr17, g22, g23⟩, o24⟩ := p16
      have bd17 := mDigits_bd hs17
      have g25 : h15 sa = some (.inl (1, 60, .inl (g))) := (o24 _ (ne_of_cells g12 g10 (by simp)) (ne_of_cells g12 g13 (by simp))).trans g12
      have g22 : h15 m0 = some (.inr (5, [.int (thr), .int (1), .ref sa, .int (nI z), .ref nw, .ref la, .int (th), .ref sh, .ref rcm, .int (cnt), .ref bf, .int (ps), .int (nI q17), .int (wr17)])) := g22
      have g23 : h15 nw = some (.inl (0, 40, .inl (w17))) := g23
      refine QP.topI (y := 1) rfl ?_
      refine qp_if_ne 200 dX4_readClass_195 (by decide) (fun c_195 => ?_) (fun c_195 => absurd c_195 (by decide))
      refine qp_aload_n dX4_readClass_200 rfl ?_
      refine qp_getf dX4_readClass_201 fX4_13 g22 rfl ?_
      refine qp_bipush (v := 37) dX4_readClass_204 (by decide) ?_
      refine qp_aload_n dX4_readClass_206 rfl ?_
      refine qp_getf dX4_readClass_207 fX4_39 g22 rfl ?_
      refine qk_iast (37) dX4_readClass_210 g23 nn rfl (by omega) (by decide) (fun h26 g27 o28 => ?_)
      have g29 : h26 sa = some (.inl (1, 60, .inl (g))) := (o28 _ (ne_of_cells g25 g23 (by simp))).trans g25
      have g30 : h26 m0 = some (.inr (5, [.int (thr), .int (1), .ref sa, .int (nI z), .ref nw, .ref la, .int (th), .ref sh, .ref rcm, .int (cnt), .ref bf, .int (ps), .int (nI q17), .int (wr17)])) := (o28 _ (ne_of_cells g22 g23 (by simp))).trans g22
      have g27 : h26 nw = some (.inl (0, 40, .inl (upd (w17) (37) (nI q17)))) := g27
      refine qp_iconst (v := 1) dX4_readClass_211 (by decide) ?_
      have eR : R = .inr (q17, upd w17 37 (nI q17)) := by rw [hR, mFrac, if_pos c_164, hs17]; rfl
      exact qr_z dX4_readClass_212 rfl nar_1 rfl rfl ⟨by rw [eR]; rfl, by rw [eR]; exact ⟨⟨_, g30, g27⟩, fun b hb1 hb2 => (((o28 b hb2).trans (o24 b hb1 hb2)).trans (o11 b hb1)).trans (hfr b hb1 hb2)⟩⟩
set_option maxHeartbeats 4000000 in
set_option maxRecDepth 100000 in
theorem lm_class0 {G : qG} {h0 : qH} {thr th cnt ps : Int32} {m0 sa nw la sh rcm bf z p : Nat} {g w : Nat → Int32} {R : MOut} (nm : G.2.1 ≤ m0) (nn : G.2.1 ≤ nw) (hz : z ≤ 60) (hp : p ≤ 100) (hR : R = mClass0 (Sm z g) p w) : ∀ (t n : Nat) (wr : Int32) (h : qH), 3 < n + t → n ≤ 3 → (∀ j, j < n → isDig (Sm z g (p + j)) = true) → h m0 = some (mdCell thr 0 sa (nI z) nw la th sh rcm cnt bf ps (nI (p + n)) wr) → h sa = some (saCell g) → h nw = some (rwCell (w)) → (∀ b : Nat, b ≠ m0 → b ≠ nw → h b = h0 b) → QP G M_X4_readClass qTr (qMZ G M_X4_readClass (qI (fun v h1 => v = bI (mOk R) ∧ MdOut h0 h1 thr 0 th cnt ps m0 sa nw la sh rcm bf z R))) 11 [some (.ref m0), some (.int (sVal (Sm z g) p n)), some (.int (nI n))] [] h 0 0 := by
  intro t
  induction t with
  | zero =>
    intro n wr h h1 h2
    omega
  | succ t ih =>
    intro n wr h h1 h2 hdig gm gs gw hfr
    refine qp_iload_n dX4_readClass_11 rfl ?_
    refine qp_iconst (v := 3) dX4_readClass_12 (by decide) ?_
    refine qp_icmp_ge 64 dX4_readClass_13 (by decide) (fun c_13 => ?_) (fun c_13 => ?_)
    · have hn3 : n = 3 := by have := (nI_leI (a := 3) (by decide) (by omega)).mp c_13; omega
      refine qp_aload_n dX4_readClass_64 rfl ?_
      refine qp_getf dX4_readClass_65 fX4_13 gm rfl ?_
      refine qp_iconst (v := 3) dX4_readClass_68 (by decide) ?_
      refine qp_iload_n dX4_readClass_69 rfl ?_
      refine qp_iconst (v := 1) dX4_readClass_70 (by decide) ?_
      refine qp_iadd dX4_readClass_71 ?_
      refine qk_iast (3) dX4_readClass_72 gw nn rfl (by omega) (by decide) (fun h1 g2 o3 => ?_)
      have g4 : h1 m0 = some (.inr (5, [.int (thr), .int (0), .ref sa, .int (nI z), .ref nw, .ref la, .int (th), .ref sh, .ref rcm, .int (cnt), .ref bf, .int (ps), .int (nI (p + n)), .int (wr)])) := (o3 _ (ne_of_cells gm gw (by simp))).trans gm
      have g5 : h1 sa = some (.inl (1, 60, .inl (g))) := (o3 _ (ne_of_cells gs gw (by simp))).trans gs
      have g2 : h1 nw = some (.inl (0, 40, .inl (upd (w) (3) ((sVal (Sm z g) p n) + (1))))) := g2
      refine qp_goto 158 dX4_readClass_73 (by decide) ?_
      have hn : runD (Sm z g) 3 p = 3 := runD_dig 3 p (fun j hj => hdig j (by omega))
      exact lm_frac0 (p := p + n) nm nn hz (by omega) (by rw [hR, mClass0, hn, if_neg (by omega), hn3]) g4 g5 g2 (fun b hb1 hb2 => (o3 b hb2).trans (hfr b hb1 hb2))
    · have hn3 : n < 3 := Nat.not_le.mp fun q => c_13 ((nI_leI (a := 3) (by decide) (by omega)).mpr q)
      refine qp_aload_n dX4_readClass_16 rfl ?_
      refine qv_Ip dX4_readClass_17 mX4_45 (m_look G hz (by omega) gm gs) gm rfl rfl rfl rfl rfl rfl rfl ?_
      refine qs_Ip dX4_readClass_20 mX4_49 (m_isDigit G (Sm z g (p + n))) rfl rfl rfl rfl rfl rfl ?_
      refine qp_if_ne 35 dX4_readClass_23 (by decide) (fun c_23 => ?_) (fun c_23 => ?_)
      · rw [bI_n0] at c_23
        refine qp_bipush (v := 10) dX4_readClass_35 (by decide) ?_
        refine qp_iload_n dX4_readClass_37 rfl ?_
        refine qp_imul dX4_readClass_38 ?_
        refine qp_aload_n dX4_readClass_39 rfl ?_
        refine qv_Ip dX4_readClass_40 mX4_45 (m_look G hz (by omega) gm gs) gm rfl rfl rfl rfl rfl rfl rfl ?_
        refine qp_iadd dX4_readClass_43 ?_
        refine qp_bipush (v := 48) dX4_readClass_44 (by decide) ?_
        refine qp_isub dX4_readClass_46 ?_
        refine QP.topI (y := sVal (Sm z g) p (n + 1)) rfl ?_
        refine qp_istore_n dX4_readClass_47 (by decide) ?_
        refine QP.locsE (L1 := [some (.ref m0), some (.int (sVal (Sm z g) p (n + 1))), some (.int (nI n))]) rfl ?_
        refine qp_aload_n dX4_readClass_48 rfl ?_
        refine qp_dup dX4_readClass_49 rfl ?_
        refine qp_getf dX4_readClass_50 fX4_39 gm rfl ?_
        refine qp_iconst (v := 1) dX4_readClass_53 (by decide) ?_
        refine qp_iadd dX4_readClass_54 ?_
        refine QP.topI (y := nI (p + n + 1)) (nI_1 _) ?_
        refine qk_put dX4_readClass_55 fX4_39 gm nm rfl rfl rfl rfl rfl (fun h15 g16 o17 => ?_)
        have g18 : h15 sa = some (.inl (1, 60, .inl (g))) := (o17 _ (ne_of_cells gs gm (by simp))).trans gs
        have g19 : h15 nw = some (.inl (0, 40, .inl (w))) := (o17 _ (ne_of_cells gw gm (by simp))).trans gw
        have g16 : h15 m0 = some (.inr (5, [.int (thr), .int (0), .ref sa, .int (nI z), .ref nw, .ref la, .int (th), .ref sh, .ref rcm, .int (cnt), .ref bf, .int (ps), .int (nI (p + n + 1)), .int (wr)])) := g16
        refine qp_iinc (v := nI (n + 1)) dX4_readClass_58 rfl (by decide) (nI_1 n) ?_
        refine QP.locsE (L1 := [some (.ref m0), some (.int (sVal (Sm z g) p (n + 1))), some (.int (nI (n + 1)))]) rfl ?_
        refine qp_goto 11 dX4_readClass_61 (by decide) ?_
        exact ih (n + 1) _ h15 (by omega) (by omega) (fun j hj => by rcases Nat.lt_succ_iff_lt_or_eq.mp hj with q | q; exact hdig j q; rw [q]; exact c_23) g16 g18 g19 (fun b hb1 hb2 => (o17 b hb1).trans (hfr b hb1 hb2))
      · rw [bI_0] at c_23
        refine qp_aload_n dX4_readClass_26 rfl ?_
        refine qp_aload_n dX4_readClass_27 rfl ?_
        refine qp_getf dX4_readClass_28 fX4_39 gm rfl ?_
        refine qv_Iq dX4_readClass_31 mX4_53 (m_bad G (nI (p + n)) nm gm) gm rfl rfl rfl rfl rfl rfl rfl (fun h21 p22 => ?_)
        obtain ⟨g23, o24⟩ := p22
        have g25 : h21 sa = some (.inl (1, 60, .inl (g))) := (o24 _ (ne_of_cells gs gm (by simp))).trans gs
        have g26 : h21 nw = some (.inl (0, 40, .inl (w))) := (o24 _ (ne_of_cells gw gm (by simp))).trans gw
        have g23 : h21 m0 = some (.inr (5, [.int (thr), .int (0), .ref sa, .int (nI z), .ref nw, .ref la, .int (th), .ref sh, .ref rcm, .int (cnt), .ref bf, .int (ps), .int (nI (p + n)), .int (nI (p + n))])) := g23
        have hn : runD (Sm z g) 3 p = n := runD_stop 3 p n (by omega) hdig c_23
        have eR : R = .inl (p + n) := by rw [hR, mClass0, hn, if_pos hn3]
        exact qr_z dX4_readClass_34 rfl nar_0 rfl rfl ⟨by rw [eR]; rfl, by rw [eR]; exact ⟨⟨_, _, g23, g26⟩, fun b hb1 hb2 => (o24 b hb1).trans (hfr b hb1 hb2)⟩⟩
set_option maxHeartbeats 4000000 in
set_option maxRecDepth 100000 in
theorem m_readClass0 (G : qG) {h : qH} {thr th cnt ps wr : Int32} {m0 sa nw la sh rcm bf z p : Nat} {g w : Nat → Int32} (hp100 : p ≤ 100) (hin : MdIn G h thr 0 th cnt ps wr m0 sa nw la sh rcm bf z p g w) : qMet G M_X4_readClass [.ref m0] h (qI (fun v h1 => v = bI (mOk (mClass0 (Sm z g) p w)) ∧ MdOut h h1 thr 0 th cnt ps m0 sa nw la sh rcm bf z (mClass0 (Sm z g) p w))) := by
  obtain ⟨nm, nn, hz, hp, gm, gs, gw⟩ := hin
  refine qMet.of (by decide) (Nat.le_of_ble_eq_true rfl) rfl ?_
  refine QP.locsE (L1 := [some (.ref m0), none, none]) rfl ?_
  refine qp_aload_n dX4_readClass_0 rfl ?_
  refine qp_getf dX4_readClass_1 fX4_29 gm rfl ?_
  refine qp_if_ne 76 dX4_readClass_4 (by decide) (fun c_4 => absurd rfl c_4) (fun c_4 => ?_)
  refine qp_iconst (v := 0) dX4_readClass_7 (by decide) ?_
  refine qp_istore_n dX4_readClass_8 (by decide) ?_
  refine QP.locsE (L1 := [some (.ref m0), some (.int (0)), none]) rfl ?_
  refine qp_iconst (v := 0) dX4_readClass_9 (by decide) ?_
  refine qp_istore_n dX4_readClass_10 (by decide) ?_
  refine QP.locsE (L1 := [some (.ref m0), some (.int (0)), some (.int (0))]) rfl ?_
  exact lm_class0 nm nn hz hp100 rfl 4 0 wr h (by omega) (by omega) (fun j hj => absurd hj (by omega)) gm gs gw (fun _ _ _ => rfl)
set_option maxHeartbeats 4000000 in
set_option maxRecDepth 100000 in
theorem lm_class1 {G : qG} {h0 : qH} {thr th cnt ps : Int32} {m0 sa nw la sh rcm bf z p : Nat} {g w : Nat → Int32} {R : MOut} (nm : G.2.1 ≤ m0) (nn : G.2.1 ≤ nw) (hz : z ≤ 60) (hp : p ≤ 100) (hR : R = mClass1 (Sm z g) p w) : ∀ (t n : Nat) (wr : Int32) (h : qH), 3 < n + t → n ≤ 3 → (∀ j, j < n → isCap (Sm z g (p + j)) = true) → h m0 = some (mdCell thr 1 sa (nI z) nw la th sh rcm cnt bf ps (nI (p + n)) wr) → h sa = some (saCell g) → h nw = some (rwCell (rowW w 0 (Sm z g) p n)) → (∀ b : Nat, b ≠ m0 → b ≠ nw → h b = h0 b) → QP G M_X4_readClass qTr (qMZ G M_X4_readClass (qI (fun v h1 => v = bI (mOk R) ∧ MdOut h0 h1 thr 1 th cnt ps m0 sa nw la sh rcm bf z R))) 78 [some (.ref m0), some (.int (nI n)), none] [] h 0 0 := by
  intro t
  induction t with
  | zero =>
    intro n wr h h1 h2
    omega
  | succ t ih =>
    intro n wr h h1 h2 hdig gm gs gw hfr
    refine qp_aload_n dX4_readClass_78 rfl ?_
    refine qv_Ip dX4_readClass_79 mX4_45 (m_look G hz (by omega) gm gs) gm rfl rfl rfl rfl rfl rfl rfl ?_
    refine qs_Ip dX4_readClass_82 mX4_56 (m_isCapital G (Sm z g (p + n))) rfl rfl rfl rfl rfl rfl ?_
    refine qp_if_eq 128 dX4_readClass_85 (by decide) (fun c_85 => ?_) (fun c_85 => ?_)
    · rw [bI_0] at c_85
      refine qp_iload_n dX4_readClass_128 rfl ?_
      refine qp_if_eq 141 dX4_readClass_129 (by decide) (fun c_129 => ?_) (fun c_129 => ?_)
      · have hn0 : n = 0 := (nI_eq (b := 0) (by omega) (by decide)).mp c_129
        refine qp_iload_n dX4_readClass_141 rfl ?_
        refine qp_if_le 149 dX4_readClass_142 (by decide) (fun c_142 => ?_) (fun c_142 => absurd (by rw [hn0]; decide) c_142)
        refine qp_aload_n dX4_readClass_149 rfl ?_
        refine qp_aload_n dX4_readClass_150 rfl ?_
        refine qp_getf dX4_readClass_151 fX4_39 gm rfl ?_
        refine qv_Iq dX4_readClass_154 mX4_53 (m_bad G (nI (p + n)) nm gm) gm rfl rfl rfl rfl rfl rfl rfl (fun h8 p9 => ?_)
        obtain ⟨g10, o11⟩ := p9
        have g12 : h8 sa = some (.inl (1, 60, .inl (g))) := (o11 _ (ne_of_cells gs gm (by simp))).trans gs
        have g13 : h8 nw = some (.inl (0, 40, .inl (rowW w 0 (Sm z g) p n))) := (o11 _ (ne_of_cells gw gm (by simp))).trans gw
        have g10 : h8 m0 = some (.inr (5, [.int (thr), .int (1), .ref sa, .int (nI z), .ref nw, .ref la, .int (th), .ref sh, .ref rcm, .int (cnt), .ref bf, .int (ps), .int (nI (p + n)), .int (nI (p + n))])) := g10
        have hn : runP isCap (Sm z g) 3 p = n := runP_stop 3 p n (by omega) hdig c_85
        have eR : R = .inl (p + n) := by rw [hR, mClass1, hn, if_neg (by rw [c_85]; decide), if_pos hn0, hn0]; rfl
        exact qr_z dX4_readClass_157 rfl nar_0 rfl rfl ⟨by rw [eR]; rfl, by rw [eR]; exact ⟨⟨_, _, g10, g13⟩, fun b hb1 hb2 => (o11 b hb1).trans (hfr b hb1 hb2)⟩⟩
      · have hn0 : ¬ n = 0 := fun q => c_129 (by rw [q]; decide)
        refine qp_aload_n dX4_readClass_132 rfl ?_
        refine qp_iconst (v := 3) dX4_readClass_133 (by decide) ?_
        refine qp_iconst (v := 4) dX4_readClass_134 (by decide) ?_
        refine qv_Iq dX4_readClass_135 mX4_59 (m_number G (3) (4) (by omega) (by omega) (by omega) (p := p + n) ⟨nm, nn, hz, by omega, gm, gs, gw⟩) gm rfl rfl rfl rfl rfl rfl rfl (fun h15 p16 => ?_)
        rcases hs17 : mNumber (Sm z g) (p + n) (3) (4) (rowW w 0 (Sm z g) p n) with q17 | ⟨q17, w17⟩
        · rw [hs17] at p16
          obtain ⟨⟨pp17, w17, g18, g19⟩, o20⟩ := p16
          have g21 : h15 sa = some (.inl (1, 60, .inl (g))) := (o20 _ (ne_of_cells gs gm (by simp)) (ne_of_cells gs gw (by simp))).trans gs
          have g18 : h15 m0 = some (.inr (5, [.int (thr), .int (1), .ref sa, .int (nI z), .ref nw, .ref la, .int (th), .ref sh, .ref rcm, .int (cnt), .ref bf, .int (ps), .int (pp17), .int (nI q17)])) := g18
          have g19 : h15 nw = some (.inl (0, 40, .inl (w17))) := g19
          refine QP.topI (y := 0) rfl ?_
          refine qp_if_ne 158 dX4_readClass_138 (by decide) (fun c_138 => absurd rfl c_138) (fun c_138 => ?_)
          refine qp_iload_n dX4_readClass_141 rfl ?_
          refine qp_if_le 149 dX4_readClass_142 (by decide) (fun c_142 => absurd c_142 (nI_nle (by omega) (by omega))) (fun c_142 => ?_)
          refine qp_iconst (v := 0) dX4_readClass_145 (by decide) ?_
          refine qp_goto 157 dX4_readClass_146 (by decide) ?_
          have hn : runP isCap (Sm z g) 3 p = n := runP_stop 3 p n (by omega) hdig c_85
          have eR : R = .inl q17 := by rw [hR, mClass1, hn, if_neg (by rw [c_85]; decide), if_neg hn0, hs17]; rfl
          exact qr_z dX4_readClass_157 rfl nar_0 rfl rfl ⟨by rw [eR]; rfl, by rw [eR]; exact ⟨⟨_, _, g18, g19⟩, fun b hb1 hb2 => (o20 b hb1 hb2).trans (hfr b hb1 hb2)⟩⟩
        · rw [hs17] at p16
          obtain ⟨⟨wr17, g22, g23⟩, o24⟩ := p16
          have bd17 := mNumber_bd hs17
          have g25 : h15 sa = some (.inl (1, 60, .inl (g))) := (o24 _ (ne_of_cells gs gm (by simp)) (ne_of_cells gs gw (by simp))).trans gs
          have g22 : h15 m0 = some (.inr (5, [.int (thr), .int (1), .ref sa, .int (nI z), .ref nw, .ref la, .int (th), .ref sh, .ref rcm, .int (cnt), .ref bf, .int (ps), .int (nI q17), .int (wr17)])) := g22
          have g23 : h15 nw = some (.inl (0, 40, .inl (w17))) := g23
          refine QP.topI (y := 1) rfl ?_
          refine qp_if_ne 158 dX4_readClass_138 (by decide) (fun c_138 => ?_) (fun c_138 => absurd c_138 (by decide))
          have hn : runP isCap (Sm z g) 3 p = n := runP_stop 3 p n (by omega) hdig c_85
          exact lm_frac1 (p := q17) nm nn hz (by omega) (by rw [hR, mClass1, hn, if_neg (by rw [c_85]; decide), if_neg hn0, hs17]; rfl) g22 g25 g23 (fun b hb1 hb2 => (o24 b hb1 hb2).trans (hfr b hb1 hb2))
    · rw [bI_n0] at c_85
      refine qp_iload_n dX4_readClass_88 rfl ?_
      refine qp_iconst (v := 3) dX4_readClass_89 (by decide) ?_
      refine qp_icmp_ne 102 dX4_readClass_90 (by decide) (fun c_90 => ?_) (fun c_90 => ?_)
      · have hn3 : n < 3 := by have : ¬ n = 3 := fun q => c_90 (by rw [q]; decide); omega
        refine qp_aload_n dX4_readClass_102 rfl ?_
        refine qp_getf dX4_readClass_103 fX4_13 gm rfl ?_
        refine qp_iload_n dX4_readClass_106 rfl ?_
        refine qp_aload_n dX4_readClass_107 rfl ?_
        refine qv_Ip dX4_readClass_108 mX4_45 (m_look G hz (by omega) gm gs) gm rfl rfl rfl rfl rfl rfl rfl ?_
        refine qk_iast (n) dX4_readClass_111 gw nn rfl (by omega) (by decide) (fun h29 g30 o31 => ?_)
        have g32 : h29 m0 = some (.inr (5, [.int (thr), .int (1), .ref sa, .int (nI z), .ref nw, .ref la, .int (th), .ref sh, .ref rcm, .int (cnt), .ref bf, .int (ps), .int (nI (p + n)), .int (wr)])) := (o31 _ (ne_of_cells gm gw (by simp))).trans gm
        have g33 : h29 sa = some (.inl (1, 60, .inl (g))) := (o31 _ (ne_of_cells gs gw (by simp))).trans gs
        have g30 : h29 nw = some (.inl (0, 40, .inl (upd (rowW w 0 (Sm z g) p n) (n) (Sm z g (p + n))))) := g30
        refine qp_iinc (v := nI (n + 1)) dX4_readClass_112 rfl (by decide) (nI_1 n) ?_
        refine QP.locsE (L1 := [some (.ref m0), some (.int (nI (n + 1))), none]) rfl ?_
        refine qp_aload_n dX4_readClass_115 rfl ?_
        refine qp_dup dX4_readClass_116 rfl ?_
        refine qp_getf dX4_readClass_117 fX4_39 g32 rfl ?_
        refine qp_iconst (v := 1) dX4_readClass_120 (by decide) ?_
        refine qp_iadd dX4_readClass_121 ?_
        refine QP.topI (y := nI (p + n + 1)) (nI_1 _) ?_
        refine qk_put dX4_readClass_122 fX4_39 g32 nm rfl rfl rfl rfl rfl (fun h34 g35 o36 => ?_)
        have g37 : h34 sa = some (.inl (1, 60, .inl (g))) := (o36 _ (ne_of_cells g33 g32 (by simp))).trans g33
        have g38 : h34 nw = some (.inl (0, 40, .inl (upd (rowW w 0 (Sm z g) p n) (n) (Sm z g (p + n))))) := (o36 _ (ne_of_cells g30 g32 (by simp))).trans g30
        have g35 : h34 m0 = some (.inr (5, [.int (thr), .int (1), .ref sa, .int (nI z), .ref nw, .ref la, .int (th), .ref sh, .ref rcm, .int (cnt), .ref bf, .int (ps), .int (nI (p + n + 1)), .int (wr)])) := g35
        refine qp_goto 78 dX4_readClass_125 (by decide) ?_
        have ez : upd (rowW w 0 (Sm z g) p n) n (Sm z g (p + n)) = rowW w 0 (Sm z g) p (n + 1) := by have := rowW_s w 0 (Sm z g) p n; rw [Nat.zero_add] at this; exact this
        rw [ez] at g38
        exact ih (n + 1) _ h34 (by omega) (by omega) (fun j hj => by rcases Nat.lt_succ_iff_lt_or_eq.mp hj with q | q; exact hdig j q; rw [q]; exact c_85) g35 g37 g38 (fun b hb1 hb2 => ((o36 b hb1).trans (o31 b hb2)).trans (hfr b hb1 hb2))
      · have hn3 : n = 3 := (nI_eq (b := 3) (by omega) (by decide)).mp c_90
        refine qp_aload_n dX4_readClass_93 rfl ?_
        refine qp_aload_n dX4_readClass_94 rfl ?_
        refine qp_getf dX4_readClass_95 fX4_39 gm rfl ?_
        refine qv_Iq dX4_readClass_98 mX4_53 (m_bad G (nI (p + n)) nm gm) gm rfl rfl rfl rfl rfl rfl rfl (fun h40 p41 => ?_)
        obtain ⟨g42, o43⟩ := p41
        have g44 : h40 sa = some (.inl (1, 60, .inl (g))) := (o43 _ (ne_of_cells gs gm (by simp))).trans gs
        have g45 : h40 nw = some (.inl (0, 40, .inl (rowW w 0 (Sm z g) p n))) := (o43 _ (ne_of_cells gw gm (by simp))).trans gw
        have g42 : h40 m0 = some (.inr (5, [.int (thr), .int (1), .ref sa, .int (nI z), .ref nw, .ref la, .int (th), .ref sh, .ref rcm, .int (cnt), .ref bf, .int (ps), .int (nI (p + n)), .int (nI (p + n))])) := g42
        have hn : runP isCap (Sm z g) 3 p = n := by rw [hn3]; exact runP_all 3 p (fun j hj => hdig j (by omega))
        have eR : R = .inl (p + n) := by rw [hR, mClass1, hn, if_pos c_85]
        exact qr_z dX4_readClass_101 rfl nar_0 rfl rfl ⟨by rw [eR]; rfl, by rw [eR]; exact ⟨⟨_, _, g42, g45⟩, fun b hb1 hb2 => (o43 b hb1).trans (hfr b hb1 hb2)⟩⟩
set_option maxHeartbeats 4000000 in
set_option maxRecDepth 100000 in
theorem m_readClass1 (G : qG) {h : qH} {thr th cnt ps wr : Int32} {m0 sa nw la sh rcm bf z p : Nat} {g w : Nat → Int32} (hp100 : p ≤ 100) (hin : MdIn G h thr 1 th cnt ps wr m0 sa nw la sh rcm bf z p g w) : qMet G M_X4_readClass [.ref m0] h (qI (fun v h1 => v = bI (mOk (mClass1 (Sm z g) p w)) ∧ MdOut h h1 thr 1 th cnt ps m0 sa nw la sh rcm bf z (mClass1 (Sm z g) p w))) := by
  obtain ⟨nm, nn, hz, hp, gm, gs, gw⟩ := hin
  refine qMet.of (by decide) (Nat.le_of_ble_eq_true rfl) rfl ?_
  refine QP.locsE (L1 := [some (.ref m0), none, none]) rfl ?_
  refine qp_aload_n dX4_readClass_0 rfl ?_
  refine qp_getf dX4_readClass_1 fX4_29 gm rfl ?_
  refine qp_if_ne 76 dX4_readClass_4 (by decide) (fun c_4 => ?_) (fun c_4 => absurd c_4 (by decide))
  refine qp_iconst (v := 0) dX4_readClass_76 (by decide) ?_
  refine qp_istore_n dX4_readClass_77 (by decide) ?_
  refine QP.locsE (L1 := [some (.ref m0), some (.int (0)), none]) rfl ?_
  exact lm_class1 nm nn hz hp100 rfl 4 0 wr h (by omega) (by omega) (fun j hj => absurd hj (by omega)) gm gs (by rw [rowW_0]; exact gw) (fun _ _ _ => rfl)
end
