/-- decode rows by sixty: one evaluation, each row by its place -/
theorem ky_dc {L : List (ByteArray × Nat × Jvm.ClassFile.Instr × Nat)} (h : L.all (fun x => decide (decode x.1 x.2.1 = .ok x.2.2)) = true) (i : Nat) {c : ByteArray} {a : Nat} {b : Jvm.ClassFile.Instr × Nat} (e : L[i]? = some (c, a, b)) : decode c a = .ok b := of_decide_eq_true (List.all_eq_true.mp h (c, a, b) (List.mem_of_getElem? e))
abbrev my_X0_sizeIn : MethodName := ⟨"Exactdoubles$Form", "sizeIn", "(J)J"⟩
abbrev my_X0_withSide : MethodName := ⟨"Exactdoubles$Form", "withSide", "(JZ)J"⟩
abbrev my_X0_joined : MethodName := ⟨"Exactdoubles$Form", "joined", "(JJ)J"⟩
abbrev my_X0_turned : MethodName := ⟨"Exactdoubles$Form", "turned", "(J)J"⟩
abbrev my_X0_isDownOne : MethodName := ⟨"Exactdoubles$Form", "isDownOne", "(J)Z"⟩
abbrev my_X0_highIn : MethodName := ⟨"Exactdoubles$Form", "highIn", "(J)I"⟩
abbrev my_X0_lowIn : MethodName := ⟨"Exactdoubles$Form", "lowIn", "(J)J"⟩
abbrev my_X0_digitsIn : MethodName := ⟨"Exactdoubles$Form", "digitsIn", "(JI)I"⟩
abbrev my_X0_exponentIn : MethodName := ⟨"Exactdoubles$Form", "exponentIn", "(J)I"⟩
abbrev my_X0_isNumber : MethodName := ⟨"Exactdoubles$Form", "isNumber", "(J)Z"⟩
abbrev my_X0_isEndlessOne : MethodName := ⟨"Exactdoubles$Form", "isEndlessOne", "(J)Z"⟩
abbrev my_X0_factorIn : MethodName := ⟨"Exactdoubles$Form", "factorIn", "(J)J"⟩
abbrev my_X0_powerIn : MethodName := ⟨"Exactdoubles$Form", "powerIn", "(J)I"⟩
abbrev my_X0_behindIn : MethodName := ⟨"Exactdoubles$Form", "behindIn", "(J)I"⟩
abbrev my_X0_aheadIn : MethodName := ⟨"Exactdoubles$Form", "aheadIn", "(J)J"⟩
abbrev my_X0_restIn : MethodName := ⟨"Exactdoubles$Form", "restIn", "(J)J"⟩
abbrev my_X0_isWholeOne : MethodName := ⟨"Exactdoubles$Form", "isWholeOne", "(J)Z"⟩
abbrev my_X0_kindIn : MethodName := ⟨"Exactdoubles$Form", "kindIn", "(J)I"⟩
abbrev my_X0_rungIn : MethodName := ⟨"Exactdoubles$Form", "rungIn", "(J)J"⟩
abbrev my_X0_rankIn : MethodName := ⟨"Exactdoubles$Form", "rankIn", "(J)J"⟩
abbrev my_X0_lastOf : MethodName := ⟨"Exactdoubles$Form", "lastOf", "(JJ)J"⟩
abbrev my_X0_firstOf : MethodName := ⟨"Exactdoubles$Form", "firstOf", "(JJ)J"⟩
abbrev my_X2_halvedOften : MethodName := ⟨"Exactdoubles$Scale", "halvedOften", "(JI)J"⟩
abbrev my_X2_nearestTo : MethodName := ⟨"Exactdoubles$Scale", "nearestTo", "(JI)J"⟩
abbrev my_X2_timesPower : MethodName := ⟨"Exactdoubles$Scale", "timesPower", "(JI)J"⟩
abbrev my_X4_wholeLike : MethodName := ⟨"Exactdoubles$Take", "wholeLike", "(JJ)J"⟩
abbrev my_X4_floorFrom : MethodName := ⟨"Exactdoubles$Take", "floorFrom", "(J)J"⟩
abbrev my_X4_ceilFrom : MethodName := ⟨"Exactdoubles$Take", "ceilFrom", "(J)J"⟩
abbrev my_X4_rintFrom : MethodName := ⟨"Exactdoubles$Take", "rintFrom", "(J)J"⟩
abbrev my_X4_signFrom : MethodName := ⟨"Exactdoubles$Take", "signFrom", "(J)J"⟩
abbrev my_X4_upFrom : MethodName := ⟨"Exactdoubles$Take", "upFrom", "(J)J"⟩
abbrev my_X4_downFrom : MethodName := ⟨"Exactdoubles$Take", "downFrom", "(J)J"⟩
abbrev my_X4_stepFrom : MethodName := ⟨"Exactdoubles$Take", "stepFrom", "(J)J"⟩
abbrev my_X4_walkFrom : MethodName := ⟨"Exactdoubles$Take", "walkFrom", "(JI)J"⟩
abbrev my_X5_cutFrom : MethodName := ⟨"Exactdoubles$Whole", "cutFrom", "(J)J"⟩
abbrev my_X5_roundFrom : MethodName := ⟨"Exactdoubles$Whole", "roundFrom", "(J)J"⟩
abbrev my_X5_shortFrom : MethodName := ⟨"Exactdoubles$Whole", "shortFrom", "(J)I"⟩
abbrev my_J13_compare_74951 : MethodName := ⟨"java/lang/Long", "compare", "(JJ)I"⟩
abbrev my_X1_areWholesRight : MethodName := ⟨"Exactdoubles$Proof", "areWholesRight", "(J)Z"⟩
abbrev my_X1_isRintRight : MethodName := ⟨"Exactdoubles$Proof", "isRintRight", "(J)Z"⟩
abbrev my_X1_areNextRight : MethodName := ⟨"Exactdoubles$Proof", "areNextRight", "(J)Z"⟩
abbrev my_X1_arePartsRight : MethodName := ⟨"Exactdoubles$Proof", "arePartsRight", "(J)Z"⟩
abbrev my_X6_mixed : MethodName := ⟨"Exactdoubles", "mixed", "(JJ)J"⟩
abbrev my_X6_halfOf : MethodName := ⟨"Exactdoubles", "halfOf", "(JZ)I"⟩
abbrev my_X6_signOf : MethodName := ⟨"Exactdoubles", "signOf", "(J)I"⟩
abbrev my_X6_orderOf : MethodName := ⟨"Exactdoubles", "orderOf", "(JJ)I"⟩
abbrev my_X6_stepsBetween : MethodName := ⟨"Exactdoubles", "stepsBetween", "(JJ)I"⟩
abbrev my_X9_nearest : MethodName := ⟨"ExactdoublesModel", "nearest", "(JJ)J"⟩
abbrev my_X9_one : MethodName := ⟨"ExactdoublesModel", "one", "(Z)I"⟩
abbrev my_X9_signOf : MethodName := ⟨"ExactdoublesModel", "signOf", "(J)I"⟩
abbrev my_X9_compared : MethodName := ⟨"ExactdoublesModel", "compared", "(JJ)I"⟩
abbrev my_X9_isOf : MethodName := ⟨"ExactdoublesModel", "isOf", "(III)Z"⟩
abbrev my_X9_isNo : MethodName := ⟨"ExactdoublesModel", "isNo", "(I)Z"⟩
abbrev my_X9_add : MethodName := ⟨"ExactdoublesModel", "add", "(JJ)J"⟩
abbrev my_X6_requireCell : MethodName := ⟨"Exactdoubles", "requireCell", "(I)V"⟩
abbrev my_X6_requireBoth : MethodName := ⟨"Exactdoubles", "requireBoth", "(II)V"⟩
abbrev my_X6_requireWithin : MethodName := ⟨"Exactdoubles", "requireWithin", "(III)V"⟩
abbrev my_X6_give : MethodName := ⟨"Exactdoubles", "give", "(IJ)I"⟩
abbrev my_X6_zero : MethodName := ⟨"Exactdoubles", "zero", "(IZ)I"⟩
abbrev my_X6_endless : MethodName := ⟨"Exactdoubles", "endless", "(IZ)I"⟩
abbrev my_X6_quarters : MethodName := ⟨"Exactdoubles", "quarters", "(II)I"⟩
abbrev my_X6_power : MethodName := ⟨"Exactdoubles", "power", "(IIZ)I"⟩
abbrev my_X6_bits : MethodName := ⟨"Exactdoubles", "bits", "(III)I"⟩
abbrev my_X6_sample : MethodName := ⟨"Exactdoubles", "sample", "(IIZ)I"⟩
abbrev my_X6_copy : MethodName := ⟨"Exactdoubles", "copy", "(II)I"⟩
abbrev my_X6_swap : MethodName := ⟨"Exactdoubles", "swap", "(II)I"⟩
abbrev my_X6_floor : MethodName := ⟨"Exactdoubles", "floor", "(II)I"⟩
abbrev my_X6_ceil : MethodName := ⟨"Exactdoubles", "ceil", "(II)I"⟩
abbrev my_X6_rint : MethodName := ⟨"Exactdoubles", "rint", "(II)I"⟩
abbrev my_X6_size : MethodName := ⟨"Exactdoubles", "size", "(II)I"⟩
abbrev my_X6_turn : MethodName := ⟨"Exactdoubles", "turn", "(II)I"⟩
abbrev my_X6_sign : MethodName := ⟨"Exactdoubles", "sign", "(II)I"⟩
abbrev my_X6_up : MethodName := ⟨"Exactdoubles", "up", "(II)I"⟩
abbrev my_X6_down : MethodName := ⟨"Exactdoubles", "down", "(II)I"⟩
abbrev my_X6_step : MethodName := ⟨"Exactdoubles", "step", "(II)I"⟩
abbrev my_X6_unit : MethodName := ⟨"Exactdoubles", "unit", "(II)I"⟩
abbrev my_X6_times : MethodName := ⟨"Exactdoubles", "times", "(III)I"⟩
abbrev my_X6_side : MethodName := ⟨"Exactdoubles", "side", "(III)I"⟩
abbrev my_X6_max : MethodName := ⟨"Exactdoubles", "max", "(III)I"⟩
abbrev my_X6_min : MethodName := ⟨"Exactdoubles", "min", "(III)I"⟩
abbrev my_X6_walk : MethodName := ⟨"Exactdoubles", "walk", "(II)I"⟩
abbrev my_X6_kind : MethodName := ⟨"Exactdoubles", "kind", "(I)I"⟩
abbrev my_X6_digits : MethodName := ⟨"Exactdoubles", "digits", "(II)I"⟩
abbrev my_X6_exponent : MethodName := ⟨"Exactdoubles", "exponent", "(I)I"⟩
abbrev my_X6_round : MethodName := ⟨"Exactdoubles", "round", "(IZ)I"⟩
abbrev my_X6_shortened : MethodName := ⟨"Exactdoubles", "shortened", "(I)I"⟩
abbrev my_X6_signed : MethodName := ⟨"Exactdoubles", "signed", "(I)I"⟩
abbrev my_X6_isWhole : MethodName := ⟨"Exactdoubles", "isWhole", "(I)Z"⟩
abbrev my_X6_compare : MethodName := ⟨"Exactdoubles", "compare", "(II)I"⟩
abbrev my_X6_areLike : MethodName := ⟨"Exactdoubles", "areLike", "(II)Z"⟩
abbrev my_X6_isBelow : MethodName := ⟨"Exactdoubles", "isBelow", "(II)Z"⟩
abbrev my_X6_areSame : MethodName := ⟨"Exactdoubles", "areSame", "(II)Z"⟩
abbrev my_X6_isNext : MethodName := ⟨"Exactdoubles", "isNext", "(II)Z"⟩
abbrev my_X6_apart : MethodName := ⟨"Exactdoubles", "apart", "(II)I"⟩
abbrev my_X6_isBack : MethodName := ⟨"Exactdoubles", "isBack", "(II)Z"⟩
abbrev my_X6_knock : MethodName := ⟨"Exactdoubles", "knock", "()I"⟩
theorem kw_1_138 : (Jvm.Cond.constantLong "Exactdoubles$Form" (15 : Nat) (9223372036854775807 : Int64)) ∈ ky_B := ky_mem (kc_1 _ (List.mem_of_getElem? (i := 138) rfl)) (by decide +kernel)
theorem kw_3_123 : (Jvm.Cond.constantLong "Exactdoubles$Form" (9 : Nat) (-9223372036854775808 : Int64)) ∈ ky_B := ky_mem (kc_3 _ (List.mem_of_getElem? (i := 123) rfl)) (by decide +kernel)
theorem kw_1_135 : (Jvm.Cond.methodLink "Exactdoubles$Form" (11 : Nat) ({ cls := "Exactdoubles$Form", name := "sizeIn", desc := "(J)J" } : Jvm.MethodName)) ∈ ky_B := ky_mem (kc_1 _ (List.mem_of_getElem? (i := 135) rfl)) (by decide +kernel)
theorem kw_1_136 : (Jvm.Cond.static ({ cls := "Exactdoubles$Form", name := "sizeIn", desc := "(J)J" } : Jvm.MethodName)) ∈ ky_B := ky_mem (kc_1 _ (List.mem_of_getElem? (i := 136) rfl)) (by decide +kernel)
theorem kw_1_15 : (Jvm.Cond.initialized "Exactdoubles$Form") ∈ ky_B := ky_mem (kc_1 _ (List.mem_of_getElem? (i := 15) rfl)) (by decide +kernel)
theorem kw_1_137 : (Jvm.Cond.code ({ cls := "Exactdoubles$Form", name := "sizeIn", desc := "(J)J" } : Jvm.MethodName) prog_2_method_5_code (2 : Nat) (Option.some Jvm.ClassFile.FieldType.long)) ∈ ky_B := ky_mem (kc_1 _ (List.mem_of_getElem? (i := 137) rfl)) (by decide +kernel)
theorem kw_3_47 : (Jvm.Cond.constantLong "Exactdoubles$Form" (17 : Nat) (4503599627370495 : Int64)) ∈ ky_B := ky_mem (kc_3 _ (List.mem_of_getElem? (i := 47) rfl)) (by decide +kernel)
theorem kw_1_131 : (Jvm.Cond.methodLink "Exactdoubles$Form" (19 : Nat) ({ cls := "Exactdoubles$Form", name := "isDownOne", desc := "(J)Z" } : Jvm.MethodName)) ∈ ky_B := ky_mem (kc_1 _ (List.mem_of_getElem? (i := 131) rfl)) (by decide +kernel)
theorem kw_1_132 : (Jvm.Cond.static ({ cls := "Exactdoubles$Form", name := "isDownOne", desc := "(J)Z" } : Jvm.MethodName)) ∈ ky_B := ky_mem (kc_1 _ (List.mem_of_getElem? (i := 132) rfl)) (by decide +kernel)
theorem kw_1_133 : (Jvm.Cond.code ({ cls := "Exactdoubles$Form", name := "isDownOne", desc := "(J)Z" } : Jvm.MethodName) prog_2_method_6_code (2 : Nat) (Option.some Jvm.ClassFile.FieldType.boolean)) ∈ ky_B := ky_mem (kc_1 _ (List.mem_of_getElem? (i := 133) rfl)) (by decide +kernel)
theorem kw_3_41 : (Jvm.Cond.methodLink "Exactdoubles$Form" (23 : Nat) ({ cls := "Exactdoubles$Form", name := "highIn", desc := "(J)I" } : Jvm.MethodName)) ∈ ky_B := ky_mem (kc_3 _ (List.mem_of_getElem? (i := 41) rfl)) (by decide +kernel)
theorem kw_3_42 : (Jvm.Cond.static ({ cls := "Exactdoubles$Form", name := "highIn", desc := "(J)I" } : Jvm.MethodName)) ∈ ky_B := ky_mem (kc_3 _ (List.mem_of_getElem? (i := 42) rfl)) (by decide +kernel)
theorem kw_3_43 : (Jvm.Cond.code ({ cls := "Exactdoubles$Form", name := "highIn", desc := "(J)I" } : Jvm.MethodName) prog_2_method_7_code (2 : Nat) (Option.some Jvm.ClassFile.FieldType.int)) ∈ ky_B := ky_mem (kc_3 _ (List.mem_of_getElem? (i := 43) rfl)) (by decide +kernel)
theorem kw_3_44 : (Jvm.Cond.methodLink "Exactdoubles$Form" (27 : Nat) ({ cls := "Exactdoubles$Form", name := "lowIn", desc := "(J)J" } : Jvm.MethodName)) ∈ ky_B := ky_mem (kc_3 _ (List.mem_of_getElem? (i := 44) rfl)) (by decide +kernel)
theorem kw_3_45 : (Jvm.Cond.static ({ cls := "Exactdoubles$Form", name := "lowIn", desc := "(J)J" } : Jvm.MethodName)) ∈ ky_B := ky_mem (kc_3 _ (List.mem_of_getElem? (i := 45) rfl)) (by decide +kernel)
theorem kw_3_46 : (Jvm.Cond.code ({ cls := "Exactdoubles$Form", name := "lowIn", desc := "(J)J" } : Jvm.MethodName) prog_2_method_8_code (2 : Nat) (Option.some Jvm.ClassFile.FieldType.long)) ∈ ky_B := ky_mem (kc_3 _ (List.mem_of_getElem? (i := 46) rfl)) (by decide +kernel)
theorem kw_3_37 : (Jvm.Cond.constantLong "Exactdoubles$Form" (30 : Nat) (9218868437227405312 : Int64)) ∈ ky_B := ky_mem (kc_3 _ (List.mem_of_getElem? (i := 37) rfl)) (by decide +kernel)
theorem kw_3_48 : (Jvm.Cond.constantLong "Exactdoubles$Form" (43 : Nat) (4503599627370496 : Int64)) ∈ ky_B := ky_mem (kc_3 _ (List.mem_of_getElem? (i := 48) rfl)) (by decide +kernel)
theorem kw_3_52 : (Jvm.Cond.methodLink "Exactdoubles$Form" (45 : Nat) ({ cls := "java/lang/Math", name := "max", desc := "(II)I" } : Jvm.MethodName)) ∈ ky_B := ky_mem (kc_3 _ (List.mem_of_getElem? (i := 52) rfl)) (by decide +kernel)
theorem kw_1_185 : (Jvm.Cond.static ({ cls := "java/lang/Math", name := "max", desc := "(II)I" } : Jvm.MethodName)) ∈ ky_B := ky_mem (kc_1 _ (List.mem_of_getElem? (i := 185) rfl)) (by decide +kernel)
theorem kw_1_16 : (Jvm.Cond.initialized "java/lang/Math") ∈ ky_B := ky_mem (kc_1 _ (List.mem_of_getElem? (i := 16) rfl)) (by decide +kernel)
theorem kw_1_186 : (Jvm.Cond.code ({ cls := "java/lang/Math", name := "max", desc := "(II)I" } : Jvm.MethodName) prog_20_method_65_code (2 : Nat) (Option.some Jvm.ClassFile.FieldType.int)) ∈ ky_B := ky_mem (kc_1 _ (List.mem_of_getElem? (i := 186) rfl)) (by decide +kernel)
theorem kw_3_103 : (Jvm.Cond.methodLink "Exactdoubles$Form" (51 : Nat) ({ cls := "java/lang/Math", name := "min", desc := "(II)I" } : Jvm.MethodName)) ∈ ky_B := ky_mem (kc_3 _ (List.mem_of_getElem? (i := 103) rfl)) (by decide +kernel)
theorem kw_1_203 : (Jvm.Cond.static ({ cls := "java/lang/Math", name := "min", desc := "(II)I" } : Jvm.MethodName)) ∈ ky_B := ky_mem (kc_1 _ (List.mem_of_getElem? (i := 203) rfl)) (by decide +kernel)
theorem kw_1_204 : (Jvm.Cond.code ({ cls := "java/lang/Math", name := "min", desc := "(II)I" } : Jvm.MethodName) prog_20_method_69_code (2 : Nat) (Option.some Jvm.ClassFile.FieldType.int)) ∈ ky_B := ky_mem (kc_1 _ (List.mem_of_getElem? (i := 204) rfl)) (by decide +kernel)
theorem kw_3_99 : (Jvm.Cond.methodLink "Exactdoubles$Form" (54 : Nat) ({ cls := "Exactdoubles$Form", name := "factorIn", desc := "(J)J" } : Jvm.MethodName)) ∈ ky_B := ky_mem (kc_3 _ (List.mem_of_getElem? (i := 99) rfl)) (by decide +kernel)
theorem kw_3_39 : (Jvm.Cond.static ({ cls := "Exactdoubles$Form", name := "factorIn", desc := "(J)J" } : Jvm.MethodName)) ∈ ky_B := ky_mem (kc_3 _ (List.mem_of_getElem? (i := 39) rfl)) (by decide +kernel)
theorem kw_3_40 : (Jvm.Cond.code ({ cls := "Exactdoubles$Form", name := "factorIn", desc := "(J)J" } : Jvm.MethodName) prog_2_method_19_code (2 : Nat) (Option.some Jvm.ClassFile.FieldType.long)) ∈ ky_B := ky_mem (kc_3 _ (List.mem_of_getElem? (i := 40) rfl)) (by decide +kernel)
theorem kw_3_100 : (Jvm.Cond.methodLink "Exactdoubles$Form" (57 : Nat) ({ cls := "Exactdoubles$Form", name := "behindIn", desc := "(J)I" } : Jvm.MethodName)) ∈ ky_B := ky_mem (kc_3 _ (List.mem_of_getElem? (i := 100) rfl)) (by decide +kernel)
theorem kw_3_101 : (Jvm.Cond.static ({ cls := "Exactdoubles$Form", name := "behindIn", desc := "(J)I" } : Jvm.MethodName)) ∈ ky_B := ky_mem (kc_3 _ (List.mem_of_getElem? (i := 101) rfl)) (by decide +kernel)
theorem kw_3_102 : (Jvm.Cond.code ({ cls := "Exactdoubles$Form", name := "behindIn", desc := "(J)I" } : Jvm.MethodName) prog_2_method_21_code (2 : Nat) (Option.some Jvm.ClassFile.FieldType.int)) ∈ ky_B := ky_mem (kc_3 _ (List.mem_of_getElem? (i := 102) rfl)) (by decide +kernel)
theorem kw_3_231 : (Jvm.Cond.methodLink "Exactdoubles$Form" (32 : Nat) ({ cls := "Exactdoubles$Form", name := "restIn", desc := "(J)J" } : Jvm.MethodName)) ∈ ky_B := ky_mem (kc_3 _ (List.mem_of_getElem? (i := 231) rfl)) (by decide +kernel)
theorem kw_3_97 : (Jvm.Cond.static ({ cls := "Exactdoubles$Form", name := "restIn", desc := "(J)J" } : Jvm.MethodName)) ∈ ky_B := ky_mem (kc_3 _ (List.mem_of_getElem? (i := 97) rfl)) (by decide +kernel)
theorem kw_3_98 : (Jvm.Cond.code ({ cls := "Exactdoubles$Form", name := "restIn", desc := "(J)J" } : Jvm.MethodName) prog_2_method_23_code (2 : Nat) (Option.some Jvm.ClassFile.FieldType.long)) ∈ ky_B := ky_mem (kc_3 _ (List.mem_of_getElem? (i := 98) rfl)) (by decide +kernel)
theorem kw_3_232 : (Jvm.Cond.methodLink "Exactdoubles$Form" (35 : Nat) ({ cls := "Exactdoubles$Form", name := "isEndlessOne", desc := "(J)Z" } : Jvm.MethodName)) ∈ ky_B := ky_mem (kc_3 _ (List.mem_of_getElem? (i := 232) rfl)) (by decide +kernel)
theorem kw_3_35 : (Jvm.Cond.static ({ cls := "Exactdoubles$Form", name := "isEndlessOne", desc := "(J)Z" } : Jvm.MethodName)) ∈ ky_B := ky_mem (kc_3 _ (List.mem_of_getElem? (i := 35) rfl)) (by decide +kernel)
theorem kw_3_36 : (Jvm.Cond.code ({ cls := "Exactdoubles$Form", name := "isEndlessOne", desc := "(J)Z" } : Jvm.MethodName) prog_2_method_12_code (2 : Nat) (Option.some Jvm.ClassFile.FieldType.boolean)) ∈ ky_B := ky_mem (kc_3 _ (List.mem_of_getElem? (i := 36) rfl)) (by decide +kernel)
theorem kw_1_134 : (Jvm.Cond.constantLong "Exactdoubles$Form" (38 : Nat) (-1 : Int64)) ∈ ky_B := ky_mem (kc_1 _ (List.mem_of_getElem? (i := 134) rfl)) (by decide +kernel)
theorem kw_1_128 : (Jvm.Cond.methodLink "Exactdoubles$Form" (40 : Nat) ({ cls := "Exactdoubles$Form", name := "rankIn", desc := "(J)J" } : Jvm.MethodName)) ∈ ky_B := ky_mem (kc_1 _ (List.mem_of_getElem? (i := 128) rfl)) (by decide +kernel)
theorem kw_1_129 : (Jvm.Cond.static ({ cls := "Exactdoubles$Form", name := "rankIn", desc := "(J)J" } : Jvm.MethodName)) ∈ ky_B := ky_mem (kc_1 _ (List.mem_of_getElem? (i := 129) rfl)) (by decide +kernel)
theorem kw_1_130 : (Jvm.Cond.code ({ cls := "Exactdoubles$Form", name := "rankIn", desc := "(J)J" } : Jvm.MethodName) prog_2_method_16_code (2 : Nat) (Option.some Jvm.ClassFile.FieldType.long)) ∈ ky_B := ky_mem (kc_1 _ (List.mem_of_getElem? (i := 130) rfl)) (by decide +kernel)
theorem kw_3_119 : (Jvm.Cond.constantLong "Exactdoubles$Scale" (48 : Nat) (4503599627370496 : Int64)) ∈ ky_B := ky_mem (kc_3 _ (List.mem_of_getElem? (i := 119) rfl)) (by decide +kernel)
theorem kw_3_118 : (Jvm.Cond.constantLong "Exactdoubles$Scale" (46 : Nat) (9218868437227405312 : Int64)) ∈ ky_B := ky_mem (kc_3 _ (List.mem_of_getElem? (i := 118) rfl)) (by decide +kernel)
theorem kw_3_114 : (Jvm.Cond.methodLink "Exactdoubles$Scale" (19 : Nat) ({ cls := "java/lang/Math", name := "min", desc := "(II)I" } : Jvm.MethodName)) ∈ ky_B := ky_mem (kc_3 _ (List.mem_of_getElem? (i := 114) rfl)) (by decide +kernel)
theorem kw_3_115 : (Jvm.Cond.methodLink "Exactdoubles$Scale" (43 : Nat) ({ cls := "Exactdoubles$Scale", name := "halvedOften", desc := "(JI)J" } : Jvm.MethodName)) ∈ ky_B := ky_mem (kc_3 _ (List.mem_of_getElem? (i := 115) rfl)) (by decide +kernel)
theorem kw_3_116 : (Jvm.Cond.static ({ cls := "Exactdoubles$Scale", name := "halvedOften", desc := "(JI)J" } : Jvm.MethodName)) ∈ ky_B := ky_mem (kc_3 _ (List.mem_of_getElem? (i := 116) rfl)) (by decide +kernel)
theorem kw_1_17 : (Jvm.Cond.initialized "Exactdoubles$Scale") ∈ ky_B := ky_mem (kc_1 _ (List.mem_of_getElem? (i := 17) rfl)) (by decide +kernel)
theorem kw_3_117 : (Jvm.Cond.code ({ cls := "Exactdoubles$Scale", name := "halvedOften", desc := "(JI)J" } : Jvm.MethodName) prog_4_method_4_code (10 : Nat) (Option.some Jvm.ClassFile.FieldType.long)) ∈ ky_B := ky_mem (kc_3 _ (List.mem_of_getElem? (i := 117) rfl)) (by decide +kernel)
theorem kw_3_184 : (Jvm.Cond.methodLink "Exactdoubles$Scale" (7 : Nat) ({ cls := "Exactdoubles$Form", name := "sizeIn", desc := "(J)J" } : Jvm.MethodName)) ∈ ky_B := ky_mem (kc_3 _ (List.mem_of_getElem? (i := 184) rfl)) (by decide +kernel)
theorem kw_3_185 : (Jvm.Cond.methodLink "Exactdoubles$Scale" (13 : Nat) ({ cls := "Exactdoubles$Form", name := "isEndlessOne", desc := "(J)Z" } : Jvm.MethodName)) ∈ ky_B := ky_mem (kc_3 _ (List.mem_of_getElem? (i := 185) rfl)) (by decide +kernel)
theorem kw_3_186 : (Jvm.Cond.methodLink "Exactdoubles$Scale" (25 : Nat) ({ cls := "java/lang/Math", name := "max", desc := "(II)I" } : Jvm.MethodName)) ∈ ky_B := ky_mem (kc_3 _ (List.mem_of_getElem? (i := 186) rfl)) (by decide +kernel)
theorem kw_3_187 : (Jvm.Cond.methodLink "Exactdoubles$Scale" (28 : Nat) ({ cls := "Exactdoubles$Form", name := "factorIn", desc := "(J)J" } : Jvm.MethodName)) ∈ ky_B := ky_mem (kc_3 _ (List.mem_of_getElem? (i := 187) rfl)) (by decide +kernel)
theorem kw_3_188 : (Jvm.Cond.methodLink "Exactdoubles$Scale" (31 : Nat) ({ cls := "Exactdoubles$Form", name := "powerIn", desc := "(J)I" } : Jvm.MethodName)) ∈ ky_B := ky_mem (kc_3 _ (List.mem_of_getElem? (i := 188) rfl)) (by decide +kernel)
theorem kw_3_50 : (Jvm.Cond.static ({ cls := "Exactdoubles$Form", name := "powerIn", desc := "(J)I" } : Jvm.MethodName)) ∈ ky_B := ky_mem (kc_3 _ (List.mem_of_getElem? (i := 50) rfl)) (by decide +kernel)
theorem kw_3_51 : (Jvm.Cond.code ({ cls := "Exactdoubles$Form", name := "powerIn", desc := "(J)I" } : Jvm.MethodName) prog_2_method_20_code (2 : Nat) (Option.some Jvm.ClassFile.FieldType.int)) ∈ ky_B := ky_mem (kc_3 _ (List.mem_of_getElem? (i := 51) rfl)) (by decide +kernel)
theorem kw_3_189 : (Jvm.Cond.methodLink "Exactdoubles$Scale" (35 : Nat) ({ cls := "Exactdoubles$Scale", name := "nearestTo", desc := "(JI)J" } : Jvm.MethodName)) ∈ ky_B := ky_mem (kc_3 _ (List.mem_of_getElem? (i := 189) rfl)) (by decide +kernel)
theorem kw_3_112 : (Jvm.Cond.static ({ cls := "Exactdoubles$Scale", name := "nearestTo", desc := "(JI)J" } : Jvm.MethodName)) ∈ ky_B := ky_mem (kc_3 _ (List.mem_of_getElem? (i := 112) rfl)) (by decide +kernel)
theorem kw_3_113 : (Jvm.Cond.code ({ cls := "Exactdoubles$Scale", name := "nearestTo", desc := "(JI)J" } : Jvm.MethodName) prog_4_method_3_code (7 : Nat) (Option.some Jvm.ClassFile.FieldType.long)) ∈ ky_B := ky_mem (kc_3 _ (List.mem_of_getElem? (i := 113) rfl)) (by decide +kernel)
theorem kw_3_190 : (Jvm.Cond.methodLink "Exactdoubles$Scale" (39 : Nat) ({ cls := "Exactdoubles$Form", name := "joined", desc := "(JJ)J" } : Jvm.MethodName)) ∈ ky_B := ky_mem (kc_3 _ (List.mem_of_getElem? (i := 190) rfl)) (by decide +kernel)
theorem kw_3_121 : (Jvm.Cond.static ({ cls := "Exactdoubles$Form", name := "joined", desc := "(JJ)J" } : Jvm.MethodName)) ∈ ky_B := ky_mem (kc_3 _ (List.mem_of_getElem? (i := 121) rfl)) (by decide +kernel)
theorem kw_3_122 : (Jvm.Cond.code ({ cls := "Exactdoubles$Form", name := "joined", desc := "(JJ)J" } : Jvm.MethodName) prog_2_method_3_code (4 : Nat) (Option.some Jvm.ClassFile.FieldType.long)) ∈ ky_B := ky_mem (kc_3 _ (List.mem_of_getElem? (i := 122) rfl)) (by decide +kernel)
theorem kw_3_111 : (Jvm.Cond.methodLink "Exactdoubles$Take" (39 : Nat) ({ cls := "Exactdoubles$Scale", name := "nearestTo", desc := "(JI)J" } : Jvm.MethodName)) ∈ ky_B := ky_mem (kc_3 _ (List.mem_of_getElem? (i := 111) rfl)) (by decide +kernel)
theorem kw_3_120 : (Jvm.Cond.methodLink "Exactdoubles$Take" (42 : Nat) ({ cls := "Exactdoubles$Form", name := "joined", desc := "(JJ)J" } : Jvm.MethodName)) ∈ ky_B := ky_mem (kc_3 _ (List.mem_of_getElem? (i := 120) rfl)) (by decide +kernel)
theorem kw_3_96 : (Jvm.Cond.methodLink "Exactdoubles$Take" (7 : Nat) ({ cls := "Exactdoubles$Form", name := "restIn", desc := "(J)J" } : Jvm.MethodName)) ∈ ky_B := ky_mem (kc_3 _ (List.mem_of_getElem? (i := 96) rfl)) (by decide +kernel)
theorem kw_3_104 : (Jvm.Cond.methodLink "Exactdoubles$Take" (13 : Nat) ({ cls := "Exactdoubles$Form", name := "aheadIn", desc := "(J)J" } : Jvm.MethodName)) ∈ ky_B := ky_mem (kc_3 _ (List.mem_of_getElem? (i := 104) rfl)) (by decide +kernel)
theorem kw_3_105 : (Jvm.Cond.static ({ cls := "Exactdoubles$Form", name := "aheadIn", desc := "(J)J" } : Jvm.MethodName)) ∈ ky_B := ky_mem (kc_3 _ (List.mem_of_getElem? (i := 105) rfl)) (by decide +kernel)
theorem kw_3_106 : (Jvm.Cond.code ({ cls := "Exactdoubles$Form", name := "aheadIn", desc := "(J)J" } : Jvm.MethodName) prog_2_method_22_code (2 : Nat) (Option.some Jvm.ClassFile.FieldType.long)) ∈ ky_B := ky_mem (kc_3 _ (List.mem_of_getElem? (i := 106) rfl)) (by decide +kernel)
theorem kw_3_107 : (Jvm.Cond.methodLink "Exactdoubles$Take" (16 : Nat) ({ cls := "Exactdoubles$Form", name := "isDownOne", desc := "(J)Z" } : Jvm.MethodName)) ∈ ky_B := ky_mem (kc_3 _ (List.mem_of_getElem? (i := 107) rfl)) (by decide +kernel)
theorem kw_3_108 : (Jvm.Cond.methodLink "Exactdoubles$Take" (20 : Nat) ({ cls := "Exactdoubles$Take", name := "wholeLike", desc := "(JJ)J" } : Jvm.MethodName)) ∈ ky_B := ky_mem (kc_3 _ (List.mem_of_getElem? (i := 108) rfl)) (by decide +kernel)
theorem kw_3_109 : (Jvm.Cond.static ({ cls := "Exactdoubles$Take", name := "wholeLike", desc := "(JJ)J" } : Jvm.MethodName)) ∈ ky_B := ky_mem (kc_3 _ (List.mem_of_getElem? (i := 109) rfl)) (by decide +kernel)
theorem kw_1_19 : (Jvm.Cond.initialized "Exactdoubles$Take") ∈ ky_B := ky_mem (kc_1 _ (List.mem_of_getElem? (i := 19) rfl)) (by decide +kernel)
theorem kw_3_110 : (Jvm.Cond.code ({ cls := "Exactdoubles$Take", name := "wholeLike", desc := "(JJ)J" } : Jvm.MethodName) prog_6_method_5_code (4 : Nat) (Option.some Jvm.ClassFile.FieldType.long)) ∈ ky_B := ky_mem (kc_3 _ (List.mem_of_getElem? (i := 110) rfl)) (by decide +kernel)
theorem kw_3_139 : (Jvm.Cond.methodLink "Exactdoubles$Take" (26 : Nat) ({ cls := "Exactdoubles$Form", name := "factorIn", desc := "(J)J" } : Jvm.MethodName)) ∈ ky_B := ky_mem (kc_3 _ (List.mem_of_getElem? (i := 139) rfl)) (by decide +kernel)
theorem kw_3_140 : (Jvm.Cond.methodLink "Exactdoubles$Take" (29 : Nat) ({ cls := "Exactdoubles$Form", name := "behindIn", desc := "(J)I" } : Jvm.MethodName)) ∈ ky_B := ky_mem (kc_3 _ (List.mem_of_getElem? (i := 140) rfl)) (by decide +kernel)
theorem kw_3_141 : (Jvm.Cond.methodLink "Exactdoubles$Take" (33 : Nat) ({ cls := "Exactdoubles$Scale", name := "halvedOften", desc := "(JI)J" } : Jvm.MethodName)) ∈ ky_B := ky_mem (kc_3 _ (List.mem_of_getElem? (i := 141) rfl)) (by decide +kernel)
theorem kw_3_152 : (Jvm.Cond.methodLink "Exactdoubles$Take" (45 : Nat) ({ cls := "Exactdoubles$Form", name := "sizeIn", desc := "(J)J" } : Jvm.MethodName)) ∈ ky_B := ky_mem (kc_3 _ (List.mem_of_getElem? (i := 152) rfl)) (by decide +kernel)
theorem kw_3_180 : (Jvm.Cond.constantLong "Exactdoubles$Take" (48 : Nat) (4607182418800017408 : Int64)) ∈ ky_B := ky_mem (kc_3 _ (List.mem_of_getElem? (i := 180) rfl)) (by decide +kernel)
theorem kw_3_151 : (Jvm.Cond.constantLong "Exactdoubles$Take" (50 : Nat) (9218868437227405312 : Int64)) ∈ ky_B := ky_mem (kc_3 _ (List.mem_of_getElem? (i := 151) rfl)) (by decide +kernel)
theorem kw_3_156 : (Jvm.Cond.constantLong "Exactdoubles$Take" (52 : Nat) (-4503599627370496 : Int64)) ∈ ky_B := ky_mem (kc_3 _ (List.mem_of_getElem? (i := 156) rfl)) (by decide +kernel)
theorem kw_3_157 : (Jvm.Cond.constantLong "Exactdoubles$Take" (54 : Nat) (-9223372036854775807 : Int64)) ∈ ky_B := ky_mem (kc_3 _ (List.mem_of_getElem? (i := 157) rfl)) (by decide +kernel)
theorem kw_3_171 : (Jvm.Cond.methodLink "Exactdoubles$Take" (62 : Nat) ({ cls := "Exactdoubles$Form", name := "isEndlessOne", desc := "(J)Z" } : Jvm.MethodName)) ∈ ky_B := ky_mem (kc_3 _ (List.mem_of_getElem? (i := 171) rfl)) (by decide +kernel)
theorem kw_3_172 : (Jvm.Cond.methodLink "Exactdoubles$Take" (65 : Nat) ({ cls := "Exactdoubles$Form", name := "powerIn", desc := "(J)I" } : Jvm.MethodName)) ∈ ky_B := ky_mem (kc_3 _ (List.mem_of_getElem? (i := 172) rfl)) (by decide +kernel)
theorem kw_5_57 : (Jvm.Cond.methodLink "Exactdoubles$Take" (59 : Nat) ({ cls := "Exactdoubles$Take", name := "downFrom", desc := "(J)J" } : Jvm.MethodName)) ∈ ky_B := ky_mem (kc_5 _ (List.mem_of_getElem? (i := 57) rfl)) (by decide +kernel)
theorem kw_3_154 : (Jvm.Cond.static ({ cls := "Exactdoubles$Take", name := "downFrom", desc := "(J)J" } : Jvm.MethodName)) ∈ ky_B := ky_mem (kc_3 _ (List.mem_of_getElem? (i := 154) rfl)) (by decide +kernel)
theorem kw_3_155 : (Jvm.Cond.code ({ cls := "Exactdoubles$Take", name := "downFrom", desc := "(J)J" } : Jvm.MethodName) prog_6_method_8_code (2 : Nat) (Option.some Jvm.ClassFile.FieldType.long)) ∈ ky_B := ky_mem (kc_3 _ (List.mem_of_getElem? (i := 155) rfl)) (by decide +kernel)
theorem kw_5_56 : (Jvm.Cond.methodLink "Exactdoubles$Take" (56 : Nat) ({ cls := "Exactdoubles$Take", name := "upFrom", desc := "(J)J" } : Jvm.MethodName)) ∈ ky_B := ky_mem (kc_5 _ (List.mem_of_getElem? (i := 56) rfl)) (by decide +kernel)
theorem kw_3_149 : (Jvm.Cond.static ({ cls := "Exactdoubles$Take", name := "upFrom", desc := "(J)J" } : Jvm.MethodName)) ∈ ky_B := ky_mem (kc_3 _ (List.mem_of_getElem? (i := 149) rfl)) (by decide +kernel)
theorem kw_3_150 : (Jvm.Cond.code ({ cls := "Exactdoubles$Take", name := "upFrom", desc := "(J)J" } : Jvm.MethodName) prog_6_method_7_code (2 : Nat) (Option.some Jvm.ClassFile.FieldType.long)) ∈ ky_B := ky_mem (kc_3 _ (List.mem_of_getElem? (i := 150) rfl)) (by decide +kernel)
theorem kw_3_198 : (Jvm.Cond.methodLink "Exactdoubles$Whole" (7 : Nat) ({ cls := "Exactdoubles$Form", name := "powerIn", desc := "(J)I" } : Jvm.MethodName)) ∈ ky_B := ky_mem (kc_3 _ (List.mem_of_getElem? (i := 198) rfl)) (by decide +kernel)
theorem kw_3_202 : (Jvm.Cond.methodLink "Exactdoubles$Whole" (23 : Nat) ({ cls := "Exactdoubles$Form", name := "factorIn", desc := "(J)J" } : Jvm.MethodName)) ∈ ky_B := ky_mem (kc_3 _ (List.mem_of_getElem? (i := 202) rfl)) (by decide +kernel)
theorem kw_3_194 : (Jvm.Cond.methodLink "Exactdoubles$Whole" (27 : Nat) ({ cls := "Exactdoubles$Form", name := "behindIn", desc := "(J)I" } : Jvm.MethodName)) ∈ ky_B := ky_mem (kc_3 _ (List.mem_of_getElem? (i := 194) rfl)) (by decide +kernel)
theorem kw_3_199 : (Jvm.Cond.methodLink "Exactdoubles$Whole" (15 : Nat) ({ cls := "Exactdoubles$Form", name := "isDownOne", desc := "(J)Z" } : Jvm.MethodName)) ∈ ky_B := ky_mem (kc_3 _ (List.mem_of_getElem? (i := 199) rfl)) (by decide +kernel)
theorem kw_3_201 : (Jvm.Cond.constantLong "Exactdoubles$Whole" (21 : Nat) (9223372036854775807 : Int64)) ∈ ky_B := ky_mem (kc_3 _ (List.mem_of_getElem? (i := 201) rfl)) (by decide +kernel)
theorem kw_3_200 : (Jvm.Cond.constantLong "Exactdoubles$Whole" (19 : Nat) (-9223372036854775808 : Int64)) ∈ ky_B := ky_mem (kc_3 _ (List.mem_of_getElem? (i := 200) rfl)) (by decide +kernel)
theorem kw_3_203 : (Jvm.Cond.methodLink "Exactdoubles$Whole" (33 : Nat) ({ cls := "Exactdoubles$Form", name := "restIn", desc := "(J)J" } : Jvm.MethodName)) ∈ ky_B := ky_mem (kc_3 _ (List.mem_of_getElem? (i := 203) rfl)) (by decide +kernel)
theorem kw_3_195 : (Jvm.Cond.methodLink "Exactdoubles$Whole" (30 : Nat) ({ cls := "Exactdoubles$Whole", name := "cutFrom", desc := "(J)J" } : Jvm.MethodName)) ∈ ky_B := ky_mem (kc_3 _ (List.mem_of_getElem? (i := 195) rfl)) (by decide +kernel)
theorem kw_3_196 : (Jvm.Cond.static ({ cls := "Exactdoubles$Whole", name := "cutFrom", desc := "(J)J" } : Jvm.MethodName)) ∈ ky_B := ky_mem (kc_3 _ (List.mem_of_getElem? (i := 196) rfl)) (by decide +kernel)
theorem kw_1_29 : (Jvm.Cond.initialized "Exactdoubles$Whole") ∈ ky_B := ky_mem (kc_1 _ (List.mem_of_getElem? (i := 29) rfl)) (by decide +kernel)
theorem kw_3_197 : (Jvm.Cond.code ({ cls := "Exactdoubles$Whole", name := "cutFrom", desc := "(J)J" } : Jvm.MethodName) prog_7_method_2_code (7 : Nat) (Option.some Jvm.ClassFile.FieldType.long)) ∈ ky_B := ky_mem (kc_3 _ (List.mem_of_getElem? (i := 197) rfl)) (by decide +kernel)
theorem kw_4_29 : (Jvm.Cond.constantLong "Exactdoubles$Whole" (36 : Nat) (-2147483648 : Int64)) ∈ ky_B := ky_mem (kc_4 _ (List.mem_of_getElem? (i := 29) rfl)) (by decide +kernel)
theorem kw_4_30 : (Jvm.Cond.constantLong "Exactdoubles$Whole" (38 : Nat) (2147483647 : Int64)) ∈ ky_B := ky_mem (kc_4 _ (List.mem_of_getElem? (i := 30) rfl)) (by decide +kernel)
theorem kw_4_31 : (Jvm.Cond.methodLink "Exactdoubles$Whole" (40 : Nat) ({ cls := "java/lang/Math", name := "min", desc := "(JJ)J" } : Jvm.MethodName)) ∈ ky_B := ky_mem (kc_4 _ (List.mem_of_getElem? (i := 31) rfl)) (by decide +kernel)
theorem kw_4_32 : (Jvm.Cond.static ({ cls := "java/lang/Math", name := "min", desc := "(JJ)J" } : Jvm.MethodName)) ∈ ky_B := ky_mem (kc_4 _ (List.mem_of_getElem? (i := 32) rfl)) (by decide +kernel)
theorem kw_4_33 : (Jvm.Cond.code ({ cls := "java/lang/Math", name := "min", desc := "(JJ)J" } : Jvm.MethodName) prog_20_method_70_code (4 : Nat) (Option.some Jvm.ClassFile.FieldType.long)) ∈ ky_B := ky_mem (kc_4 _ (List.mem_of_getElem? (i := 33) rfl)) (by decide +kernel)
theorem kw_4_34 : (Jvm.Cond.methodLink "Exactdoubles$Whole" (46 : Nat) ({ cls := "java/lang/Math", name := "max", desc := "(JJ)J" } : Jvm.MethodName)) ∈ ky_B := ky_mem (kc_4 _ (List.mem_of_getElem? (i := 34) rfl)) (by decide +kernel)
theorem kw_4_35 : (Jvm.Cond.static ({ cls := "java/lang/Math", name := "max", desc := "(JJ)J" } : Jvm.MethodName)) ∈ ky_B := ky_mem (kc_4 _ (List.mem_of_getElem? (i := 35) rfl)) (by decide +kernel)
theorem kw_4_36 : (Jvm.Cond.code ({ cls := "java/lang/Math", name := "max", desc := "(JJ)J" } : Jvm.MethodName) prog_20_method_66_code (4 : Nat) (Option.some Jvm.ClassFile.FieldType.long)) ∈ ky_B := ky_mem (kc_4 _ (List.mem_of_getElem? (i := 36) rfl)) (by decide +kernel)
theorem kw_3_93 : (Jvm.Cond.methodLink "Exactdoubles$Proof" (37 : Nat) ({ cls := "Exactdoubles$Take", name := "floorFrom", desc := "(J)J" } : Jvm.MethodName)) ∈ ky_B := ky_mem (kc_3 _ (List.mem_of_getElem? (i := 93) rfl)) (by decide +kernel)
theorem kw_3_94 : (Jvm.Cond.static ({ cls := "Exactdoubles$Take", name := "floorFrom", desc := "(J)J" } : Jvm.MethodName)) ∈ ky_B := ky_mem (kc_3 _ (List.mem_of_getElem? (i := 94) rfl)) (by decide +kernel)
theorem kw_3_95 : (Jvm.Cond.code ({ cls := "Exactdoubles$Take", name := "floorFrom", desc := "(J)J" } : Jvm.MethodName) prog_6_method_2_code (2 : Nat) (Option.some Jvm.ClassFile.FieldType.long)) ∈ ky_B := ky_mem (kc_3 _ (List.mem_of_getElem? (i := 95) rfl)) (by decide +kernel)
theorem kw_3_124 : (Jvm.Cond.methodLink "Exactdoubles$Proof" (43 : Nat) ({ cls := "Exactdoubles$Take", name := "ceilFrom", desc := "(J)J" } : Jvm.MethodName)) ∈ ky_B := ky_mem (kc_3 _ (List.mem_of_getElem? (i := 124) rfl)) (by decide +kernel)
theorem kw_3_125 : (Jvm.Cond.static ({ cls := "Exactdoubles$Take", name := "ceilFrom", desc := "(J)J" } : Jvm.MethodName)) ∈ ky_B := ky_mem (kc_3 _ (List.mem_of_getElem? (i := 125) rfl)) (by decide +kernel)
theorem kw_3_126 : (Jvm.Cond.code ({ cls := "Exactdoubles$Take", name := "ceilFrom", desc := "(J)J" } : Jvm.MethodName) prog_6_method_3_code (2 : Nat) (Option.some Jvm.ClassFile.FieldType.long)) ∈ ky_B := ky_mem (kc_3 _ (List.mem_of_getElem? (i := 126) rfl)) (by decide +kernel)
theorem kw_3_127 : (Jvm.Cond.methodLink "Exactdoubles$Proof" (46 : Nat) ({ cls := "Exactdoubles$Form", name := "turned", desc := "(J)J" } : Jvm.MethodName)) ∈ ky_B := ky_mem (kc_3 _ (List.mem_of_getElem? (i := 127) rfl)) (by decide +kernel)
theorem kw_3_128 : (Jvm.Cond.static ({ cls := "Exactdoubles$Form", name := "turned", desc := "(J)J" } : Jvm.MethodName)) ∈ ky_B := ky_mem (kc_3 _ (List.mem_of_getElem? (i := 128) rfl)) (by decide +kernel)
theorem kw_3_129 : (Jvm.Cond.code ({ cls := "Exactdoubles$Form", name := "turned", desc := "(J)J" } : Jvm.MethodName) prog_2_method_4_code (2 : Nat) (Option.some Jvm.ClassFile.FieldType.long)) ∈ ky_B := ky_mem (kc_3 _ (List.mem_of_getElem? (i := 129) rfl)) (by decide +kernel)
theorem kw_3_130 : (Jvm.Cond.methodLink "Exactdoubles$Proof" (51 : Nat) ({ cls := "Exactdoubles$Form", name := "rungIn", desc := "(J)J" } : Jvm.MethodName)) ∈ ky_B := ky_mem (kc_3 _ (List.mem_of_getElem? (i := 130) rfl)) (by decide +kernel)
theorem kw_3_131 : (Jvm.Cond.static ({ cls := "Exactdoubles$Form", name := "rungIn", desc := "(J)J" } : Jvm.MethodName)) ∈ ky_B := ky_mem (kc_3 _ (List.mem_of_getElem? (i := 131) rfl)) (by decide +kernel)
theorem kw_3_132 : (Jvm.Cond.code ({ cls := "Exactdoubles$Form", name := "rungIn", desc := "(J)J" } : Jvm.MethodName) prog_2_method_15_code (2 : Nat) (Option.some Jvm.ClassFile.FieldType.long)) ∈ ky_B := ky_mem (kc_3 _ (List.mem_of_getElem? (i := 132) rfl)) (by decide +kernel)
theorem kw_3_136 : (Jvm.Cond.methodLink "Exactdoubles$Proof" (54 : Nat) ({ cls := "Exactdoubles$Take", name := "rintFrom", desc := "(J)J" } : Jvm.MethodName)) ∈ ky_B := ky_mem (kc_3 _ (List.mem_of_getElem? (i := 136) rfl)) (by decide +kernel)
theorem kw_3_137 : (Jvm.Cond.static ({ cls := "Exactdoubles$Take", name := "rintFrom", desc := "(J)J" } : Jvm.MethodName)) ∈ ky_B := ky_mem (kc_3 _ (List.mem_of_getElem? (i := 137) rfl)) (by decide +kernel)
theorem kw_3_138 : (Jvm.Cond.code ({ cls := "Exactdoubles$Take", name := "rintFrom", desc := "(J)J" } : Jvm.MethodName) prog_6_method_4_code (2 : Nat) (Option.some Jvm.ClassFile.FieldType.long)) ∈ ky_B := ky_mem (kc_3 _ (List.mem_of_getElem? (i := 138) rfl)) (by decide +kernel)
theorem kw_3_142 : (Jvm.Cond.methodLink "Exactdoubles$Proof" (57 : Nat) ({ cls := "Exactdoubles$Form", name := "isDownOne", desc := "(J)Z" } : Jvm.MethodName)) ∈ ky_B := ky_mem (kc_3 _ (List.mem_of_getElem? (i := 142) rfl)) (by decide +kernel)
theorem kw_3_143 : (Jvm.Cond.methodLink "Exactdoubles$Proof" (60 : Nat) ({ cls := "Exactdoubles$Form", name := "restIn", desc := "(J)J" } : Jvm.MethodName)) ∈ ky_B := ky_mem (kc_3 _ (List.mem_of_getElem? (i := 143) rfl)) (by decide +kernel)
theorem kw_3_144 : (Jvm.Cond.methodLink "Exactdoubles$Proof" (63 : Nat) ({ cls := "Exactdoubles$Form", name := "behindIn", desc := "(J)I" } : Jvm.MethodName)) ∈ ky_B := ky_mem (kc_3 _ (List.mem_of_getElem? (i := 144) rfl)) (by decide +kernel)
theorem kw_3_148 : (Jvm.Cond.methodLink "Exactdoubles$Proof" (67 : Nat) ({ cls := "Exactdoubles$Take", name := "upFrom", desc := "(J)J" } : Jvm.MethodName)) ∈ ky_B := ky_mem (kc_3 _ (List.mem_of_getElem? (i := 148) rfl)) (by decide +kernel)
theorem kw_3_153 : (Jvm.Cond.methodLink "Exactdoubles$Proof" (70 : Nat) ({ cls := "Exactdoubles$Take", name := "downFrom", desc := "(J)J" } : Jvm.MethodName)) ∈ ky_B := ky_mem (kc_3 _ (List.mem_of_getElem? (i := 153) rfl)) (by decide +kernel)
theorem kw_3_158 : (Jvm.Cond.methodLink "Exactdoubles$Proof" (73 : Nat) ({ cls := "Exactdoubles$Form", name := "isEndlessOne", desc := "(J)Z" } : Jvm.MethodName)) ∈ ky_B := ky_mem (kc_3 _ (List.mem_of_getElem? (i := 158) rfl)) (by decide +kernel)
theorem kw_3_162 : (Jvm.Cond.methodLink "Exactdoubles$Proof" (76 : Nat) ({ cls := "Exactdoubles$Form", name := "digitsIn", desc := "(JI)I" } : Jvm.MethodName)) ∈ ky_B := ky_mem (kc_3 _ (List.mem_of_getElem? (i := 162) rfl)) (by decide +kernel)
theorem kw_3_163 : (Jvm.Cond.static ({ cls := "Exactdoubles$Form", name := "digitsIn", desc := "(JI)I" } : Jvm.MethodName)) ∈ ky_B := ky_mem (kc_3 _ (List.mem_of_getElem? (i := 163) rfl)) (by decide +kernel)
theorem kw_3_164 : (Jvm.Cond.code ({ cls := "Exactdoubles$Form", name := "digitsIn", desc := "(JI)I" } : Jvm.MethodName) prog_2_method_9_code (3 : Nat) (Option.some Jvm.ClassFile.FieldType.int)) ∈ ky_B := ky_mem (kc_3 _ (List.mem_of_getElem? (i := 164) rfl)) (by decide +kernel)
theorem kw_3_165 : (Jvm.Cond.constantLong "Exactdoubles$Proof" (80 : Nat) (4294967295 : Int64)) ∈ ky_B := ky_mem (kc_3 _ (List.mem_of_getElem? (i := 165) rfl)) (by decide +kernel)
theorem kw_3_166 : (Jvm.Cond.methodLink "Exactdoubles$Proof" (82 : Nat) ({ cls := "Exactdoubles$Form", name := "sizeIn", desc := "(J)J" } : Jvm.MethodName)) ∈ ky_B := ky_mem (kc_3 _ (List.mem_of_getElem? (i := 166) rfl)) (by decide +kernel)
theorem kw_3_167 : (Jvm.Cond.methodLink "Exactdoubles$Proof" (85 : Nat) ({ cls := "Exactdoubles$Form", name := "joined", desc := "(JJ)J" } : Jvm.MethodName)) ∈ ky_B := ky_mem (kc_3 _ (List.mem_of_getElem? (i := 167) rfl)) (by decide +kernel)
theorem kw_3_168 : (Jvm.Cond.methodLink "Exactdoubles$Proof" (89 : Nat) ({ cls := "Exactdoubles$Take", name := "stepFrom", desc := "(J)J" } : Jvm.MethodName)) ∈ ky_B := ky_mem (kc_3 _ (List.mem_of_getElem? (i := 168) rfl)) (by decide +kernel)
theorem kw_3_169 : (Jvm.Cond.static ({ cls := "Exactdoubles$Take", name := "stepFrom", desc := "(J)J" } : Jvm.MethodName)) ∈ ky_B := ky_mem (kc_3 _ (List.mem_of_getElem? (i := 169) rfl)) (by decide +kernel)
theorem kw_3_170 : (Jvm.Cond.code ({ cls := "Exactdoubles$Take", name := "stepFrom", desc := "(J)J" } : Jvm.MethodName) prog_6_method_10_code (2 : Nat) (Option.some Jvm.ClassFile.FieldType.long)) ∈ ky_B := ky_mem (kc_3 _ (List.mem_of_getElem? (i := 170) rfl)) (by decide +kernel)
theorem kw_3_236 : (Jvm.Cond.constantLong "Exactdoubles" (211 : Nat) (31 : Int64)) ∈ ky_B := ky_mem (kc_3 _ (List.mem_of_getElem? (i := 236) rfl)) (by decide +kernel)
theorem kw_4_40 : (Jvm.Cond.methodLink "Exactdoubles" (170 : Nat) ({ cls := "Exactdoubles$Form", name := "rungIn", desc := "(J)J" } : Jvm.MethodName)) ∈ ky_B := ky_mem (kc_4 _ (List.mem_of_getElem? (i := 40) rfl)) (by decide +kernel)
theorem kw_4_41 : (Jvm.Cond.methodLink "Exactdoubles" (235 : Nat) ({ cls := "java/lang/Long", name := "compare", desc := "(JJ)I" } : Jvm.MethodName)) ∈ ky_B := ky_mem (kc_4 _ (List.mem_of_getElem? (i := 41) rfl)) (by decide +kernel)
theorem kw_4_42 : (Jvm.Cond.static ({ cls := "java/lang/Long", name := "compare", desc := "(JJ)I" } : Jvm.MethodName)) ∈ ky_B := ky_mem (kc_4 _ (List.mem_of_getElem? (i := 42) rfl)) (by decide +kernel)
theorem kw_1_28 : (Jvm.Cond.initialized "java/lang/Long") ∈ ky_B := ky_mem (kc_1 _ (List.mem_of_getElem? (i := 28) rfl)) (by decide +kernel)
theorem kw_4_43 : (Jvm.Cond.code ({ cls := "java/lang/Long", name := "compare", desc := "(JJ)I" } : Jvm.MethodName) prog_19_method_42_code (4 : Nat) (Option.some Jvm.ClassFile.FieldType.int)) ∈ ky_B := ky_mem (kc_4 _ (List.mem_of_getElem? (i := 43) rfl)) (by decide +kernel)
theorem kw_4_48 : (Jvm.Cond.methodLink "Exactdoubles" (240 : Nat) ({ cls := "Exactdoubles$Form", name := "rankIn", desc := "(J)J" } : Jvm.MethodName)) ∈ ky_B := ky_mem (kc_4 _ (List.mem_of_getElem? (i := 48) rfl)) (by decide +kernel)
theorem kw_4_65 : (Jvm.Cond.constantLong "Exactdoubles" (243 : Nat) (40 : Int64)) ∈ ky_B := ky_mem (kc_4 _ (List.mem_of_getElem? (i := 65) rfl)) (by decide +kernel)
theorem kw_6_112 : (Jvm.Cond.constantLong "ExactdoublesModel" (3 : Nat) (4503599627370496 : Int64)) ∈ ky_B := ky_mem (kc_6 _ (List.mem_of_getElem? (i := 112) rfl)) (by decide +kernel)
theorem kw_6_114 : (Jvm.Cond.constantLong "ExactdoublesModel" (7 : Nat) (971 : Int64)) ∈ ky_B := ky_mem (kc_6 _ (List.mem_of_getElem? (i := 114) rfl)) (by decide +kernel)
theorem kw_6_115 : (Jvm.Cond.constantLong "ExactdoublesModel" (11 : Nat) (-1074 : Int64)) ∈ ky_B := ky_mem (kc_6 _ (List.mem_of_getElem? (i := 115) rfl)) (by decide +kernel)
theorem kw_6_117 : (Jvm.Cond.constantLong "ExactdoublesModel" (15 : Nat) (-1128 : Int64)) ∈ ky_B := ky_mem (kc_6 _ (List.mem_of_getElem? (i := 117) rfl)) (by decide +kernel)
theorem kw_6_113 : (Jvm.Cond.constantLong "ExactdoublesModel" (5 : Nat) (2 : Int64)) ∈ ky_B := ky_mem (kc_6 _ (List.mem_of_getElem? (i := 113) rfl)) (by decide +kernel)
theorem kw_6_116 : (Jvm.Cond.constantLong "ExactdoublesModel" (13 : Nat) (1075 : Int64)) ∈ ky_B := ky_mem (kc_6 _ (List.mem_of_getElem? (i := 116) rfl)) (by decide +kernel)
theorem kw_6_103 : (Jvm.Cond.constantLong "ExactdoublesModel" (9 : Nat) (9218868437227405312 : Int64)) ∈ ky_B := ky_mem (kc_6 _ (List.mem_of_getElem? (i := 103) rfl)) (by decide +kernel)
theorem kw_6_46 : (Jvm.Cond.methodLink "ExactdoublesModel" (40 : Nat) ({ cls := "ExactdoublesModel", name := "isOf", desc := "(III)Z" } : Jvm.MethodName)) ∈ ky_B := ky_mem (kc_6 _ (List.mem_of_getElem? (i := 46) rfl)) (by decide +kernel)
theorem kw_6_47 : (Jvm.Cond.static ({ cls := "ExactdoublesModel", name := "isOf", desc := "(III)Z" } : Jvm.MethodName)) ∈ ky_B := ky_mem (kc_6 _ (List.mem_of_getElem? (i := 47) rfl)) (by decide +kernel)
theorem kw_1_8 : (Jvm.Cond.initialized "ExactdoublesModel") ∈ ky_B := ky_mem (kc_1 _ (List.mem_of_getElem? (i := 8) rfl)) (by decide +kernel)
theorem kw_6_48 : (Jvm.Cond.code ({ cls := "ExactdoublesModel", name := "isOf", desc := "(III)Z" } : Jvm.MethodName) prog_10_method_5_code (3 : Nat) (Option.some Jvm.ClassFile.FieldType.boolean)) ∈ ky_B := ky_mem (kc_6 _ (List.mem_of_getElem? (i := 48) rfl)) (by decide +kernel)
theorem kw_8_34 : (Jvm.Cond.constantLong "ExactdoublesModel" (261 : Nat) (31 : Int64)) ∈ ky_B := ky_mem (kc_8 _ (List.mem_of_getElem? (i := 34) rfl)) (by decide +kernel)
theorem kw_4_90 : (Jvm.Cond.classLink "Exactdoubles" (216 : Nat) "java/lang/IndexOutOfBoundsException") ∈ ky_B := ky_mem (kc_4 _ (List.mem_of_getElem? (i := 90) rfl)) (by decide +kernel)
theorem kw_1_14 : (Jvm.Cond.initialized "java/lang/IndexOutOfBoundsException") ∈ ky_B := ky_mem (kc_1 _ (List.mem_of_getElem? (i := 14) rfl)) (by decide +kernel)
theorem kw_4_87 : (Jvm.Cond.methodLink "Exactdoubles" (27 : Nat) ({ cls := "Exactdoubles", name := "requireCell", desc := "(I)V" } : Jvm.MethodName)) ∈ ky_B := ky_mem (kc_4 _ (List.mem_of_getElem? (i := 87) rfl)) (by decide +kernel)
theorem kw_4_88 : (Jvm.Cond.static ({ cls := "Exactdoubles", name := "requireCell", desc := "(I)V" } : Jvm.MethodName)) ∈ ky_B := ky_mem (kc_4 _ (List.mem_of_getElem? (i := 88) rfl)) (by decide +kernel)
theorem kw_1_1 : (Jvm.Cond.initialized "Exactdoubles") ∈ ky_B := ky_mem (kc_1 _ (List.mem_of_getElem? (i := 1) rfl)) (by decide +kernel)
theorem kw_4_89 : (Jvm.Cond.code ({ cls := "Exactdoubles", name := "requireCell", desc := "(I)V" } : Jvm.MethodName) prog_1_method_58_code (1 : Nat) (Option.none : Option Jvm.ClassFile.FieldType)) ∈ ky_B := ky_mem (kc_4 _ (List.mem_of_getElem? (i := 89) rfl)) (by decide +kernel)
theorem kw_4_140 : (Jvm.Cond.classLink "Exactdoubles" (223 : Nat) "java/lang/IllegalArgumentException") ∈ ky_B := ky_mem (kc_4 _ (List.mem_of_getElem? (i := 140) rfl)) (by decide +kernel)
theorem kw_1_18 : (Jvm.Cond.initialized "java/lang/IllegalArgumentException") ∈ ky_B := ky_mem (kc_1 _ (List.mem_of_getElem? (i := 18) rfl)) (by decide +kernel)
theorem kw_1_98 : (Jvm.Cond.fieldLink "Exactdoubles" (9 : Nat) "Exactdoubles" "cells" "[J") ∈ ky_B := ky_mem (kc_1 _ (List.mem_of_getElem? (i := 98) rfl)) (by decide +kernel)
theorem kw_1_101 : (Jvm.Cond.fieldLink "Exactdoubles" (228 : Nat) "Exactdoubles" "given" "I") ∈ ky_B := ky_mem (kc_1 _ (List.mem_of_getElem? (i := 101) rfl)) (by decide +kernel)
theorem kw_4_2 : (Jvm.Cond.methodLink "Exactdoubles" (131 : Nat) ({ cls := "Exactdoubles$Form", name := "kindIn", desc := "(J)I" } : Jvm.MethodName)) ∈ ky_B := ky_mem (kc_4 _ (List.mem_of_getElem? (i := 2) rfl)) (by decide +kernel)
theorem kw_4_3 : (Jvm.Cond.static ({ cls := "Exactdoubles$Form", name := "kindIn", desc := "(J)I" } : Jvm.MethodName)) ∈ ky_B := ky_mem (kc_4 _ (List.mem_of_getElem? (i := 3) rfl)) (by decide +kernel)
theorem kw_4_4 : (Jvm.Cond.code ({ cls := "Exactdoubles$Form", name := "kindIn", desc := "(J)I" } : Jvm.MethodName) prog_2_method_14_code (2 : Nat) (Option.some Jvm.ClassFile.FieldType.int)) ∈ ky_B := ky_mem (kc_4 _ (List.mem_of_getElem? (i := 4) rfl)) (by decide +kernel)
theorem kw_4_103 : (Jvm.Cond.methodLink "Exactdoubles" (31 : Nat) ({ cls := "Exactdoubles$Form", name := "withSide", desc := "(JZ)J" } : Jvm.MethodName)) ∈ ky_B := ky_mem (kc_4 _ (List.mem_of_getElem? (i := 103) rfl)) (by decide +kernel)
theorem kw_4_104 : (Jvm.Cond.static ({ cls := "Exactdoubles$Form", name := "withSide", desc := "(JZ)J" } : Jvm.MethodName)) ∈ ky_B := ky_mem (kc_4 _ (List.mem_of_getElem? (i := 104) rfl)) (by decide +kernel)
theorem kw_4_105 : (Jvm.Cond.code ({ cls := "Exactdoubles$Form", name := "withSide", desc := "(JZ)J" } : Jvm.MethodName) prog_2_method_2_code (3 : Nat) (Option.some Jvm.ClassFile.FieldType.long)) ∈ ky_B := ky_mem (kc_4 _ (List.mem_of_getElem? (i := 105) rfl)) (by decide +kernel)
theorem kw_4_106 : (Jvm.Cond.methodLink "Exactdoubles" (37 : Nat) ({ cls := "Exactdoubles", name := "give", desc := "(IJ)I" } : Jvm.MethodName)) ∈ ky_B := ky_mem (kc_4 _ (List.mem_of_getElem? (i := 106) rfl)) (by decide +kernel)
theorem kw_4_108 : (Jvm.Cond.instanceMethod ({ cls := "Exactdoubles", name := "give", desc := "(IJ)I" } : Jvm.MethodName)) ∈ ky_B := ky_mem (kc_4 _ (List.mem_of_getElem? (i := 108) rfl)) (by decide +kernel)
theorem kp_X6_give : (Jvm.Cond.selects "Exactdoubles" ({ cls := "Exactdoubles", name := "give", desc := "(IJ)I" } : Jvm.MethodName) ({ cls := "Exactdoubles", name := "give", desc := "(IJ)I" } : Jvm.MethodName)) ∈ ky_B := ky_mem (List.mem_append_left _ (List.mem_of_getElem? (i := 15) (by decide +kernel))) (by decide +kernel)
theorem kw_4_109 : (Jvm.Cond.code ({ cls := "Exactdoubles", name := "give", desc := "(IJ)I" } : Jvm.MethodName) prog_1_method_61_code (4 : Nat) (Option.some Jvm.ClassFile.FieldType.int)) ∈ ky_B := ky_mem (kc_4 _ (List.mem_of_getElem? (i := 109) rfl)) (by decide +kernel)
theorem kw_4_117 : (Jvm.Cond.constantLong "Exactdoubles" (41 : Nat) (9218868437227405312 : Int64)) ∈ ky_B := ky_mem (kc_4 _ (List.mem_of_getElem? (i := 117) rfl)) (by decide +kernel)
theorem kw_4_125 : (Jvm.Cond.methodLink "Exactdoubles" (43 : Nat) ({ cls := "java/lang/Math", name := "abs", desc := "(J)J" } : Jvm.MethodName)) ∈ ky_B := ky_mem (kc_4 _ (List.mem_of_getElem? (i := 125) rfl)) (by decide +kernel)
theorem kw_4_126 : (Jvm.Cond.static ({ cls := "java/lang/Math", name := "abs", desc := "(J)J" } : Jvm.MethodName)) ∈ ky_B := ky_mem (kc_4 _ (List.mem_of_getElem? (i := 126) rfl)) (by decide +kernel)
theorem kw_4_127 : (Jvm.Cond.code ({ cls := "java/lang/Math", name := "abs", desc := "(J)J" } : Jvm.MethodName) prog_20_method_61_code (2 : Nat) (Option.some Jvm.ClassFile.FieldType.long)) ∈ ky_B := ky_mem (kc_4 _ (List.mem_of_getElem? (i := 127) rfl)) (by decide +kernel)
theorem kw_4_128 : (Jvm.Cond.methodLink "Exactdoubles" (49 : Nat) ({ cls := "Exactdoubles$Scale", name := "nearestTo", desc := "(JI)J" } : Jvm.MethodName)) ∈ ky_B := ky_mem (kc_4 _ (List.mem_of_getElem? (i := 128) rfl)) (by decide +kernel)
theorem kw_4_137 : (Jvm.Cond.methodLink "Exactdoubles" (55 : Nat) ({ cls := "Exactdoubles", name := "requireWithin", desc := "(III)V" } : Jvm.MethodName)) ∈ ky_B := ky_mem (kc_4 _ (List.mem_of_getElem? (i := 137) rfl)) (by decide +kernel)
theorem kw_4_138 : (Jvm.Cond.static ({ cls := "Exactdoubles", name := "requireWithin", desc := "(III)V" } : Jvm.MethodName)) ∈ ky_B := ky_mem (kc_4 _ (List.mem_of_getElem? (i := 138) rfl)) (by decide +kernel)
theorem kw_4_139 : (Jvm.Cond.code ({ cls := "Exactdoubles", name := "requireWithin", desc := "(III)V" } : Jvm.MethodName) prog_1_method_60_code (3 : Nat) (Option.none : Option Jvm.ClassFile.FieldType)) ∈ ky_B := ky_mem (kc_4 _ (List.mem_of_getElem? (i := 139) rfl)) (by decide +kernel)
theorem kw_4_143 : (Jvm.Cond.constantLong "Exactdoubles" (59 : Nat) (4607182418800017408 : Int64)) ∈ ky_B := ky_mem (kc_4 _ (List.mem_of_getElem? (i := 143) rfl)) (by decide +kernel)
theorem kw_4_144 : (Jvm.Cond.methodLink "Exactdoubles" (61 : Nat) ({ cls := "Exactdoubles$Scale", name := "timesPower", desc := "(JI)J" } : Jvm.MethodName)) ∈ ky_B := ky_mem (kc_4 _ (List.mem_of_getElem? (i := 144) rfl)) (by decide +kernel)
theorem kw_3_182 : (Jvm.Cond.static ({ cls := "Exactdoubles$Scale", name := "timesPower", desc := "(JI)J" } : Jvm.MethodName)) ∈ ky_B := ky_mem (kc_3 _ (List.mem_of_getElem? (i := 182) rfl)) (by decide +kernel)
theorem kw_3_183 : (Jvm.Cond.code ({ cls := "Exactdoubles$Scale", name := "timesPower", desc := "(JI)J" } : Jvm.MethodName) prog_4_method_2_code (4 : Nat) (Option.some Jvm.ClassFile.FieldType.long)) ∈ ky_B := ky_mem (kc_3 _ (List.mem_of_getElem? (i := 183) rfl)) (by decide +kernel)
theorem kw_4_152 : (Jvm.Cond.constantLong "Exactdoubles" (64 : Nat) (4294967295 : Int64)) ∈ ky_B := ky_mem (kc_4 _ (List.mem_of_getElem? (i := 152) rfl)) (by decide +kernel)
theorem kw_4_153 : (Jvm.Cond.methodLink "Exactdoubles" (66 : Nat) ({ cls := "Exactdoubles$Form", name := "isNumber", desc := "(J)Z" } : Jvm.MethodName)) ∈ ky_B := ky_mem (kc_4 _ (List.mem_of_getElem? (i := 153) rfl)) (by decide +kernel)
theorem kw_4_154 : (Jvm.Cond.static ({ cls := "Exactdoubles$Form", name := "isNumber", desc := "(J)Z" } : Jvm.MethodName)) ∈ ky_B := ky_mem (kc_4 _ (List.mem_of_getElem? (i := 154) rfl)) (by decide +kernel)
theorem kw_4_155 : (Jvm.Cond.code ({ cls := "Exactdoubles$Form", name := "isNumber", desc := "(J)Z" } : Jvm.MethodName) prog_2_method_11_code (2 : Nat) (Option.some Jvm.ClassFile.FieldType.boolean)) ∈ ky_B := ky_mem (kc_4 _ (List.mem_of_getElem? (i := 155) rfl)) (by decide +kernel)
theorem kw_1_102 : (Jvm.Cond.fieldLink "Exactdoubles" (70 : Nat) "Exactdoubles" "refused" "I") ∈ ky_B := ky_mem (kc_1 _ (List.mem_of_getElem? (i := 102) rfl)) (by decide +kernel)
theorem kw_4_163 : (Jvm.Cond.fieldLink "Exactdoubles" (74 : Nat) "Exactdoubles" "SAMPLE_FACTORS" "[J") ∈ ky_B := ky_mem (kc_4 _ (List.mem_of_getElem? (i := 163) rfl)) (by decide +kernel)
theorem kw_4_165 : (Jvm.Cond.fieldLink "Exactdoubles" (77 : Nat) "Exactdoubles" "SAMPLE_POWERS" "[I") ∈ ky_B := ky_mem (kc_4 _ (List.mem_of_getElem? (i := 165) rfl)) (by decide +kernel)
theorem kw_4_174 : (Jvm.Cond.methodLink "Exactdoubles" (81 : Nat) ({ cls := "Exactdoubles", name := "requireBoth", desc := "(II)V" } : Jvm.MethodName)) ∈ ky_B := ky_mem (kc_4 _ (List.mem_of_getElem? (i := 174) rfl)) (by decide +kernel)
theorem kw_4_175 : (Jvm.Cond.static ({ cls := "Exactdoubles", name := "requireBoth", desc := "(II)V" } : Jvm.MethodName)) ∈ ky_B := ky_mem (kc_4 _ (List.mem_of_getElem? (i := 175) rfl)) (by decide +kernel)
theorem kw_4_176 : (Jvm.Cond.code ({ cls := "Exactdoubles", name := "requireBoth", desc := "(II)V" } : Jvm.MethodName) prog_1_method_59_code (2 : Nat) (Option.none : Option Jvm.ClassFile.FieldType)) ∈ ky_B := ky_mem (kc_4 _ (List.mem_of_getElem? (i := 176) rfl)) (by decide +kernel)
theorem kw_4_53 : (Jvm.Cond.methodLink "Exactdoubles" (85 : Nat) ({ cls := "Exactdoubles$Take", name := "floorFrom", desc := "(J)J" } : Jvm.MethodName)) ∈ ky_B := ky_mem (kc_4 _ (List.mem_of_getElem? (i := 53) rfl)) (by decide +kernel)
theorem kw_4_54 : (Jvm.Cond.methodLink "Exactdoubles" (90 : Nat) ({ cls := "Exactdoubles$Take", name := "ceilFrom", desc := "(J)J" } : Jvm.MethodName)) ∈ ky_B := ky_mem (kc_4 _ (List.mem_of_getElem? (i := 54) rfl)) (by decide +kernel)
theorem kw_4_55 : (Jvm.Cond.methodLink "Exactdoubles" (93 : Nat) ({ cls := "Exactdoubles$Take", name := "rintFrom", desc := "(J)J" } : Jvm.MethodName)) ∈ ky_B := ky_mem (kc_4 _ (List.mem_of_getElem? (i := 55) rfl)) (by decide +kernel)
theorem kw_4_212 : (Jvm.Cond.methodLink "Exactdoubles" (96 : Nat) ({ cls := "Exactdoubles$Form", name := "sizeIn", desc := "(J)J" } : Jvm.MethodName)) ∈ ky_B := ky_mem (kc_4 _ (List.mem_of_getElem? (i := 212) rfl)) (by decide +kernel)
theorem kw_4_220 : (Jvm.Cond.methodLink "Exactdoubles" (99 : Nat) ({ cls := "Exactdoubles$Form", name := "turned", desc := "(J)J" } : Jvm.MethodName)) ∈ ky_B := ky_mem (kc_4 _ (List.mem_of_getElem? (i := 220) rfl)) (by decide +kernel)
theorem kw_4_228 : (Jvm.Cond.methodLink "Exactdoubles" (102 : Nat) ({ cls := "Exactdoubles$Take", name := "signFrom", desc := "(J)J" } : Jvm.MethodName)) ∈ ky_B := ky_mem (kc_4 _ (List.mem_of_getElem? (i := 228) rfl)) (by decide +kernel)
theorem kw_3_178 : (Jvm.Cond.static ({ cls := "Exactdoubles$Take", name := "signFrom", desc := "(J)J" } : Jvm.MethodName)) ∈ ky_B := ky_mem (kc_3 _ (List.mem_of_getElem? (i := 178) rfl)) (by decide +kernel)
theorem kw_3_179 : (Jvm.Cond.code ({ cls := "Exactdoubles$Take", name := "signFrom", desc := "(J)J" } : Jvm.MethodName) prog_6_method_6_code (2 : Nat) (Option.some Jvm.ClassFile.FieldType.long)) ∈ ky_B := ky_mem (kc_3 _ (List.mem_of_getElem? (i := 179) rfl)) (by decide +kernel)
theorem kw_4_57 : (Jvm.Cond.methodLink "Exactdoubles" (105 : Nat) ({ cls := "Exactdoubles$Take", name := "upFrom", desc := "(J)J" } : Jvm.MethodName)) ∈ ky_B := ky_mem (kc_4 _ (List.mem_of_getElem? (i := 57) rfl)) (by decide +kernel)
theorem kw_4_58 : (Jvm.Cond.methodLink "Exactdoubles" (108 : Nat) ({ cls := "Exactdoubles$Take", name := "downFrom", desc := "(J)J" } : Jvm.MethodName)) ∈ ky_B := ky_mem (kc_4 _ (List.mem_of_getElem? (i := 58) rfl)) (by decide +kernel)
theorem kw_4_56 : (Jvm.Cond.methodLink "Exactdoubles" (111 : Nat) ({ cls := "Exactdoubles$Take", name := "stepFrom", desc := "(J)J" } : Jvm.MethodName)) ∈ ky_B := ky_mem (kc_4 _ (List.mem_of_getElem? (i := 56) rfl)) (by decide +kernel)
theorem kw_4_10 : (Jvm.Cond.methodLink "Exactdoubles" (114 : Nat) ({ cls := "Exactdoubles$Form", name := "exponentIn", desc := "(J)I" } : Jvm.MethodName)) ∈ ky_B := ky_mem (kc_4 _ (List.mem_of_getElem? (i := 10) rfl)) (by decide +kernel)
theorem kw_4_11 : (Jvm.Cond.static ({ cls := "Exactdoubles$Form", name := "exponentIn", desc := "(J)I" } : Jvm.MethodName)) ∈ ky_B := ky_mem (kc_4 _ (List.mem_of_getElem? (i := 11) rfl)) (by decide +kernel)
theorem kw_4_12 : (Jvm.Cond.code ({ cls := "Exactdoubles$Form", name := "exponentIn", desc := "(J)I" } : Jvm.MethodName) prog_2_method_10_code (2 : Nat) (Option.some Jvm.ClassFile.FieldType.int)) ∈ ky_B := ky_mem (kc_4 _ (List.mem_of_getElem? (i := 12) rfl)) (by decide +kernel)
theorem kw_5_31 : (Jvm.Cond.methodLink "Exactdoubles" (118 : Nat) ({ cls := "Exactdoubles$Form", name := "joined", desc := "(JJ)J" } : Jvm.MethodName)) ∈ ky_B := ky_mem (kc_5 _ (List.mem_of_getElem? (i := 31) rfl)) (by decide +kernel)
theorem kw_1_125 : (Jvm.Cond.methodLink "Exactdoubles" (122 : Nat) ({ cls := "Exactdoubles$Form", name := "lastOf", desc := "(JJ)J" } : Jvm.MethodName)) ∈ ky_B := ky_mem (kc_1 _ (List.mem_of_getElem? (i := 125) rfl)) (by decide +kernel)
theorem kw_1_126 : (Jvm.Cond.static ({ cls := "Exactdoubles$Form", name := "lastOf", desc := "(JJ)J" } : Jvm.MethodName)) ∈ ky_B := ky_mem (kc_1 _ (List.mem_of_getElem? (i := 126) rfl)) (by decide +kernel)
theorem kw_1_127 : (Jvm.Cond.code ({ cls := "Exactdoubles$Form", name := "lastOf", desc := "(JJ)J" } : Jvm.MethodName) prog_2_method_17_code (4 : Nat) (Option.some Jvm.ClassFile.FieldType.long)) ∈ ky_B := ky_mem (kc_1 _ (List.mem_of_getElem? (i := 127) rfl)) (by decide +kernel)
theorem kw_3_75 : (Jvm.Cond.methodLink "Exactdoubles" (125 : Nat) ({ cls := "Exactdoubles$Form", name := "firstOf", desc := "(JJ)J" } : Jvm.MethodName)) ∈ ky_B := ky_mem (kc_3 _ (List.mem_of_getElem? (i := 75) rfl)) (by decide +kernel)
theorem kw_3_76 : (Jvm.Cond.static ({ cls := "Exactdoubles$Form", name := "firstOf", desc := "(JJ)J" } : Jvm.MethodName)) ∈ ky_B := ky_mem (kc_3 _ (List.mem_of_getElem? (i := 76) rfl)) (by decide +kernel)
theorem kw_3_77 : (Jvm.Cond.code ({ cls := "Exactdoubles$Form", name := "firstOf", desc := "(JJ)J" } : Jvm.MethodName) prog_2_method_18_code (4 : Nat) (Option.some Jvm.ClassFile.FieldType.long)) ∈ ky_B := ky_mem (kc_3 _ (List.mem_of_getElem? (i := 77) rfl)) (by decide +kernel)
theorem kw_5_53 : (Jvm.Cond.methodLink "Exactdoubles" (128 : Nat) ({ cls := "Exactdoubles$Take", name := "walkFrom", desc := "(JI)J" } : Jvm.MethodName)) ∈ ky_B := ky_mem (kc_5 _ (List.mem_of_getElem? (i := 53) rfl)) (by decide +kernel)
theorem kw_5_54 : (Jvm.Cond.static ({ cls := "Exactdoubles$Take", name := "walkFrom", desc := "(JI)J" } : Jvm.MethodName)) ∈ ky_B := ky_mem (kc_5 _ (List.mem_of_getElem? (i := 54) rfl)) (by decide +kernel)
theorem kw_5_55 : (Jvm.Cond.code ({ cls := "Exactdoubles$Take", name := "walkFrom", desc := "(JI)J" } : Jvm.MethodName) prog_6_method_9_code (6 : Nat) (Option.some Jvm.ClassFile.FieldType.long)) ∈ ky_B := ky_mem (kc_5 _ (List.mem_of_getElem? (i := 55) rfl)) (by decide +kernel)
theorem kw_4_1 : (Jvm.Cond.methodLink "Exactdoubles" (134 : Nat) ({ cls := "Exactdoubles$Form", name := "digitsIn", desc := "(JI)I" } : Jvm.MethodName)) ∈ ky_B := ky_mem (kc_4 _ (List.mem_of_getElem? (i := 1) rfl)) (by decide +kernel)
theorem kw_4_13 : (Jvm.Cond.methodLink "Exactdoubles" (142 : Nat) ({ cls := "Exactdoubles$Whole", name := "roundFrom", desc := "(J)J" } : Jvm.MethodName)) ∈ ky_B := ky_mem (kc_4 _ (List.mem_of_getElem? (i := 13) rfl)) (by decide +kernel)
theorem kw_3_192 : (Jvm.Cond.static ({ cls := "Exactdoubles$Whole", name := "roundFrom", desc := "(J)J" } : Jvm.MethodName)) ∈ ky_B := ky_mem (kc_3 _ (List.mem_of_getElem? (i := 192) rfl)) (by decide +kernel)
theorem kw_3_193 : (Jvm.Cond.code ({ cls := "Exactdoubles$Whole", name := "roundFrom", desc := "(J)J" } : Jvm.MethodName) prog_7_method_3_code (7 : Nat) (Option.some Jvm.ClassFile.FieldType.long)) ∈ ky_B := ky_mem (kc_3 _ (List.mem_of_getElem? (i := 193) rfl)) (by decide +kernel)
theorem kw_4_14 : (Jvm.Cond.methodLink "Exactdoubles" (147 : Nat) ({ cls := "Exactdoubles", name := "halfOf", desc := "(JZ)I" } : Jvm.MethodName)) ∈ ky_B := ky_mem (kc_4 _ (List.mem_of_getElem? (i := 14) rfl)) (by decide +kernel)
theorem kw_4_15 : (Jvm.Cond.static ({ cls := "Exactdoubles", name := "halfOf", desc := "(JZ)I" } : Jvm.MethodName)) ∈ ky_B := ky_mem (kc_4 _ (List.mem_of_getElem? (i := 15) rfl)) (by decide +kernel)
theorem kw_4_16 : (Jvm.Cond.code ({ cls := "Exactdoubles", name := "halfOf", desc := "(JZ)I" } : Jvm.MethodName) prog_1_method_64_code (3 : Nat) (Option.some Jvm.ClassFile.FieldType.int)) ∈ ky_B := ky_mem (kc_4 _ (List.mem_of_getElem? (i := 16) rfl)) (by decide +kernel)
theorem kw_4_26 : (Jvm.Cond.methodLink "Exactdoubles" (157 : Nat) ({ cls := "Exactdoubles$Whole", name := "shortFrom", desc := "(J)I" } : Jvm.MethodName)) ∈ ky_B := ky_mem (kc_4 _ (List.mem_of_getElem? (i := 26) rfl)) (by decide +kernel)
theorem kw_4_27 : (Jvm.Cond.static ({ cls := "Exactdoubles$Whole", name := "shortFrom", desc := "(J)I" } : Jvm.MethodName)) ∈ ky_B := ky_mem (kc_4 _ (List.mem_of_getElem? (i := 27) rfl)) (by decide +kernel)
theorem kw_4_28 : (Jvm.Cond.code ({ cls := "Exactdoubles$Whole", name := "shortFrom", desc := "(J)I" } : Jvm.MethodName) prog_7_method_4_code (2 : Nat) (Option.some Jvm.ClassFile.FieldType.int)) ∈ ky_B := ky_mem (kc_4 _ (List.mem_of_getElem? (i := 28) rfl)) (by decide +kernel)
theorem kw_4_37 : (Jvm.Cond.methodLink "Exactdoubles" (160 : Nat) ({ cls := "Exactdoubles", name := "signOf", desc := "(J)I" } : Jvm.MethodName)) ∈ ky_B := ky_mem (kc_4 _ (List.mem_of_getElem? (i := 37) rfl)) (by decide +kernel)
theorem kw_4_38 : (Jvm.Cond.static ({ cls := "Exactdoubles", name := "signOf", desc := "(J)I" } : Jvm.MethodName)) ∈ ky_B := ky_mem (kc_4 _ (List.mem_of_getElem? (i := 38) rfl)) (by decide +kernel)
theorem kw_4_39 : (Jvm.Cond.code ({ cls := "Exactdoubles", name := "signOf", desc := "(J)I" } : Jvm.MethodName) prog_1_method_65_code (2 : Nat) (Option.some Jvm.ClassFile.FieldType.int)) ∈ ky_B := ky_mem (kc_4 _ (List.mem_of_getElem? (i := 39) rfl)) (by decide +kernel)
theorem kw_3_228 : (Jvm.Cond.methodLink "Exactdoubles" (163 : Nat) ({ cls := "Exactdoubles$Form", name := "isWholeOne", desc := "(J)Z" } : Jvm.MethodName)) ∈ ky_B := ky_mem (kc_3 _ (List.mem_of_getElem? (i := 228) rfl)) (by decide +kernel)
theorem kw_3_229 : (Jvm.Cond.static ({ cls := "Exactdoubles$Form", name := "isWholeOne", desc := "(J)Z" } : Jvm.MethodName)) ∈ ky_B := ky_mem (kc_3 _ (List.mem_of_getElem? (i := 229) rfl)) (by decide +kernel)
theorem kw_3_230 : (Jvm.Cond.code ({ cls := "Exactdoubles$Form", name := "isWholeOne", desc := "(J)Z" } : Jvm.MethodName) prog_2_method_13_code (2 : Nat) (Option.some Jvm.ClassFile.FieldType.boolean)) ∈ ky_B := ky_mem (kc_3 _ (List.mem_of_getElem? (i := 230) rfl)) (by decide +kernel)
theorem kw_4_59 : (Jvm.Cond.methodLink "Exactdoubles" (166 : Nat) ({ cls := "Exactdoubles", name := "orderOf", desc := "(JJ)I" } : Jvm.MethodName)) ∈ ky_B := ky_mem (kc_4 _ (List.mem_of_getElem? (i := 59) rfl)) (by decide +kernel)
theorem kw_4_60 : (Jvm.Cond.static ({ cls := "Exactdoubles", name := "orderOf", desc := "(JJ)I" } : Jvm.MethodName)) ∈ ky_B := ky_mem (kc_4 _ (List.mem_of_getElem? (i := 60) rfl)) (by decide +kernel)
theorem kw_4_61 : (Jvm.Cond.code ({ cls := "Exactdoubles", name := "orderOf", desc := "(JJ)I" } : Jvm.MethodName) prog_1_method_66_code (4 : Nat) (Option.some Jvm.ClassFile.FieldType.int)) ∈ ky_B := ky_mem (kc_4 _ (List.mem_of_getElem? (i := 61) rfl)) (by decide +kernel)
theorem kw_4_62 : (Jvm.Cond.methodLink "Exactdoubles" (173 : Nat) ({ cls := "Exactdoubles", name := "stepsBetween", desc := "(JJ)I" } : Jvm.MethodName)) ∈ ky_B := ky_mem (kc_4 _ (List.mem_of_getElem? (i := 62) rfl)) (by decide +kernel)
theorem kw_4_63 : (Jvm.Cond.static ({ cls := "Exactdoubles", name := "stepsBetween", desc := "(JJ)I" } : Jvm.MethodName)) ∈ ky_B := ky_mem (kc_4 _ (List.mem_of_getElem? (i := 63) rfl)) (by decide +kernel)
theorem kw_4_64 : (Jvm.Cond.code ({ cls := "Exactdoubles", name := "stepsBetween", desc := "(JJ)I" } : Jvm.MethodName) prog_1_method_67_code (10 : Nat) (Option.some Jvm.ClassFile.FieldType.int)) ∈ ky_B := ky_mem (kc_4 _ (List.mem_of_getElem? (i := 64) rfl)) (by decide +kernel)
theorem kw_1_103 : (Jvm.Cond.fieldLink "Exactdoubles" (186 : Nat) "Exactdoubles" "knocks" "I") ∈ ky_B := ky_mem (kc_1 _ (List.mem_of_getElem? (i := 103) rfl)) (by decide +kernel)
theorem ks_X0_11 : ky_wS "Exactdoubles$Form" 11 my_X0_sizeIn prog_2_method_5_code 2 (Option.some Jvm.ClassFile.FieldType.long) 1 := ⟨kw_1_135, kw_1_136, kw_1_15, kw_1_137, by decide, by decide, by decide +kernel⟩
theorem ks_X0_19 : ky_wS "Exactdoubles$Form" 19 my_X0_isDownOne prog_2_method_6_code 2 (Option.some Jvm.ClassFile.FieldType.boolean) 1 := ⟨kw_1_131, kw_1_132, kw_1_15, kw_1_133, by decide, by decide, by decide +kernel⟩
theorem ks_X0_23 : ky_wS "Exactdoubles$Form" 23 my_X0_highIn prog_2_method_7_code 2 (Option.some Jvm.ClassFile.FieldType.int) 1 := ⟨kw_3_41, kw_3_42, kw_1_15, kw_3_43, by decide, by decide, by decide +kernel⟩
theorem ks_X0_27 : ky_wS "Exactdoubles$Form" 27 my_X0_lowIn prog_2_method_8_code 2 (Option.some Jvm.ClassFile.FieldType.long) 1 := ⟨kw_3_44, kw_3_45, kw_1_15, kw_3_46, by decide, by decide, by decide +kernel⟩
theorem ks_X0_54 : ky_wS "Exactdoubles$Form" 54 my_X0_factorIn prog_2_method_19_code 2 (Option.some Jvm.ClassFile.FieldType.long) 1 := ⟨kw_3_99, kw_3_39, kw_1_15, kw_3_40, by decide, by decide, by decide +kernel⟩
theorem ks_X0_57 : ky_wS "Exactdoubles$Form" 57 my_X0_behindIn prog_2_method_21_code 2 (Option.some Jvm.ClassFile.FieldType.int) 1 := ⟨kw_3_100, kw_3_101, kw_1_15, kw_3_102, by decide, by decide, by decide +kernel⟩
theorem ks_X0_32 : ky_wS "Exactdoubles$Form" 32 my_X0_restIn prog_2_method_23_code 2 (Option.some Jvm.ClassFile.FieldType.long) 1 := ⟨kw_3_231, kw_3_97, kw_1_15, kw_3_98, by decide, by decide, by decide +kernel⟩
theorem ks_X0_35 : ky_wS "Exactdoubles$Form" 35 my_X0_isEndlessOne prog_2_method_12_code 2 (Option.some Jvm.ClassFile.FieldType.boolean) 1 := ⟨kw_3_232, kw_3_35, kw_1_15, kw_3_36, by decide, by decide, by decide +kernel⟩
theorem ks_X0_40 : ky_wS "Exactdoubles$Form" 40 my_X0_rankIn prog_2_method_16_code 2 (Option.some Jvm.ClassFile.FieldType.long) 1 := ⟨kw_1_128, kw_1_129, kw_1_15, kw_1_130, by decide, by decide, by decide +kernel⟩
theorem ks_X2_43 : ky_wS "Exactdoubles$Scale" 43 my_X2_halvedOften prog_4_method_4_code 10 (Option.some Jvm.ClassFile.FieldType.long) 2 := ⟨kw_3_115, kw_3_116, kw_1_17, kw_3_117, by decide, by decide, by decide +kernel⟩
theorem ks_X2_7 : ky_wS "Exactdoubles$Scale" 7 my_X0_sizeIn prog_2_method_5_code 2 (Option.some Jvm.ClassFile.FieldType.long) 1 := ⟨kw_3_184, kw_1_136, kw_1_15, kw_1_137, by decide, by decide, by decide +kernel⟩
theorem ks_X2_13 : ky_wS "Exactdoubles$Scale" 13 my_X0_isEndlessOne prog_2_method_12_code 2 (Option.some Jvm.ClassFile.FieldType.boolean) 1 := ⟨kw_3_185, kw_3_35, kw_1_15, kw_3_36, by decide, by decide, by decide +kernel⟩
theorem ks_X2_28 : ky_wS "Exactdoubles$Scale" 28 my_X0_factorIn prog_2_method_19_code 2 (Option.some Jvm.ClassFile.FieldType.long) 1 := ⟨kw_3_187, kw_3_39, kw_1_15, kw_3_40, by decide, by decide, by decide +kernel⟩
theorem ks_X2_31 : ky_wS "Exactdoubles$Scale" 31 my_X0_powerIn prog_2_method_20_code 2 (Option.some Jvm.ClassFile.FieldType.int) 1 := ⟨kw_3_188, kw_3_50, kw_1_15, kw_3_51, by decide, by decide, by decide +kernel⟩
theorem ks_X2_35 : ky_wS "Exactdoubles$Scale" 35 my_X2_nearestTo prog_4_method_3_code 7 (Option.some Jvm.ClassFile.FieldType.long) 2 := ⟨kw_3_189, kw_3_112, kw_1_17, kw_3_113, by decide, by decide, by decide +kernel⟩
theorem ks_X2_39 : ky_wS "Exactdoubles$Scale" 39 my_X0_joined prog_2_method_3_code 4 (Option.some Jvm.ClassFile.FieldType.long) 2 := ⟨kw_3_190, kw_3_121, kw_1_15, kw_3_122, by decide, by decide, by decide +kernel⟩
theorem ks_X4_39 : ky_wS "Exactdoubles$Take" 39 my_X2_nearestTo prog_4_method_3_code 7 (Option.some Jvm.ClassFile.FieldType.long) 2 := ⟨kw_3_111, kw_3_112, kw_1_17, kw_3_113, by decide, by decide, by decide +kernel⟩
theorem ks_X4_42 : ky_wS "Exactdoubles$Take" 42 my_X0_joined prog_2_method_3_code 4 (Option.some Jvm.ClassFile.FieldType.long) 2 := ⟨kw_3_120, kw_3_121, kw_1_15, kw_3_122, by decide, by decide, by decide +kernel⟩
theorem ks_X4_7 : ky_wS "Exactdoubles$Take" 7 my_X0_restIn prog_2_method_23_code 2 (Option.some Jvm.ClassFile.FieldType.long) 1 := ⟨kw_3_96, kw_3_97, kw_1_15, kw_3_98, by decide, by decide, by decide +kernel⟩
theorem ks_X4_13 : ky_wS "Exactdoubles$Take" 13 my_X0_aheadIn prog_2_method_22_code 2 (Option.some Jvm.ClassFile.FieldType.long) 1 := ⟨kw_3_104, kw_3_105, kw_1_15, kw_3_106, by decide, by decide, by decide +kernel⟩
theorem ks_X4_16 : ky_wS "Exactdoubles$Take" 16 my_X0_isDownOne prog_2_method_6_code 2 (Option.some Jvm.ClassFile.FieldType.boolean) 1 := ⟨kw_3_107, kw_1_132, kw_1_15, kw_1_133, by decide, by decide, by decide +kernel⟩
theorem ks_X4_20 : ky_wS "Exactdoubles$Take" 20 my_X4_wholeLike prog_6_method_5_code 4 (Option.some Jvm.ClassFile.FieldType.long) 2 := ⟨kw_3_108, kw_3_109, kw_1_19, kw_3_110, by decide, by decide, by decide +kernel⟩
theorem ks_X4_26 : ky_wS "Exactdoubles$Take" 26 my_X0_factorIn prog_2_method_19_code 2 (Option.some Jvm.ClassFile.FieldType.long) 1 := ⟨kw_3_139, kw_3_39, kw_1_15, kw_3_40, by decide, by decide, by decide +kernel⟩
theorem ks_X4_29 : ky_wS "Exactdoubles$Take" 29 my_X0_behindIn prog_2_method_21_code 2 (Option.some Jvm.ClassFile.FieldType.int) 1 := ⟨kw_3_140, kw_3_101, kw_1_15, kw_3_102, by decide, by decide, by decide +kernel⟩
theorem ks_X4_33 : ky_wS "Exactdoubles$Take" 33 my_X2_halvedOften prog_4_method_4_code 10 (Option.some Jvm.ClassFile.FieldType.long) 2 := ⟨kw_3_141, kw_3_116, kw_1_17, kw_3_117, by decide, by decide, by decide +kernel⟩
theorem ks_X4_45 : ky_wS "Exactdoubles$Take" 45 my_X0_sizeIn prog_2_method_5_code 2 (Option.some Jvm.ClassFile.FieldType.long) 1 := ⟨kw_3_152, kw_1_136, kw_1_15, kw_1_137, by decide, by decide, by decide +kernel⟩
theorem ks_X4_62 : ky_wS "Exactdoubles$Take" 62 my_X0_isEndlessOne prog_2_method_12_code 2 (Option.some Jvm.ClassFile.FieldType.boolean) 1 := ⟨kw_3_171, kw_3_35, kw_1_15, kw_3_36, by decide, by decide, by decide +kernel⟩
theorem ks_X4_65 : ky_wS "Exactdoubles$Take" 65 my_X0_powerIn prog_2_method_20_code 2 (Option.some Jvm.ClassFile.FieldType.int) 1 := ⟨kw_3_172, kw_3_50, kw_1_15, kw_3_51, by decide, by decide, by decide +kernel⟩
theorem ks_X4_59 : ky_wS "Exactdoubles$Take" 59 my_X4_downFrom prog_6_method_8_code 2 (Option.some Jvm.ClassFile.FieldType.long) 1 := ⟨kw_5_57, kw_3_154, kw_1_19, kw_3_155, by decide, by decide, by decide +kernel⟩
theorem ks_X4_56 : ky_wS "Exactdoubles$Take" 56 my_X4_upFrom prog_6_method_7_code 2 (Option.some Jvm.ClassFile.FieldType.long) 1 := ⟨kw_5_56, kw_3_149, kw_1_19, kw_3_150, by decide, by decide, by decide +kernel⟩
theorem ks_X5_7 : ky_wS "Exactdoubles$Whole" 7 my_X0_powerIn prog_2_method_20_code 2 (Option.some Jvm.ClassFile.FieldType.int) 1 := ⟨kw_3_198, kw_3_50, kw_1_15, kw_3_51, by decide, by decide, by decide +kernel⟩
theorem ks_X5_23 : ky_wS "Exactdoubles$Whole" 23 my_X0_factorIn prog_2_method_19_code 2 (Option.some Jvm.ClassFile.FieldType.long) 1 := ⟨kw_3_202, kw_3_39, kw_1_15, kw_3_40, by decide, by decide, by decide +kernel⟩
theorem ks_X5_27 : ky_wS "Exactdoubles$Whole" 27 my_X0_behindIn prog_2_method_21_code 2 (Option.some Jvm.ClassFile.FieldType.int) 1 := ⟨kw_3_194, kw_3_101, kw_1_15, kw_3_102, by decide, by decide, by decide +kernel⟩
theorem ks_X5_15 : ky_wS "Exactdoubles$Whole" 15 my_X0_isDownOne prog_2_method_6_code 2 (Option.some Jvm.ClassFile.FieldType.boolean) 1 := ⟨kw_3_199, kw_1_132, kw_1_15, kw_1_133, by decide, by decide, by decide +kernel⟩
theorem ks_X5_33 : ky_wS "Exactdoubles$Whole" 33 my_X0_restIn prog_2_method_23_code 2 (Option.some Jvm.ClassFile.FieldType.long) 1 := ⟨kw_3_203, kw_3_97, kw_1_15, kw_3_98, by decide, by decide, by decide +kernel⟩
theorem ks_X5_30 : ky_wS "Exactdoubles$Whole" 30 my_X5_cutFrom prog_7_method_2_code 7 (Option.some Jvm.ClassFile.FieldType.long) 1 := ⟨kw_3_195, kw_3_196, kw_1_29, kw_3_197, by decide, by decide, by decide +kernel⟩
theorem ks_X1_37 : ky_wS "Exactdoubles$Proof" 37 my_X4_floorFrom prog_6_method_2_code 2 (Option.some Jvm.ClassFile.FieldType.long) 1 := ⟨kw_3_93, kw_3_94, kw_1_19, kw_3_95, by decide, by decide, by decide +kernel⟩
theorem ks_X1_43 : ky_wS "Exactdoubles$Proof" 43 my_X4_ceilFrom prog_6_method_3_code 2 (Option.some Jvm.ClassFile.FieldType.long) 1 := ⟨kw_3_124, kw_3_125, kw_1_19, kw_3_126, by decide, by decide, by decide +kernel⟩
theorem ks_X1_46 : ky_wS "Exactdoubles$Proof" 46 my_X0_turned prog_2_method_4_code 2 (Option.some Jvm.ClassFile.FieldType.long) 1 := ⟨kw_3_127, kw_3_128, kw_1_15, kw_3_129, by decide, by decide, by decide +kernel⟩
theorem ks_X1_51 : ky_wS "Exactdoubles$Proof" 51 my_X0_rungIn prog_2_method_15_code 2 (Option.some Jvm.ClassFile.FieldType.long) 1 := ⟨kw_3_130, kw_3_131, kw_1_15, kw_3_132, by decide, by decide, by decide +kernel⟩
theorem ks_X1_54 : ky_wS "Exactdoubles$Proof" 54 my_X4_rintFrom prog_6_method_4_code 2 (Option.some Jvm.ClassFile.FieldType.long) 1 := ⟨kw_3_136, kw_3_137, kw_1_19, kw_3_138, by decide, by decide, by decide +kernel⟩
theorem ks_X1_57 : ky_wS "Exactdoubles$Proof" 57 my_X0_isDownOne prog_2_method_6_code 2 (Option.some Jvm.ClassFile.FieldType.boolean) 1 := ⟨kw_3_142, kw_1_132, kw_1_15, kw_1_133, by decide, by decide, by decide +kernel⟩
theorem ks_X1_60 : ky_wS "Exactdoubles$Proof" 60 my_X0_restIn prog_2_method_23_code 2 (Option.some Jvm.ClassFile.FieldType.long) 1 := ⟨kw_3_143, kw_3_97, kw_1_15, kw_3_98, by decide, by decide, by decide +kernel⟩
theorem ks_X1_63 : ky_wS "Exactdoubles$Proof" 63 my_X0_behindIn prog_2_method_21_code 2 (Option.some Jvm.ClassFile.FieldType.int) 1 := ⟨kw_3_144, kw_3_101, kw_1_15, kw_3_102, by decide, by decide, by decide +kernel⟩
theorem ks_X1_67 : ky_wS "Exactdoubles$Proof" 67 my_X4_upFrom prog_6_method_7_code 2 (Option.some Jvm.ClassFile.FieldType.long) 1 := ⟨kw_3_148, kw_3_149, kw_1_19, kw_3_150, by decide, by decide, by decide +kernel⟩
theorem ks_X1_70 : ky_wS "Exactdoubles$Proof" 70 my_X4_downFrom prog_6_method_8_code 2 (Option.some Jvm.ClassFile.FieldType.long) 1 := ⟨kw_3_153, kw_3_154, kw_1_19, kw_3_155, by decide, by decide, by decide +kernel⟩
theorem ks_X1_73 : ky_wS "Exactdoubles$Proof" 73 my_X0_isEndlessOne prog_2_method_12_code 2 (Option.some Jvm.ClassFile.FieldType.boolean) 1 := ⟨kw_3_158, kw_3_35, kw_1_15, kw_3_36, by decide, by decide, by decide +kernel⟩
theorem ks_X1_76 : ky_wS "Exactdoubles$Proof" 76 my_X0_digitsIn prog_2_method_9_code 3 (Option.some Jvm.ClassFile.FieldType.int) 2 := ⟨kw_3_162, kw_3_163, kw_1_15, kw_3_164, by decide, by decide, by decide +kernel⟩
theorem ks_X1_82 : ky_wS "Exactdoubles$Proof" 82 my_X0_sizeIn prog_2_method_5_code 2 (Option.some Jvm.ClassFile.FieldType.long) 1 := ⟨kw_3_166, kw_1_136, kw_1_15, kw_1_137, by decide, by decide, by decide +kernel⟩
theorem ks_X1_85 : ky_wS "Exactdoubles$Proof" 85 my_X0_joined prog_2_method_3_code 4 (Option.some Jvm.ClassFile.FieldType.long) 2 := ⟨kw_3_167, kw_3_121, kw_1_15, kw_3_122, by decide, by decide, by decide +kernel⟩
theorem ks_X1_89 : ky_wS "Exactdoubles$Proof" 89 my_X4_stepFrom prog_6_method_10_code 2 (Option.some Jvm.ClassFile.FieldType.long) 1 := ⟨kw_3_168, kw_3_169, kw_1_19, kw_3_170, by decide, by decide, by decide +kernel⟩
theorem ks_X6_170 : ky_wS "Exactdoubles" 170 my_X0_rungIn prog_2_method_15_code 2 (Option.some Jvm.ClassFile.FieldType.long) 1 := ⟨kw_4_40, kw_3_131, kw_1_15, kw_3_132, by decide, by decide, by decide +kernel⟩
theorem ks_X6_235 : ky_wS "Exactdoubles" 235 my_J13_compare_74951 prog_19_method_42_code 4 (Option.some Jvm.ClassFile.FieldType.int) 2 := ⟨kw_4_41, kw_4_42, kw_1_28, kw_4_43, by decide, by decide, by decide +kernel⟩
theorem ks_X6_240 : ky_wS "Exactdoubles" 240 my_X0_rankIn prog_2_method_16_code 2 (Option.some Jvm.ClassFile.FieldType.long) 1 := ⟨kw_4_48, kw_1_129, kw_1_15, kw_1_130, by decide, by decide, by decide +kernel⟩
theorem ks_X9_40 : ky_wS "ExactdoublesModel" 40 my_X9_isOf prog_10_method_5_code 3 (Option.some Jvm.ClassFile.FieldType.boolean) 3 := ⟨kw_6_46, kw_6_47, kw_1_8, kw_6_48, by decide, by decide, by decide +kernel⟩
theorem ks_X6_27 : ky_wS "Exactdoubles" 27 my_X6_requireCell prog_1_method_58_code 1 (Option.none : Option Jvm.ClassFile.FieldType) 1 := ⟨kw_4_87, kw_4_88, kw_1_1, kw_4_89, by decide, by decide, by decide +kernel⟩
theorem ks_X6_131 : ky_wS "Exactdoubles" 131 my_X0_kindIn prog_2_method_14_code 2 (Option.some Jvm.ClassFile.FieldType.int) 1 := ⟨kw_4_2, kw_4_3, kw_1_15, kw_4_4, by decide, by decide, by decide +kernel⟩
theorem ks_X6_31 : ky_wS "Exactdoubles" 31 my_X0_withSide prog_2_method_2_code 3 (Option.some Jvm.ClassFile.FieldType.long) 2 := ⟨kw_4_103, kw_4_104, kw_1_15, kw_4_105, by decide, by decide, by decide +kernel⟩
theorem kv_X6_37 : ky_wV "Exactdoubles" 37 my_X6_give prog_1_method_61_code 4 (Option.some Jvm.ClassFile.FieldType.int) 2 := ⟨kw_4_106, kw_4_108, kp_X6_give, kw_1_1, kw_4_109, by decide, by decide, by decide +kernel⟩
theorem ks_X6_49 : ky_wS "Exactdoubles" 49 my_X2_nearestTo prog_4_method_3_code 7 (Option.some Jvm.ClassFile.FieldType.long) 2 := ⟨kw_4_128, kw_3_112, kw_1_17, kw_3_113, by decide, by decide, by decide +kernel⟩
theorem ks_X6_55 : ky_wS "Exactdoubles" 55 my_X6_requireWithin prog_1_method_60_code 3 (Option.none : Option Jvm.ClassFile.FieldType) 3 := ⟨kw_4_137, kw_4_138, kw_1_1, kw_4_139, by decide, by decide, by decide +kernel⟩
theorem ks_X6_61 : ky_wS "Exactdoubles" 61 my_X2_timesPower prog_4_method_2_code 4 (Option.some Jvm.ClassFile.FieldType.long) 2 := ⟨kw_4_144, kw_3_182, kw_1_17, kw_3_183, by decide, by decide, by decide +kernel⟩
theorem ks_X6_66 : ky_wS "Exactdoubles" 66 my_X0_isNumber prog_2_method_11_code 2 (Option.some Jvm.ClassFile.FieldType.boolean) 1 := ⟨kw_4_153, kw_4_154, kw_1_15, kw_4_155, by decide, by decide, by decide +kernel⟩
theorem ks_X6_81 : ky_wS "Exactdoubles" 81 my_X6_requireBoth prog_1_method_59_code 2 (Option.none : Option Jvm.ClassFile.FieldType) 2 := ⟨kw_4_174, kw_4_175, kw_1_1, kw_4_176, by decide, by decide, by decide +kernel⟩
theorem ks_X6_85 : ky_wS "Exactdoubles" 85 my_X4_floorFrom prog_6_method_2_code 2 (Option.some Jvm.ClassFile.FieldType.long) 1 := ⟨kw_4_53, kw_3_94, kw_1_19, kw_3_95, by decide, by decide, by decide +kernel⟩
theorem ks_X6_90 : ky_wS "Exactdoubles" 90 my_X4_ceilFrom prog_6_method_3_code 2 (Option.some Jvm.ClassFile.FieldType.long) 1 := ⟨kw_4_54, kw_3_125, kw_1_19, kw_3_126, by decide, by decide, by decide +kernel⟩
theorem ks_X6_93 : ky_wS "Exactdoubles" 93 my_X4_rintFrom prog_6_method_4_code 2 (Option.some Jvm.ClassFile.FieldType.long) 1 := ⟨kw_4_55, kw_3_137, kw_1_19, kw_3_138, by decide, by decide, by decide +kernel⟩
theorem ks_X6_96 : ky_wS "Exactdoubles" 96 my_X0_sizeIn prog_2_method_5_code 2 (Option.some Jvm.ClassFile.FieldType.long) 1 := ⟨kw_4_212, kw_1_136, kw_1_15, kw_1_137, by decide, by decide, by decide +kernel⟩
theorem ks_X6_99 : ky_wS "Exactdoubles" 99 my_X0_turned prog_2_method_4_code 2 (Option.some Jvm.ClassFile.FieldType.long) 1 := ⟨kw_4_220, kw_3_128, kw_1_15, kw_3_129, by decide, by decide, by decide +kernel⟩
theorem ks_X6_102 : ky_wS "Exactdoubles" 102 my_X4_signFrom prog_6_method_6_code 2 (Option.some Jvm.ClassFile.FieldType.long) 1 := ⟨kw_4_228, kw_3_178, kw_1_19, kw_3_179, by decide, by decide, by decide +kernel⟩
theorem ks_X6_105 : ky_wS "Exactdoubles" 105 my_X4_upFrom prog_6_method_7_code 2 (Option.some Jvm.ClassFile.FieldType.long) 1 := ⟨kw_4_57, kw_3_149, kw_1_19, kw_3_150, by decide, by decide, by decide +kernel⟩
theorem ks_X6_108 : ky_wS "Exactdoubles" 108 my_X4_downFrom prog_6_method_8_code 2 (Option.some Jvm.ClassFile.FieldType.long) 1 := ⟨kw_4_58, kw_3_154, kw_1_19, kw_3_155, by decide, by decide, by decide +kernel⟩
theorem ks_X6_111 : ky_wS "Exactdoubles" 111 my_X4_stepFrom prog_6_method_10_code 2 (Option.some Jvm.ClassFile.FieldType.long) 1 := ⟨kw_4_56, kw_3_169, kw_1_19, kw_3_170, by decide, by decide, by decide +kernel⟩
theorem ks_X6_114 : ky_wS "Exactdoubles" 114 my_X0_exponentIn prog_2_method_10_code 2 (Option.some Jvm.ClassFile.FieldType.int) 1 := ⟨kw_4_10, kw_4_11, kw_1_15, kw_4_12, by decide, by decide, by decide +kernel⟩
theorem ks_X6_118 : ky_wS "Exactdoubles" 118 my_X0_joined prog_2_method_3_code 4 (Option.some Jvm.ClassFile.FieldType.long) 2 := ⟨kw_5_31, kw_3_121, kw_1_15, kw_3_122, by decide, by decide, by decide +kernel⟩
theorem ks_X6_122 : ky_wS "Exactdoubles" 122 my_X0_lastOf prog_2_method_17_code 4 (Option.some Jvm.ClassFile.FieldType.long) 2 := ⟨kw_1_125, kw_1_126, kw_1_15, kw_1_127, by decide, by decide, by decide +kernel⟩
theorem ks_X6_125 : ky_wS "Exactdoubles" 125 my_X0_firstOf prog_2_method_18_code 4 (Option.some Jvm.ClassFile.FieldType.long) 2 := ⟨kw_3_75, kw_3_76, kw_1_15, kw_3_77, by decide, by decide, by decide +kernel⟩
theorem ks_X6_128 : ky_wS "Exactdoubles" 128 my_X4_walkFrom prog_6_method_9_code 6 (Option.some Jvm.ClassFile.FieldType.long) 2 := ⟨kw_5_53, kw_5_54, kw_1_19, kw_5_55, by decide, by decide, by decide +kernel⟩
theorem ks_X6_134 : ky_wS "Exactdoubles" 134 my_X0_digitsIn prog_2_method_9_code 3 (Option.some Jvm.ClassFile.FieldType.int) 2 := ⟨kw_4_1, kw_3_163, kw_1_15, kw_3_164, by decide, by decide, by decide +kernel⟩
theorem ks_X6_142 : ky_wS "Exactdoubles" 142 my_X5_roundFrom prog_7_method_3_code 7 (Option.some Jvm.ClassFile.FieldType.long) 1 := ⟨kw_4_13, kw_3_192, kw_1_29, kw_3_193, by decide, by decide, by decide +kernel⟩
theorem ks_X6_147 : ky_wS "Exactdoubles" 147 my_X6_halfOf prog_1_method_64_code 3 (Option.some Jvm.ClassFile.FieldType.int) 2 := ⟨kw_4_14, kw_4_15, kw_1_1, kw_4_16, by decide, by decide, by decide +kernel⟩
theorem ks_X6_157 : ky_wS "Exactdoubles" 157 my_X5_shortFrom prog_7_method_4_code 2 (Option.some Jvm.ClassFile.FieldType.int) 1 := ⟨kw_4_26, kw_4_27, kw_1_29, kw_4_28, by decide, by decide, by decide +kernel⟩
theorem ks_X6_160 : ky_wS "Exactdoubles" 160 my_X6_signOf prog_1_method_65_code 2 (Option.some Jvm.ClassFile.FieldType.int) 1 := ⟨kw_4_37, kw_4_38, kw_1_1, kw_4_39, by decide, by decide, by decide +kernel⟩
theorem ks_X6_163 : ky_wS "Exactdoubles" 163 my_X0_isWholeOne prog_2_method_13_code 2 (Option.some Jvm.ClassFile.FieldType.boolean) 1 := ⟨kw_3_228, kw_3_229, kw_1_15, kw_3_230, by decide, by decide, by decide +kernel⟩
theorem ks_X6_166 : ky_wS "Exactdoubles" 166 my_X6_orderOf prog_1_method_66_code 4 (Option.some Jvm.ClassFile.FieldType.int) 2 := ⟨kw_4_59, kw_4_60, kw_1_1, kw_4_61, by decide, by decide, by decide +kernel⟩
theorem ks_X6_173 : ky_wS "Exactdoubles" 173 my_X6_stepsBetween prog_1_method_67_code 10 (Option.some Jvm.ClassFile.FieldType.int) 2 := ⟨kw_4_62, kw_4_63, kw_1_1, kw_4_64, by decide, by decide, by decide +kernel⟩
def dl_X0_sizeIn_0 : List (ByteArray × Nat × Jvm.ClassFile.Instr × Nat) := [(prog_2_method_5_code, 0, .lload_n 0, 1), (prog_2_method_5_code, 1, .ldc2_w 15, 3), (prog_2_method_5_code, 4, .land, 1), (prog_2_method_5_code, 5, .lreturn, 1), (prog_2_method_2_code, 0, .iload_n 2, 1), (prog_2_method_2_code, 1, .ifCond .eq 11, 3), (prog_2_method_2_code, 12, .lload_n 0, 1), (prog_2_method_2_code, 13, .lreturn, 1), (prog_2_method_2_code, 4, .lload_n 0, 1), (prog_2_method_2_code, 5, .ldc2_w 9, 3), (prog_2_method_2_code, 8, .lor, 1), (prog_2_method_2_code, 9, .goto 4, 3), (prog_2_method_3_code, 0, .lload_n 0, 1), (prog_2_method_3_code, 1, .invokestatic 11, 3), (prog_2_method_3_code, 4, .lload_n 2, 1), (prog_2_method_3_code, 5, .ldc2_w 9, 3), (prog_2_method_3_code, 8, .land, 1), (prog_2_method_3_code, 9, .lor, 1), (prog_2_method_3_code, 10, .lreturn, 1), (prog_2_method_4_code, 0, .lload_n 0, 1), (prog_2_method_4_code, 1, .ldc2_w 9, 3), (prog_2_method_4_code, 4, .lxor, 1), (prog_2_method_4_code, 5, .lreturn, 1), (prog_2_method_6_code, 0, .lload_n 0, 1), (prog_2_method_6_code, 1, .lconst 0, 1), (prog_2_method_6_code, 2, .lcmp, 1), (prog_2_method_6_code, 3, .ifCond .ge 7, 3), (prog_2_method_6_code, 10, .iconst 0, 1), (prog_2_method_6_code, 11, .ireturn, 1), (prog_2_method_6_code, 6, .iconst 1, 1), (prog_2_method_6_code, 7, .goto 4, 3), (prog_2_method_7_code, 0, .lload_n 0, 1), (prog_2_method_7_code, 1, .bipush 52, 2), (prog_2_method_7_code, 3, .lushr, 1), (prog_2_method_7_code, 4, .l2i, 1), (prog_2_method_7_code, 5, .sipush 2047, 3), (prog_2_method_7_code, 8, .iand, 1), (prog_2_method_7_code, 9, .ireturn, 1), (prog_2_method_8_code, 0, .lload_n 0, 1), (prog_2_method_8_code, 1, .ldc2_w 17, 3), (prog_2_method_8_code, 4, .land, 1), (prog_2_method_8_code, 5, .lreturn, 1), (prog_2_method_9_code, 0, .iload_n 2, 1), (prog_2_method_9_code, 1, .tableswitch 54 0 2 #[27, 40, 45], 27), (prog_2_method_9_code, 28, .lload_n 0, 1), (prog_2_method_9_code, 29, .invokestatic 19, 3), (prog_2_method_9_code, 32, .ifCond .eq 7, 3), (prog_2_method_9_code, 39, .iconst 0, 1), (prog_2_method_9_code, 40, .ireturn, 1), (prog_2_method_9_code, 35, .iconst 1, 1), (prog_2_method_9_code, 36, .goto 4, 3), (prog_2_method_9_code, 41, .lload_n 0, 1), (prog_2_method_9_code, 42, .invokestatic 23, 3), (prog_2_method_9_code, 45, .ireturn, 1), (prog_2_method_9_code, 46, .lload_n 0, 1), (prog_2_method_9_code, 47, .invokestatic 27, 3), (prog_2_method_9_code, 50, .bipush 32, 2), (prog_2_method_9_code, 52, .lushr, 1), (prog_2_method_9_code, 53, .l2i, 1), (prog_2_method_9_code, 54, .ireturn, 1)]
theorem db_X0_sizeIn_0 : dl_X0_sizeIn_0.all (fun x => decide (decode x.1 x.2.1 = .ok x.2.2)) = true := by decide +kernel
theorem dc_X0_sizeIn_0 : decode prog_2_method_5_code 0 = .ok (.lload_n 0, 1) := ky_dc db_X0_sizeIn_0 0 rfl
theorem dc_X0_sizeIn_1 : decode prog_2_method_5_code 1 = .ok (.ldc2_w 15, 3) := ky_dc db_X0_sizeIn_0 1 rfl
theorem dc_X0_sizeIn_4 : decode prog_2_method_5_code 4 = .ok (.land, 1) := ky_dc db_X0_sizeIn_0 2 rfl
theorem dc_X0_sizeIn_5 : decode prog_2_method_5_code 5 = .ok (.lreturn, 1) := ky_dc db_X0_sizeIn_0 3 rfl
theorem dc_X0_withSide_0 : decode prog_2_method_2_code 0 = .ok (.iload_n 2, 1) := ky_dc db_X0_sizeIn_0 4 rfl
theorem dc_X0_withSide_1 : decode prog_2_method_2_code 1 = .ok (.ifCond .eq 11, 3) := ky_dc db_X0_sizeIn_0 5 rfl
theorem dc_X0_withSide_12 : decode prog_2_method_2_code 12 = .ok (.lload_n 0, 1) := ky_dc db_X0_sizeIn_0 6 rfl
theorem dc_X0_withSide_13 : decode prog_2_method_2_code 13 = .ok (.lreturn, 1) := ky_dc db_X0_sizeIn_0 7 rfl
theorem dc_X0_withSide_4 : decode prog_2_method_2_code 4 = .ok (.lload_n 0, 1) := ky_dc db_X0_sizeIn_0 8 rfl
theorem dc_X0_withSide_5 : decode prog_2_method_2_code 5 = .ok (.ldc2_w 9, 3) := ky_dc db_X0_sizeIn_0 9 rfl
theorem dc_X0_withSide_8 : decode prog_2_method_2_code 8 = .ok (.lor, 1) := ky_dc db_X0_sizeIn_0 10 rfl
theorem dc_X0_withSide_9 : decode prog_2_method_2_code 9 = .ok (.goto 4, 3) := ky_dc db_X0_sizeIn_0 11 rfl
theorem dc_X0_joined_0 : decode prog_2_method_3_code 0 = .ok (.lload_n 0, 1) := ky_dc db_X0_sizeIn_0 12 rfl
theorem dc_X0_joined_1 : decode prog_2_method_3_code 1 = .ok (.invokestatic 11, 3) := ky_dc db_X0_sizeIn_0 13 rfl
theorem dc_X0_joined_4 : decode prog_2_method_3_code 4 = .ok (.lload_n 2, 1) := ky_dc db_X0_sizeIn_0 14 rfl
theorem dc_X0_joined_5 : decode prog_2_method_3_code 5 = .ok (.ldc2_w 9, 3) := ky_dc db_X0_sizeIn_0 15 rfl
theorem dc_X0_joined_8 : decode prog_2_method_3_code 8 = .ok (.land, 1) := ky_dc db_X0_sizeIn_0 16 rfl
theorem dc_X0_joined_9 : decode prog_2_method_3_code 9 = .ok (.lor, 1) := ky_dc db_X0_sizeIn_0 17 rfl
theorem dc_X0_joined_10 : decode prog_2_method_3_code 10 = .ok (.lreturn, 1) := ky_dc db_X0_sizeIn_0 18 rfl
theorem dc_X0_turned_0 : decode prog_2_method_4_code 0 = .ok (.lload_n 0, 1) := ky_dc db_X0_sizeIn_0 19 rfl
theorem dc_X0_turned_1 : decode prog_2_method_4_code 1 = .ok (.ldc2_w 9, 3) := ky_dc db_X0_sizeIn_0 20 rfl
theorem dc_X0_turned_4 : decode prog_2_method_4_code 4 = .ok (.lxor, 1) := ky_dc db_X0_sizeIn_0 21 rfl
theorem dc_X0_turned_5 : decode prog_2_method_4_code 5 = .ok (.lreturn, 1) := ky_dc db_X0_sizeIn_0 22 rfl
theorem dc_X0_isDownOne_0 : decode prog_2_method_6_code 0 = .ok (.lload_n 0, 1) := ky_dc db_X0_sizeIn_0 23 rfl
theorem dc_X0_isDownOne_1 : decode prog_2_method_6_code 1 = .ok (.lconst 0, 1) := ky_dc db_X0_sizeIn_0 24 rfl
theorem dc_X0_isDownOne_2 : decode prog_2_method_6_code 2 = .ok (.lcmp, 1) := ky_dc db_X0_sizeIn_0 25 rfl
theorem dc_X0_isDownOne_3 : decode prog_2_method_6_code 3 = .ok (.ifCond .ge 7, 3) := ky_dc db_X0_sizeIn_0 26 rfl
theorem dc_X0_isDownOne_10 : decode prog_2_method_6_code 10 = .ok (.iconst 0, 1) := ky_dc db_X0_sizeIn_0 27 rfl
theorem dc_X0_isDownOne_11 : decode prog_2_method_6_code 11 = .ok (.ireturn, 1) := ky_dc db_X0_sizeIn_0 28 rfl
theorem dc_X0_isDownOne_6 : decode prog_2_method_6_code 6 = .ok (.iconst 1, 1) := ky_dc db_X0_sizeIn_0 29 rfl
theorem dc_X0_isDownOne_7 : decode prog_2_method_6_code 7 = .ok (.goto 4, 3) := ky_dc db_X0_sizeIn_0 30 rfl
theorem dc_X0_highIn_0 : decode prog_2_method_7_code 0 = .ok (.lload_n 0, 1) := ky_dc db_X0_sizeIn_0 31 rfl
theorem dc_X0_highIn_1 : decode prog_2_method_7_code 1 = .ok (.bipush 52, 2) := ky_dc db_X0_sizeIn_0 32 rfl
theorem dc_X0_highIn_3 : decode prog_2_method_7_code 3 = .ok (.lushr, 1) := ky_dc db_X0_sizeIn_0 33 rfl
theorem dc_X0_highIn_4 : decode prog_2_method_7_code 4 = .ok (.l2i, 1) := ky_dc db_X0_sizeIn_0 34 rfl
theorem dc_X0_highIn_5 : decode prog_2_method_7_code 5 = .ok (.sipush 2047, 3) := ky_dc db_X0_sizeIn_0 35 rfl
theorem dc_X0_highIn_8 : decode prog_2_method_7_code 8 = .ok (.iand, 1) := ky_dc db_X0_sizeIn_0 36 rfl
theorem dc_X0_highIn_9 : decode prog_2_method_7_code 9 = .ok (.ireturn, 1) := ky_dc db_X0_sizeIn_0 37 rfl
theorem dc_X0_lowIn_0 : decode prog_2_method_8_code 0 = .ok (.lload_n 0, 1) := ky_dc db_X0_sizeIn_0 38 rfl
theorem dc_X0_lowIn_1 : decode prog_2_method_8_code 1 = .ok (.ldc2_w 17, 3) := ky_dc db_X0_sizeIn_0 39 rfl
theorem dc_X0_lowIn_4 : decode prog_2_method_8_code 4 = .ok (.land, 1) := ky_dc db_X0_sizeIn_0 40 rfl
theorem dc_X0_lowIn_5 : decode prog_2_method_8_code 5 = .ok (.lreturn, 1) := ky_dc db_X0_sizeIn_0 41 rfl
theorem dc_X0_digitsIn_0 : decode prog_2_method_9_code 0 = .ok (.iload_n 2, 1) := ky_dc db_X0_sizeIn_0 42 rfl
theorem dc_X0_digitsIn_1 : decode prog_2_method_9_code 1 = .ok (.tableswitch 54 0 2 #[27, 40, 45], 27) := ky_dc db_X0_sizeIn_0 43 rfl
theorem dc_X0_digitsIn_28 : decode prog_2_method_9_code 28 = .ok (.lload_n 0, 1) := ky_dc db_X0_sizeIn_0 44 rfl
theorem dc_X0_digitsIn_29 : decode prog_2_method_9_code 29 = .ok (.invokestatic 19, 3) := ky_dc db_X0_sizeIn_0 45 rfl
theorem dc_X0_digitsIn_32 : decode prog_2_method_9_code 32 = .ok (.ifCond .eq 7, 3) := ky_dc db_X0_sizeIn_0 46 rfl
theorem dc_X0_digitsIn_39 : decode prog_2_method_9_code 39 = .ok (.iconst 0, 1) := ky_dc db_X0_sizeIn_0 47 rfl
theorem dc_X0_digitsIn_40 : decode prog_2_method_9_code 40 = .ok (.ireturn, 1) := ky_dc db_X0_sizeIn_0 48 rfl
theorem dc_X0_digitsIn_35 : decode prog_2_method_9_code 35 = .ok (.iconst 1, 1) := ky_dc db_X0_sizeIn_0 49 rfl
theorem dc_X0_digitsIn_36 : decode prog_2_method_9_code 36 = .ok (.goto 4, 3) := ky_dc db_X0_sizeIn_0 50 rfl
theorem dc_X0_digitsIn_41 : decode prog_2_method_9_code 41 = .ok (.lload_n 0, 1) := ky_dc db_X0_sizeIn_0 51 rfl
theorem dc_X0_digitsIn_42 : decode prog_2_method_9_code 42 = .ok (.invokestatic 23, 3) := ky_dc db_X0_sizeIn_0 52 rfl
theorem dc_X0_digitsIn_45 : decode prog_2_method_9_code 45 = .ok (.ireturn, 1) := ky_dc db_X0_sizeIn_0 53 rfl
theorem dc_X0_digitsIn_46 : decode prog_2_method_9_code 46 = .ok (.lload_n 0, 1) := ky_dc db_X0_sizeIn_0 54 rfl
theorem dc_X0_digitsIn_47 : decode prog_2_method_9_code 47 = .ok (.invokestatic 27, 3) := ky_dc db_X0_sizeIn_0 55 rfl
theorem dc_X0_digitsIn_50 : decode prog_2_method_9_code 50 = .ok (.bipush 32, 2) := ky_dc db_X0_sizeIn_0 56 rfl
theorem dc_X0_digitsIn_52 : decode prog_2_method_9_code 52 = .ok (.lushr, 1) := ky_dc db_X0_sizeIn_0 57 rfl
theorem dc_X0_digitsIn_53 : decode prog_2_method_9_code 53 = .ok (.l2i, 1) := ky_dc db_X0_sizeIn_0 58 rfl
theorem dc_X0_digitsIn_54 : decode prog_2_method_9_code 54 = .ok (.ireturn, 1) := ky_dc db_X0_sizeIn_0 59 rfl
def dl_X0_digitsIn_55 : List (ByteArray × Nat × Jvm.ClassFile.Instr × Nat) := [(prog_2_method_9_code, 55, .lload_n 0, 1), (prog_2_method_9_code, 56, .invokestatic 27, 3), (prog_2_method_9_code, 59, .l2i, 1), (prog_2_method_9_code, 60, .ireturn, 1), (prog_2_method_10_code, 0, .lload_n 0, 1), (prog_2_method_10_code, 1, .invokestatic 23, 3), (prog_2_method_10_code, 4, .sipush 1023, 3), (prog_2_method_10_code, 7, .isub, 1), (prog_2_method_10_code, 8, .ireturn, 1), (prog_2_method_11_code, 0, .lload_n 0, 1), (prog_2_method_11_code, 1, .invokestatic 11, 3), (prog_2_method_11_code, 4, .ldc2_w 30, 3), (prog_2_method_11_code, 7, .lcmp, 1), (prog_2_method_11_code, 8, .ifCond .gt 7, 3), (prog_2_method_11_code, 15, .iconst 0, 1), (prog_2_method_11_code, 16, .ireturn, 1), (prog_2_method_11_code, 11, .iconst 1, 1), (prog_2_method_11_code, 12, .goto 4, 3), (prog_2_method_12_code, 0, .lload_n 0, 1), (prog_2_method_12_code, 1, .invokestatic 11, 3), (prog_2_method_12_code, 4, .ldc2_w 30, 3), (prog_2_method_12_code, 7, .lcmp, 1), (prog_2_method_12_code, 8, .ifCond .ne 7, 3), (prog_2_method_12_code, 15, .iconst 0, 1), (prog_2_method_12_code, 16, .ireturn, 1), (prog_2_method_12_code, 11, .iconst 1, 1), (prog_2_method_12_code, 12, .goto 4, 3), (prog_2_method_19_code, 0, .lload_n 0, 1), (prog_2_method_19_code, 1, .invokestatic 23, 3), (prog_2_method_19_code, 4, .ifCond .ne 10, 3), (prog_2_method_19_code, 14, .lload_n 0, 1), (prog_2_method_19_code, 15, .invokestatic 27, 3), (prog_2_method_19_code, 18, .ldc2_w 43, 3), (prog_2_method_19_code, 21, .ladd, 1), (prog_2_method_19_code, 22, .lreturn, 1), (prog_2_method_19_code, 7, .lload_n 0, 1), (prog_2_method_19_code, 8, .invokestatic 27, 3), (prog_2_method_19_code, 11, .goto 11, 3), (prog_2_method_20_code, 0, .lload_n 0, 1), (prog_2_method_20_code, 1, .invokestatic 23, 3), (prog_2_method_20_code, 4, .iconst 1, 1), (prog_2_method_20_code, 5, .invokestatic 45, 3), (prog_2_method_20_code, 8, .sipush (-1074), 3), (prog_2_method_20_code, 11, .iadd, 1), (prog_2_method_20_code, 12, .iconst 1, 1), (prog_2_method_20_code, 13, .isub, 1), (prog_2_method_20_code, 14, .ireturn, 1), (prog_2_method_21_code, 0, .iconst 0, 1), (prog_2_method_21_code, 1, .bipush 60, 2), (prog_2_method_21_code, 3, .sipush 1075, 3), (prog_2_method_21_code, 6, .lload_n 0, 1), (prog_2_method_21_code, 7, .invokestatic 23, 3), (prog_2_method_21_code, 10, .isub, 1), (prog_2_method_21_code, 11, .invokestatic 51, 3), (prog_2_method_21_code, 14, .invokestatic 45, 3), (prog_2_method_21_code, 17, .ireturn, 1), (prog_2_method_22_code, 0, .lload_n 0, 1), (prog_2_method_22_code, 1, .invokestatic 54, 3), (prog_2_method_22_code, 4, .lload_n 0, 1), (prog_2_method_22_code, 5, .invokestatic 57, 3)]
theorem db_X0_digitsIn_55 : dl_X0_digitsIn_55.all (fun x => decide (decode x.1 x.2.1 = .ok x.2.2)) = true := by decide +kernel
theorem dc_X0_digitsIn_55 : decode prog_2_method_9_code 55 = .ok (.lload_n 0, 1) := ky_dc db_X0_digitsIn_55 0 rfl
theorem dc_X0_digitsIn_56 : decode prog_2_method_9_code 56 = .ok (.invokestatic 27, 3) := ky_dc db_X0_digitsIn_55 1 rfl
theorem dc_X0_digitsIn_59 : decode prog_2_method_9_code 59 = .ok (.l2i, 1) := ky_dc db_X0_digitsIn_55 2 rfl
theorem dc_X0_digitsIn_60 : decode prog_2_method_9_code 60 = .ok (.ireturn, 1) := ky_dc db_X0_digitsIn_55 3 rfl
theorem dc_X0_exponentIn_0 : decode prog_2_method_10_code 0 = .ok (.lload_n 0, 1) := ky_dc db_X0_digitsIn_55 4 rfl
theorem dc_X0_exponentIn_1 : decode prog_2_method_10_code 1 = .ok (.invokestatic 23, 3) := ky_dc db_X0_digitsIn_55 5 rfl
theorem dc_X0_exponentIn_4 : decode prog_2_method_10_code 4 = .ok (.sipush 1023, 3) := ky_dc db_X0_digitsIn_55 6 rfl
theorem dc_X0_exponentIn_7 : decode prog_2_method_10_code 7 = .ok (.isub, 1) := ky_dc db_X0_digitsIn_55 7 rfl
theorem dc_X0_exponentIn_8 : decode prog_2_method_10_code 8 = .ok (.ireturn, 1) := ky_dc db_X0_digitsIn_55 8 rfl
theorem dc_X0_isNumber_0 : decode prog_2_method_11_code 0 = .ok (.lload_n 0, 1) := ky_dc db_X0_digitsIn_55 9 rfl
theorem dc_X0_isNumber_1 : decode prog_2_method_11_code 1 = .ok (.invokestatic 11, 3) := ky_dc db_X0_digitsIn_55 10 rfl
theorem dc_X0_isNumber_4 : decode prog_2_method_11_code 4 = .ok (.ldc2_w 30, 3) := ky_dc db_X0_digitsIn_55 11 rfl
theorem dc_X0_isNumber_7 : decode prog_2_method_11_code 7 = .ok (.lcmp, 1) := ky_dc db_X0_digitsIn_55 12 rfl
theorem dc_X0_isNumber_8 : decode prog_2_method_11_code 8 = .ok (.ifCond .gt 7, 3) := ky_dc db_X0_digitsIn_55 13 rfl
theorem dc_X0_isNumber_15 : decode prog_2_method_11_code 15 = .ok (.iconst 0, 1) := ky_dc db_X0_digitsIn_55 14 rfl
theorem dc_X0_isNumber_16 : decode prog_2_method_11_code 16 = .ok (.ireturn, 1) := ky_dc db_X0_digitsIn_55 15 rfl
theorem dc_X0_isNumber_11 : decode prog_2_method_11_code 11 = .ok (.iconst 1, 1) := ky_dc db_X0_digitsIn_55 16 rfl
theorem dc_X0_isNumber_12 : decode prog_2_method_11_code 12 = .ok (.goto 4, 3) := ky_dc db_X0_digitsIn_55 17 rfl
theorem dc_X0_isEndlessOne_0 : decode prog_2_method_12_code 0 = .ok (.lload_n 0, 1) := ky_dc db_X0_digitsIn_55 18 rfl
theorem dc_X0_isEndlessOne_1 : decode prog_2_method_12_code 1 = .ok (.invokestatic 11, 3) := ky_dc db_X0_digitsIn_55 19 rfl
theorem dc_X0_isEndlessOne_4 : decode prog_2_method_12_code 4 = .ok (.ldc2_w 30, 3) := ky_dc db_X0_digitsIn_55 20 rfl
theorem dc_X0_isEndlessOne_7 : decode prog_2_method_12_code 7 = .ok (.lcmp, 1) := ky_dc db_X0_digitsIn_55 21 rfl
theorem dc_X0_isEndlessOne_8 : decode prog_2_method_12_code 8 = .ok (.ifCond .ne 7, 3) := ky_dc db_X0_digitsIn_55 22 rfl
theorem dc_X0_isEndlessOne_15 : decode prog_2_method_12_code 15 = .ok (.iconst 0, 1) := ky_dc db_X0_digitsIn_55 23 rfl
theorem dc_X0_isEndlessOne_16 : decode prog_2_method_12_code 16 = .ok (.ireturn, 1) := ky_dc db_X0_digitsIn_55 24 rfl
theorem dc_X0_isEndlessOne_11 : decode prog_2_method_12_code 11 = .ok (.iconst 1, 1) := ky_dc db_X0_digitsIn_55 25 rfl
theorem dc_X0_isEndlessOne_12 : decode prog_2_method_12_code 12 = .ok (.goto 4, 3) := ky_dc db_X0_digitsIn_55 26 rfl
theorem dc_X0_factorIn_0 : decode prog_2_method_19_code 0 = .ok (.lload_n 0, 1) := ky_dc db_X0_digitsIn_55 27 rfl
theorem dc_X0_factorIn_1 : decode prog_2_method_19_code 1 = .ok (.invokestatic 23, 3) := ky_dc db_X0_digitsIn_55 28 rfl
theorem dc_X0_factorIn_4 : decode prog_2_method_19_code 4 = .ok (.ifCond .ne 10, 3) := ky_dc db_X0_digitsIn_55 29 rfl
theorem dc_X0_factorIn_14 : decode prog_2_method_19_code 14 = .ok (.lload_n 0, 1) := ky_dc db_X0_digitsIn_55 30 rfl
theorem dc_X0_factorIn_15 : decode prog_2_method_19_code 15 = .ok (.invokestatic 27, 3) := ky_dc db_X0_digitsIn_55 31 rfl
theorem dc_X0_factorIn_18 : decode prog_2_method_19_code 18 = .ok (.ldc2_w 43, 3) := ky_dc db_X0_digitsIn_55 32 rfl
theorem dc_X0_factorIn_21 : decode prog_2_method_19_code 21 = .ok (.ladd, 1) := ky_dc db_X0_digitsIn_55 33 rfl
theorem dc_X0_factorIn_22 : decode prog_2_method_19_code 22 = .ok (.lreturn, 1) := ky_dc db_X0_digitsIn_55 34 rfl
theorem dc_X0_factorIn_7 : decode prog_2_method_19_code 7 = .ok (.lload_n 0, 1) := ky_dc db_X0_digitsIn_55 35 rfl
theorem dc_X0_factorIn_8 : decode prog_2_method_19_code 8 = .ok (.invokestatic 27, 3) := ky_dc db_X0_digitsIn_55 36 rfl
theorem dc_X0_factorIn_11 : decode prog_2_method_19_code 11 = .ok (.goto 11, 3) := ky_dc db_X0_digitsIn_55 37 rfl
theorem dc_X0_powerIn_0 : decode prog_2_method_20_code 0 = .ok (.lload_n 0, 1) := ky_dc db_X0_digitsIn_55 38 rfl
theorem dc_X0_powerIn_1 : decode prog_2_method_20_code 1 = .ok (.invokestatic 23, 3) := ky_dc db_X0_digitsIn_55 39 rfl
theorem dc_X0_powerIn_4 : decode prog_2_method_20_code 4 = .ok (.iconst 1, 1) := ky_dc db_X0_digitsIn_55 40 rfl
theorem dc_X0_powerIn_5 : decode prog_2_method_20_code 5 = .ok (.invokestatic 45, 3) := ky_dc db_X0_digitsIn_55 41 rfl
theorem dc_X0_powerIn_8 : decode prog_2_method_20_code 8 = .ok (.sipush (-1074), 3) := ky_dc db_X0_digitsIn_55 42 rfl
theorem dc_X0_powerIn_11 : decode prog_2_method_20_code 11 = .ok (.iadd, 1) := ky_dc db_X0_digitsIn_55 43 rfl
theorem dc_X0_powerIn_12 : decode prog_2_method_20_code 12 = .ok (.iconst 1, 1) := ky_dc db_X0_digitsIn_55 44 rfl
theorem dc_X0_powerIn_13 : decode prog_2_method_20_code 13 = .ok (.isub, 1) := ky_dc db_X0_digitsIn_55 45 rfl
theorem dc_X0_powerIn_14 : decode prog_2_method_20_code 14 = .ok (.ireturn, 1) := ky_dc db_X0_digitsIn_55 46 rfl
theorem dc_X0_behindIn_0 : decode prog_2_method_21_code 0 = .ok (.iconst 0, 1) := ky_dc db_X0_digitsIn_55 47 rfl
theorem dc_X0_behindIn_1 : decode prog_2_method_21_code 1 = .ok (.bipush 60, 2) := ky_dc db_X0_digitsIn_55 48 rfl
theorem dc_X0_behindIn_3 : decode prog_2_method_21_code 3 = .ok (.sipush 1075, 3) := ky_dc db_X0_digitsIn_55 49 rfl
theorem dc_X0_behindIn_6 : decode prog_2_method_21_code 6 = .ok (.lload_n 0, 1) := ky_dc db_X0_digitsIn_55 50 rfl
theorem dc_X0_behindIn_7 : decode prog_2_method_21_code 7 = .ok (.invokestatic 23, 3) := ky_dc db_X0_digitsIn_55 51 rfl
theorem dc_X0_behindIn_10 : decode prog_2_method_21_code 10 = .ok (.isub, 1) := ky_dc db_X0_digitsIn_55 52 rfl
theorem dc_X0_behindIn_11 : decode prog_2_method_21_code 11 = .ok (.invokestatic 51, 3) := ky_dc db_X0_digitsIn_55 53 rfl
theorem dc_X0_behindIn_14 : decode prog_2_method_21_code 14 = .ok (.invokestatic 45, 3) := ky_dc db_X0_digitsIn_55 54 rfl
theorem dc_X0_behindIn_17 : decode prog_2_method_21_code 17 = .ok (.ireturn, 1) := ky_dc db_X0_digitsIn_55 55 rfl
theorem dc_X0_aheadIn_0 : decode prog_2_method_22_code 0 = .ok (.lload_n 0, 1) := ky_dc db_X0_digitsIn_55 56 rfl
theorem dc_X0_aheadIn_1 : decode prog_2_method_22_code 1 = .ok (.invokestatic 54, 3) := ky_dc db_X0_digitsIn_55 57 rfl
theorem dc_X0_aheadIn_4 : decode prog_2_method_22_code 4 = .ok (.lload_n 0, 1) := ky_dc db_X0_digitsIn_55 58 rfl
theorem dc_X0_aheadIn_5 : decode prog_2_method_22_code 5 = .ok (.invokestatic 57, 3) := ky_dc db_X0_digitsIn_55 59 rfl
def dl_X0_aheadIn_8 : List (ByteArray × Nat × Jvm.ClassFile.Instr × Nat) := [(prog_2_method_22_code, 8, .lushr, 1), (prog_2_method_22_code, 9, .lreturn, 1), (prog_2_method_23_code, 0, .lload_n 0, 1), (prog_2_method_23_code, 1, .invokestatic 54, 3), (prog_2_method_23_code, 4, .lconst 1, 1), (prog_2_method_23_code, 5, .lload_n 0, 1), (prog_2_method_23_code, 6, .invokestatic 57, 3), (prog_2_method_23_code, 9, .lshl, 1), (prog_2_method_23_code, 10, .lconst 1, 1), (prog_2_method_23_code, 11, .lsub, 1), (prog_2_method_23_code, 12, .land, 1), (prog_2_method_23_code, 13, .lreturn, 1), (prog_2_method_13_code, 0, .lload_n 0, 1), (prog_2_method_13_code, 1, .invokestatic 32, 3), (prog_2_method_13_code, 4, .lconst 0, 1), (prog_2_method_13_code, 5, .lcmp, 1), (prog_2_method_13_code, 6, .ifCond .ne 14, 3), (prog_2_method_13_code, 20, .iconst 0, 1), (prog_2_method_13_code, 21, .ireturn, 1), (prog_2_method_13_code, 9, .lload_n 0, 1), (prog_2_method_13_code, 10, .invokestatic 35, 3), (prog_2_method_13_code, 13, .ifCond .ne 7, 3), (prog_2_method_13_code, 16, .iconst 1, 1), (prog_2_method_13_code, 17, .goto 4, 3), (prog_2_method_14_code, 0, .lload_n 0, 1), (prog_2_method_14_code, 1, .invokestatic 11, 3), (prog_2_method_14_code, 4, .lconst 0, 1), (prog_2_method_14_code, 5, .lcmp, 1), (prog_2_method_14_code, 6, .ifCond .ne 5, 3), (prog_2_method_14_code, 11, .lload_n 0, 1), (prog_2_method_14_code, 12, .invokestatic 23, 3), (prog_2_method_14_code, 15, .ifCond .ne 5, 3), (prog_2_method_14_code, 20, .lload_n 0, 1), (prog_2_method_14_code, 21, .invokestatic 35, 3), (prog_2_method_14_code, 24, .ifCond .eq 5, 3), (prog_2_method_14_code, 29, .lload_n 0, 1), (prog_2_method_14_code, 30, .invokestatic 32, 3), (prog_2_method_14_code, 33, .lconst 0, 1), (prog_2_method_14_code, 34, .lcmp, 1), (prog_2_method_14_code, 35, .ifCond .ne 7, 3), (prog_2_method_14_code, 42, .iconst 2, 1), (prog_2_method_14_code, 43, .ireturn, 1), (prog_2_method_14_code, 38, .iconst 3, 1), (prog_2_method_14_code, 39, .goto 4, 3), (prog_2_method_14_code, 27, .iconst 4, 1), (prog_2_method_14_code, 28, .ireturn, 1), (prog_2_method_14_code, 18, .iconst 1, 1), (prog_2_method_14_code, 19, .ireturn, 1), (prog_2_method_14_code, 9, .iconst 0, 1), (prog_2_method_14_code, 10, .ireturn, 1), (prog_2_method_15_code, 0, .lload_n 0, 1), (prog_2_method_15_code, 1, .invokestatic 19, 3), (prog_2_method_15_code, 4, .ifCond .eq 11, 3), (prog_2_method_15_code, 15, .lload_n 0, 1), (prog_2_method_15_code, 16, .invokestatic 11, 3), (prog_2_method_15_code, 19, .lreturn, 1), (prog_2_method_15_code, 7, .lload_n 0, 1), (prog_2_method_15_code, 8, .invokestatic 11, 3), (prog_2_method_15_code, 11, .lneg, 1), (prog_2_method_15_code, 12, .goto 7, 3)]
theorem db_X0_aheadIn_8 : dl_X0_aheadIn_8.all (fun x => decide (decode x.1 x.2.1 = .ok x.2.2)) = true := by decide +kernel
theorem dc_X0_aheadIn_8 : decode prog_2_method_22_code 8 = .ok (.lushr, 1) := ky_dc db_X0_aheadIn_8 0 rfl
theorem dc_X0_aheadIn_9 : decode prog_2_method_22_code 9 = .ok (.lreturn, 1) := ky_dc db_X0_aheadIn_8 1 rfl
theorem dc_X0_restIn_0 : decode prog_2_method_23_code 0 = .ok (.lload_n 0, 1) := ky_dc db_X0_aheadIn_8 2 rfl
theorem dc_X0_restIn_1 : decode prog_2_method_23_code 1 = .ok (.invokestatic 54, 3) := ky_dc db_X0_aheadIn_8 3 rfl
theorem dc_X0_restIn_4 : decode prog_2_method_23_code 4 = .ok (.lconst 1, 1) := ky_dc db_X0_aheadIn_8 4 rfl
theorem dc_X0_restIn_5 : decode prog_2_method_23_code 5 = .ok (.lload_n 0, 1) := ky_dc db_X0_aheadIn_8 5 rfl
theorem dc_X0_restIn_6 : decode prog_2_method_23_code 6 = .ok (.invokestatic 57, 3) := ky_dc db_X0_aheadIn_8 6 rfl
theorem dc_X0_restIn_9 : decode prog_2_method_23_code 9 = .ok (.lshl, 1) := ky_dc db_X0_aheadIn_8 7 rfl
theorem dc_X0_restIn_10 : decode prog_2_method_23_code 10 = .ok (.lconst 1, 1) := ky_dc db_X0_aheadIn_8 8 rfl
theorem dc_X0_restIn_11 : decode prog_2_method_23_code 11 = .ok (.lsub, 1) := ky_dc db_X0_aheadIn_8 9 rfl
theorem dc_X0_restIn_12 : decode prog_2_method_23_code 12 = .ok (.land, 1) := ky_dc db_X0_aheadIn_8 10 rfl
theorem dc_X0_restIn_13 : decode prog_2_method_23_code 13 = .ok (.lreturn, 1) := ky_dc db_X0_aheadIn_8 11 rfl
theorem dc_X0_isWholeOne_0 : decode prog_2_method_13_code 0 = .ok (.lload_n 0, 1) := ky_dc db_X0_aheadIn_8 12 rfl
theorem dc_X0_isWholeOne_1 : decode prog_2_method_13_code 1 = .ok (.invokestatic 32, 3) := ky_dc db_X0_aheadIn_8 13 rfl
theorem dc_X0_isWholeOne_4 : decode prog_2_method_13_code 4 = .ok (.lconst 0, 1) := ky_dc db_X0_aheadIn_8 14 rfl
theorem dc_X0_isWholeOne_5 : decode prog_2_method_13_code 5 = .ok (.lcmp, 1) := ky_dc db_X0_aheadIn_8 15 rfl
theorem dc_X0_isWholeOne_6 : decode prog_2_method_13_code 6 = .ok (.ifCond .ne 14, 3) := ky_dc db_X0_aheadIn_8 16 rfl
theorem dc_X0_isWholeOne_20 : decode prog_2_method_13_code 20 = .ok (.iconst 0, 1) := ky_dc db_X0_aheadIn_8 17 rfl
theorem dc_X0_isWholeOne_21 : decode prog_2_method_13_code 21 = .ok (.ireturn, 1) := ky_dc db_X0_aheadIn_8 18 rfl
theorem dc_X0_isWholeOne_9 : decode prog_2_method_13_code 9 = .ok (.lload_n 0, 1) := ky_dc db_X0_aheadIn_8 19 rfl
theorem dc_X0_isWholeOne_10 : decode prog_2_method_13_code 10 = .ok (.invokestatic 35, 3) := ky_dc db_X0_aheadIn_8 20 rfl
theorem dc_X0_isWholeOne_13 : decode prog_2_method_13_code 13 = .ok (.ifCond .ne 7, 3) := ky_dc db_X0_aheadIn_8 21 rfl
theorem dc_X0_isWholeOne_16 : decode prog_2_method_13_code 16 = .ok (.iconst 1, 1) := ky_dc db_X0_aheadIn_8 22 rfl
theorem dc_X0_isWholeOne_17 : decode prog_2_method_13_code 17 = .ok (.goto 4, 3) := ky_dc db_X0_aheadIn_8 23 rfl
theorem dc_X0_kindIn_0 : decode prog_2_method_14_code 0 = .ok (.lload_n 0, 1) := ky_dc db_X0_aheadIn_8 24 rfl
theorem dc_X0_kindIn_1 : decode prog_2_method_14_code 1 = .ok (.invokestatic 11, 3) := ky_dc db_X0_aheadIn_8 25 rfl
theorem dc_X0_kindIn_4 : decode prog_2_method_14_code 4 = .ok (.lconst 0, 1) := ky_dc db_X0_aheadIn_8 26 rfl
theorem dc_X0_kindIn_5 : decode prog_2_method_14_code 5 = .ok (.lcmp, 1) := ky_dc db_X0_aheadIn_8 27 rfl
theorem dc_X0_kindIn_6 : decode prog_2_method_14_code 6 = .ok (.ifCond .ne 5, 3) := ky_dc db_X0_aheadIn_8 28 rfl
theorem dc_X0_kindIn_11 : decode prog_2_method_14_code 11 = .ok (.lload_n 0, 1) := ky_dc db_X0_aheadIn_8 29 rfl
theorem dc_X0_kindIn_12 : decode prog_2_method_14_code 12 = .ok (.invokestatic 23, 3) := ky_dc db_X0_aheadIn_8 30 rfl
theorem dc_X0_kindIn_15 : decode prog_2_method_14_code 15 = .ok (.ifCond .ne 5, 3) := ky_dc db_X0_aheadIn_8 31 rfl
theorem dc_X0_kindIn_20 : decode prog_2_method_14_code 20 = .ok (.lload_n 0, 1) := ky_dc db_X0_aheadIn_8 32 rfl
theorem dc_X0_kindIn_21 : decode prog_2_method_14_code 21 = .ok (.invokestatic 35, 3) := ky_dc db_X0_aheadIn_8 33 rfl
theorem dc_X0_kindIn_24 : decode prog_2_method_14_code 24 = .ok (.ifCond .eq 5, 3) := ky_dc db_X0_aheadIn_8 34 rfl
theorem dc_X0_kindIn_29 : decode prog_2_method_14_code 29 = .ok (.lload_n 0, 1) := ky_dc db_X0_aheadIn_8 35 rfl
theorem dc_X0_kindIn_30 : decode prog_2_method_14_code 30 = .ok (.invokestatic 32, 3) := ky_dc db_X0_aheadIn_8 36 rfl
theorem dc_X0_kindIn_33 : decode prog_2_method_14_code 33 = .ok (.lconst 0, 1) := ky_dc db_X0_aheadIn_8 37 rfl
theorem dc_X0_kindIn_34 : decode prog_2_method_14_code 34 = .ok (.lcmp, 1) := ky_dc db_X0_aheadIn_8 38 rfl
theorem dc_X0_kindIn_35 : decode prog_2_method_14_code 35 = .ok (.ifCond .ne 7, 3) := ky_dc db_X0_aheadIn_8 39 rfl
theorem dc_X0_kindIn_42 : decode prog_2_method_14_code 42 = .ok (.iconst 2, 1) := ky_dc db_X0_aheadIn_8 40 rfl
theorem dc_X0_kindIn_43 : decode prog_2_method_14_code 43 = .ok (.ireturn, 1) := ky_dc db_X0_aheadIn_8 41 rfl
theorem dc_X0_kindIn_38 : decode prog_2_method_14_code 38 = .ok (.iconst 3, 1) := ky_dc db_X0_aheadIn_8 42 rfl
theorem dc_X0_kindIn_39 : decode prog_2_method_14_code 39 = .ok (.goto 4, 3) := ky_dc db_X0_aheadIn_8 43 rfl
theorem dc_X0_kindIn_27 : decode prog_2_method_14_code 27 = .ok (.iconst 4, 1) := ky_dc db_X0_aheadIn_8 44 rfl
theorem dc_X0_kindIn_28 : decode prog_2_method_14_code 28 = .ok (.ireturn, 1) := ky_dc db_X0_aheadIn_8 45 rfl
theorem dc_X0_kindIn_18 : decode prog_2_method_14_code 18 = .ok (.iconst 1, 1) := ky_dc db_X0_aheadIn_8 46 rfl
theorem dc_X0_kindIn_19 : decode prog_2_method_14_code 19 = .ok (.ireturn, 1) := ky_dc db_X0_aheadIn_8 47 rfl
theorem dc_X0_kindIn_9 : decode prog_2_method_14_code 9 = .ok (.iconst 0, 1) := ky_dc db_X0_aheadIn_8 48 rfl
theorem dc_X0_kindIn_10 : decode prog_2_method_14_code 10 = .ok (.ireturn, 1) := ky_dc db_X0_aheadIn_8 49 rfl
theorem dc_X0_rungIn_0 : decode prog_2_method_15_code 0 = .ok (.lload_n 0, 1) := ky_dc db_X0_aheadIn_8 50 rfl
theorem dc_X0_rungIn_1 : decode prog_2_method_15_code 1 = .ok (.invokestatic 19, 3) := ky_dc db_X0_aheadIn_8 51 rfl
theorem dc_X0_rungIn_4 : decode prog_2_method_15_code 4 = .ok (.ifCond .eq 11, 3) := ky_dc db_X0_aheadIn_8 52 rfl
theorem dc_X0_rungIn_15 : decode prog_2_method_15_code 15 = .ok (.lload_n 0, 1) := ky_dc db_X0_aheadIn_8 53 rfl
theorem dc_X0_rungIn_16 : decode prog_2_method_15_code 16 = .ok (.invokestatic 11, 3) := ky_dc db_X0_aheadIn_8 54 rfl
theorem dc_X0_rungIn_19 : decode prog_2_method_15_code 19 = .ok (.lreturn, 1) := ky_dc db_X0_aheadIn_8 55 rfl
theorem dc_X0_rungIn_7 : decode prog_2_method_15_code 7 = .ok (.lload_n 0, 1) := ky_dc db_X0_aheadIn_8 56 rfl
theorem dc_X0_rungIn_8 : decode prog_2_method_15_code 8 = .ok (.invokestatic 11, 3) := ky_dc db_X0_aheadIn_8 57 rfl
theorem dc_X0_rungIn_11 : decode prog_2_method_15_code 11 = .ok (.lneg, 1) := ky_dc db_X0_aheadIn_8 58 rfl
theorem dc_X0_rungIn_12 : decode prog_2_method_15_code 12 = .ok (.goto 7, 3) := ky_dc db_X0_aheadIn_8 59 rfl
def dl_X0_rankIn_0 : List (ByteArray × Nat × Jvm.ClassFile.Instr × Nat) := [(prog_2_method_16_code, 0, .lload_n 0, 1), (prog_2_method_16_code, 1, .invokestatic 19, 3), (prog_2_method_16_code, 4, .ifCond .eq 14, 3), (prog_2_method_16_code, 18, .lload_n 0, 1), (prog_2_method_16_code, 19, .invokestatic 11, 3), (prog_2_method_16_code, 22, .lreturn, 1), (prog_2_method_16_code, 7, .ldc2_w 38, 3), (prog_2_method_16_code, 10, .lload_n 0, 1), (prog_2_method_16_code, 11, .invokestatic 11, 3), (prog_2_method_16_code, 14, .lsub, 1), (prog_2_method_16_code, 15, .goto 7, 3), (prog_2_method_17_code, 0, .lload_n 0, 1), (prog_2_method_17_code, 1, .invokestatic 40, 3), (prog_2_method_17_code, 4, .lload_n 2, 1), (prog_2_method_17_code, 5, .invokestatic 40, 3), (prog_2_method_17_code, 8, .lcmp, 1), (prog_2_method_17_code, 9, .ifCond .lt 7, 3), (prog_2_method_17_code, 16, .lload_n 2, 1), (prog_2_method_17_code, 17, .lreturn, 1), (prog_2_method_17_code, 12, .lload_n 0, 1), (prog_2_method_17_code, 13, .goto 4, 3), (prog_2_method_18_code, 0, .lload_n 0, 1), (prog_2_method_18_code, 1, .invokestatic 40, 3), (prog_2_method_18_code, 4, .lload_n 2, 1), (prog_2_method_18_code, 5, .invokestatic 40, 3), (prog_2_method_18_code, 8, .lcmp, 1), (prog_2_method_18_code, 9, .ifCond .gt 7, 3), (prog_2_method_18_code, 16, .lload_n 2, 1), (prog_2_method_18_code, 17, .lreturn, 1), (prog_2_method_18_code, 12, .lload_n 0, 1), (prog_2_method_18_code, 13, .goto 4, 3), (prog_4_method_4_code, 0, .lload_n 0, 1), (prog_4_method_4_code, 1, .iload_n 2, 1), (prog_4_method_4_code, 2, .lushr, 1), (prog_4_method_4_code, 3, .lstore_n 3, 1), (prog_4_method_4_code, 4, .lload_n 0, 1), (prog_4_method_4_code, 5, .lconst 1, 1), (prog_4_method_4_code, 6, .iload_n 2, 1), (prog_4_method_4_code, 7, .lshl, 1), (prog_4_method_4_code, 8, .lconst 1, 1), (prog_4_method_4_code, 9, .lsub, 1), (prog_4_method_4_code, 10, .land, 1), (prog_4_method_4_code, 11, .lstore 5, 2), (prog_4_method_4_code, 13, .lconst 1, 1), (prog_4_method_4_code, 14, .iload_n 2, 1), (prog_4_method_4_code, 15, .iconst 1, 1), (prog_4_method_4_code, 16, .isub, 1), (prog_4_method_4_code, 17, .lshl, 1), (prog_4_method_4_code, 18, .lstore 7, 2), (prog_4_method_4_code, 20, .lload 5, 2), (prog_4_method_4_code, 22, .lload 7, 2), (prog_4_method_4_code, 24, .lcmp, 1), (prog_4_method_4_code, 25, .ifCond .gt 19, 3), (prog_4_method_4_code, 44, .iconst 1, 1), (prog_4_method_4_code, 45, .goto 4, 3), (prog_4_method_4_code, 49, .istore 9, 2), (prog_4_method_4_code, 51, .iload 9, 2), (prog_4_method_4_code, 53, .ifCond .eq 9, 3), (prog_4_method_4_code, 56, .lload_n 3, 1), (prog_4_method_4_code, 57, .lconst 1, 1)]
theorem db_X0_rankIn_0 : dl_X0_rankIn_0.all (fun x => decide (decode x.1 x.2.1 = .ok x.2.2)) = true := by decide +kernel
theorem dc_X0_rankIn_0 : decode prog_2_method_16_code 0 = .ok (.lload_n 0, 1) := ky_dc db_X0_rankIn_0 0 rfl
theorem dc_X0_rankIn_1 : decode prog_2_method_16_code 1 = .ok (.invokestatic 19, 3) := ky_dc db_X0_rankIn_0 1 rfl
theorem dc_X0_rankIn_4 : decode prog_2_method_16_code 4 = .ok (.ifCond .eq 14, 3) := ky_dc db_X0_rankIn_0 2 rfl
theorem dc_X0_rankIn_18 : decode prog_2_method_16_code 18 = .ok (.lload_n 0, 1) := ky_dc db_X0_rankIn_0 3 rfl
theorem dc_X0_rankIn_19 : decode prog_2_method_16_code 19 = .ok (.invokestatic 11, 3) := ky_dc db_X0_rankIn_0 4 rfl
theorem dc_X0_rankIn_22 : decode prog_2_method_16_code 22 = .ok (.lreturn, 1) := ky_dc db_X0_rankIn_0 5 rfl
theorem dc_X0_rankIn_7 : decode prog_2_method_16_code 7 = .ok (.ldc2_w 38, 3) := ky_dc db_X0_rankIn_0 6 rfl
theorem dc_X0_rankIn_10 : decode prog_2_method_16_code 10 = .ok (.lload_n 0, 1) := ky_dc db_X0_rankIn_0 7 rfl
theorem dc_X0_rankIn_11 : decode prog_2_method_16_code 11 = .ok (.invokestatic 11, 3) := ky_dc db_X0_rankIn_0 8 rfl
theorem dc_X0_rankIn_14 : decode prog_2_method_16_code 14 = .ok (.lsub, 1) := ky_dc db_X0_rankIn_0 9 rfl
theorem dc_X0_rankIn_15 : decode prog_2_method_16_code 15 = .ok (.goto 7, 3) := ky_dc db_X0_rankIn_0 10 rfl
theorem dc_X0_lastOf_0 : decode prog_2_method_17_code 0 = .ok (.lload_n 0, 1) := ky_dc db_X0_rankIn_0 11 rfl
theorem dc_X0_lastOf_1 : decode prog_2_method_17_code 1 = .ok (.invokestatic 40, 3) := ky_dc db_X0_rankIn_0 12 rfl
theorem dc_X0_lastOf_4 : decode prog_2_method_17_code 4 = .ok (.lload_n 2, 1) := ky_dc db_X0_rankIn_0 13 rfl
theorem dc_X0_lastOf_5 : decode prog_2_method_17_code 5 = .ok (.invokestatic 40, 3) := ky_dc db_X0_rankIn_0 14 rfl
theorem dc_X0_lastOf_8 : decode prog_2_method_17_code 8 = .ok (.lcmp, 1) := ky_dc db_X0_rankIn_0 15 rfl
theorem dc_X0_lastOf_9 : decode prog_2_method_17_code 9 = .ok (.ifCond .lt 7, 3) := ky_dc db_X0_rankIn_0 16 rfl
theorem dc_X0_lastOf_16 : decode prog_2_method_17_code 16 = .ok (.lload_n 2, 1) := ky_dc db_X0_rankIn_0 17 rfl
theorem dc_X0_lastOf_17 : decode prog_2_method_17_code 17 = .ok (.lreturn, 1) := ky_dc db_X0_rankIn_0 18 rfl
theorem dc_X0_lastOf_12 : decode prog_2_method_17_code 12 = .ok (.lload_n 0, 1) := ky_dc db_X0_rankIn_0 19 rfl
theorem dc_X0_lastOf_13 : decode prog_2_method_17_code 13 = .ok (.goto 4, 3) := ky_dc db_X0_rankIn_0 20 rfl
theorem dc_X0_firstOf_0 : decode prog_2_method_18_code 0 = .ok (.lload_n 0, 1) := ky_dc db_X0_rankIn_0 21 rfl
theorem dc_X0_firstOf_1 : decode prog_2_method_18_code 1 = .ok (.invokestatic 40, 3) := ky_dc db_X0_rankIn_0 22 rfl
theorem dc_X0_firstOf_4 : decode prog_2_method_18_code 4 = .ok (.lload_n 2, 1) := ky_dc db_X0_rankIn_0 23 rfl
theorem dc_X0_firstOf_5 : decode prog_2_method_18_code 5 = .ok (.invokestatic 40, 3) := ky_dc db_X0_rankIn_0 24 rfl
theorem dc_X0_firstOf_8 : decode prog_2_method_18_code 8 = .ok (.lcmp, 1) := ky_dc db_X0_rankIn_0 25 rfl
theorem dc_X0_firstOf_9 : decode prog_2_method_18_code 9 = .ok (.ifCond .gt 7, 3) := ky_dc db_X0_rankIn_0 26 rfl
theorem dc_X0_firstOf_16 : decode prog_2_method_18_code 16 = .ok (.lload_n 2, 1) := ky_dc db_X0_rankIn_0 27 rfl
theorem dc_X0_firstOf_17 : decode prog_2_method_18_code 17 = .ok (.lreturn, 1) := ky_dc db_X0_rankIn_0 28 rfl
theorem dc_X0_firstOf_12 : decode prog_2_method_18_code 12 = .ok (.lload_n 0, 1) := ky_dc db_X0_rankIn_0 29 rfl
theorem dc_X0_firstOf_13 : decode prog_2_method_18_code 13 = .ok (.goto 4, 3) := ky_dc db_X0_rankIn_0 30 rfl
theorem dc_X2_halvedOften_0 : decode prog_4_method_4_code 0 = .ok (.lload_n 0, 1) := ky_dc db_X0_rankIn_0 31 rfl
theorem dc_X2_halvedOften_1 : decode prog_4_method_4_code 1 = .ok (.iload_n 2, 1) := ky_dc db_X0_rankIn_0 32 rfl
theorem dc_X2_halvedOften_2 : decode prog_4_method_4_code 2 = .ok (.lushr, 1) := ky_dc db_X0_rankIn_0 33 rfl
theorem dc_X2_halvedOften_3 : decode prog_4_method_4_code 3 = .ok (.lstore_n 3, 1) := ky_dc db_X0_rankIn_0 34 rfl
theorem dc_X2_halvedOften_4 : decode prog_4_method_4_code 4 = .ok (.lload_n 0, 1) := ky_dc db_X0_rankIn_0 35 rfl
theorem dc_X2_halvedOften_5 : decode prog_4_method_4_code 5 = .ok (.lconst 1, 1) := ky_dc db_X0_rankIn_0 36 rfl
theorem dc_X2_halvedOften_6 : decode prog_4_method_4_code 6 = .ok (.iload_n 2, 1) := ky_dc db_X0_rankIn_0 37 rfl
theorem dc_X2_halvedOften_7 : decode prog_4_method_4_code 7 = .ok (.lshl, 1) := ky_dc db_X0_rankIn_0 38 rfl
theorem dc_X2_halvedOften_8 : decode prog_4_method_4_code 8 = .ok (.lconst 1, 1) := ky_dc db_X0_rankIn_0 39 rfl
theorem dc_X2_halvedOften_9 : decode prog_4_method_4_code 9 = .ok (.lsub, 1) := ky_dc db_X0_rankIn_0 40 rfl
theorem dc_X2_halvedOften_10 : decode prog_4_method_4_code 10 = .ok (.land, 1) := ky_dc db_X0_rankIn_0 41 rfl
theorem dc_X2_halvedOften_11 : decode prog_4_method_4_code 11 = .ok (.lstore 5, 2) := ky_dc db_X0_rankIn_0 42 rfl
theorem dc_X2_halvedOften_13 : decode prog_4_method_4_code 13 = .ok (.lconst 1, 1) := ky_dc db_X0_rankIn_0 43 rfl
theorem dc_X2_halvedOften_14 : decode prog_4_method_4_code 14 = .ok (.iload_n 2, 1) := ky_dc db_X0_rankIn_0 44 rfl
theorem dc_X2_halvedOften_15 : decode prog_4_method_4_code 15 = .ok (.iconst 1, 1) := ky_dc db_X0_rankIn_0 45 rfl
theorem dc_X2_halvedOften_16 : decode prog_4_method_4_code 16 = .ok (.isub, 1) := ky_dc db_X0_rankIn_0 46 rfl
theorem dc_X2_halvedOften_17 : decode prog_4_method_4_code 17 = .ok (.lshl, 1) := ky_dc db_X0_rankIn_0 47 rfl
theorem dc_X2_halvedOften_18 : decode prog_4_method_4_code 18 = .ok (.lstore 7, 2) := ky_dc db_X0_rankIn_0 48 rfl
theorem dc_X2_halvedOften_20 : decode prog_4_method_4_code 20 = .ok (.lload 5, 2) := ky_dc db_X0_rankIn_0 49 rfl
theorem dc_X2_halvedOften_22 : decode prog_4_method_4_code 22 = .ok (.lload 7, 2) := ky_dc db_X0_rankIn_0 50 rfl
theorem dc_X2_halvedOften_24 : decode prog_4_method_4_code 24 = .ok (.lcmp, 1) := ky_dc db_X0_rankIn_0 51 rfl
theorem dc_X2_halvedOften_25 : decode prog_4_method_4_code 25 = .ok (.ifCond .gt 19, 3) := ky_dc db_X0_rankIn_0 52 rfl
theorem dc_X2_halvedOften_44 : decode prog_4_method_4_code 44 = .ok (.iconst 1, 1) := ky_dc db_X0_rankIn_0 53 rfl
theorem dc_X2_halvedOften_45 : decode prog_4_method_4_code 45 = .ok (.goto 4, 3) := ky_dc db_X0_rankIn_0 54 rfl
theorem dc_X2_halvedOften_49 : decode prog_4_method_4_code 49 = .ok (.istore 9, 2) := ky_dc db_X0_rankIn_0 55 rfl
theorem dc_X2_halvedOften_51 : decode prog_4_method_4_code 51 = .ok (.iload 9, 2) := ky_dc db_X0_rankIn_0 56 rfl
theorem dc_X2_halvedOften_53 : decode prog_4_method_4_code 53 = .ok (.ifCond .eq 9, 3) := ky_dc db_X0_rankIn_0 57 rfl
theorem dc_X2_halvedOften_56 : decode prog_4_method_4_code 56 = .ok (.lload_n 3, 1) := ky_dc db_X0_rankIn_0 58 rfl
theorem dc_X2_halvedOften_57 : decode prog_4_method_4_code 57 = .ok (.lconst 1, 1) := ky_dc db_X0_rankIn_0 59 rfl
def dl_X2_halvedOften_58 : List (ByteArray × Nat × Jvm.ClassFile.Instr × Nat) := [(prog_4_method_4_code, 58, .ladd, 1), (prog_4_method_4_code, 59, .goto 4, 3), (prog_4_method_4_code, 63, .lreturn, 1), (prog_4_method_4_code, 28, .lload 5, 2), (prog_4_method_4_code, 30, .lload 7, 2), (prog_4_method_4_code, 32, .lcmp, 1), (prog_4_method_4_code, 33, .ifCond .ne 15, 3), (prog_4_method_4_code, 48, .iconst 0, 1), (prog_4_method_4_code, 62, .lload_n 3, 1), (prog_4_method_4_code, 36, .lload_n 3, 1), (prog_4_method_4_code, 37, .lconst 1, 1), (prog_4_method_4_code, 38, .land, 1), (prog_4_method_4_code, 39, .lconst 1, 1), (prog_4_method_4_code, 40, .lcmp, 1), (prog_4_method_4_code, 41, .ifCond .ne 7, 3), (prog_4_method_3_code, 0, .lload_n 0, 1), (prog_4_method_3_code, 1, .lconst 0, 1), (prog_4_method_3_code, 2, .lcmp, 1), (prog_4_method_3_code, 3, .ifCond .ne 5, 3), (prog_4_method_3_code, 8, .lload_n 0, 1), (prog_4_method_3_code, 9, .lstore_n 3, 1), (prog_4_method_3_code, 10, .iload_n 2, 1), (prog_4_method_3_code, 11, .sipush (-1074), 3), (prog_4_method_3_code, 14, .isub, 1), (prog_4_method_3_code, 15, .iconst 1, 1), (prog_4_method_3_code, 16, .iadd, 1), (prog_4_method_3_code, 17, .istore 5, 2), (prog_4_method_3_code, 19, .bipush 32, 2), (prog_4_method_3_code, 21, .istore 6, 2), (prog_4_method_3_code, 23, .iload 6, 2), (prog_4_method_3_code, 25, .ifCond .le 36, 3), (prog_4_method_3_code, 61, .iload 5, 2), (prog_4_method_3_code, 63, .iconst 1, 1), (prog_4_method_3_code, 64, .if_icmp .ge 17, 3), (prog_4_method_3_code, 81, .iload 5, 2), (prog_4_method_3_code, 83, .sipush 2047, 3), (prog_4_method_3_code, 86, .if_icmp .lt 7, 3), (prog_4_method_3_code, 93, .iload 5, 2), (prog_4_method_3_code, 95, .i2l, 1), (prog_4_method_3_code, 96, .bipush 52, 2), (prog_4_method_3_code, 98, .lshl, 1), (prog_4_method_3_code, 99, .lload_n 3, 1), (prog_4_method_3_code, 100, .ldc2_w 48, 3), (prog_4_method_3_code, 103, .lsub, 1), (prog_4_method_3_code, 104, .ladd, 1), (prog_4_method_3_code, 105, .lreturn, 1), (prog_4_method_3_code, 89, .ldc2_w 46, 3), (prog_4_method_3_code, 92, .lreturn, 1), (prog_4_method_3_code, 67, .lload_n 3, 1), (prog_4_method_3_code, 68, .bipush 60, 2), (prog_4_method_3_code, 70, .iconst 1, 1), (prog_4_method_3_code, 71, .iload 5, 2), (prog_4_method_3_code, 73, .isub, 1), (prog_4_method_3_code, 74, .invokestatic 19, 3), (prog_4_method_3_code, 77, .invokestatic 43, 3), (prog_4_method_3_code, 80, .lreturn, 1), (prog_4_method_3_code, 28, .lload_n 3, 1), (prog_4_method_3_code, 29, .bipush 53, 2), (prog_4_method_3_code, 31, .iload 6, 2), (prog_4_method_3_code, 33, .isub, 1)]
theorem db_X2_halvedOften_58 : dl_X2_halvedOften_58.all (fun x => decide (decode x.1 x.2.1 = .ok x.2.2)) = true := by decide +kernel
theorem dc_X2_halvedOften_58 : decode prog_4_method_4_code 58 = .ok (.ladd, 1) := ky_dc db_X2_halvedOften_58 0 rfl
theorem dc_X2_halvedOften_59 : decode prog_4_method_4_code 59 = .ok (.goto 4, 3) := ky_dc db_X2_halvedOften_58 1 rfl
theorem dc_X2_halvedOften_63 : decode prog_4_method_4_code 63 = .ok (.lreturn, 1) := ky_dc db_X2_halvedOften_58 2 rfl
theorem dc_X2_halvedOften_28 : decode prog_4_method_4_code 28 = .ok (.lload 5, 2) := ky_dc db_X2_halvedOften_58 3 rfl
theorem dc_X2_halvedOften_30 : decode prog_4_method_4_code 30 = .ok (.lload 7, 2) := ky_dc db_X2_halvedOften_58 4 rfl
theorem dc_X2_halvedOften_32 : decode prog_4_method_4_code 32 = .ok (.lcmp, 1) := ky_dc db_X2_halvedOften_58 5 rfl
theorem dc_X2_halvedOften_33 : decode prog_4_method_4_code 33 = .ok (.ifCond .ne 15, 3) := ky_dc db_X2_halvedOften_58 6 rfl
theorem dc_X2_halvedOften_48 : decode prog_4_method_4_code 48 = .ok (.iconst 0, 1) := ky_dc db_X2_halvedOften_58 7 rfl
theorem dc_X2_halvedOften_62 : decode prog_4_method_4_code 62 = .ok (.lload_n 3, 1) := ky_dc db_X2_halvedOften_58 8 rfl
theorem dc_X2_halvedOften_36 : decode prog_4_method_4_code 36 = .ok (.lload_n 3, 1) := ky_dc db_X2_halvedOften_58 9 rfl
theorem dc_X2_halvedOften_37 : decode prog_4_method_4_code 37 = .ok (.lconst 1, 1) := ky_dc db_X2_halvedOften_58 10 rfl
theorem dc_X2_halvedOften_38 : decode prog_4_method_4_code 38 = .ok (.land, 1) := ky_dc db_X2_halvedOften_58 11 rfl
theorem dc_X2_halvedOften_39 : decode prog_4_method_4_code 39 = .ok (.lconst 1, 1) := ky_dc db_X2_halvedOften_58 12 rfl
theorem dc_X2_halvedOften_40 : decode prog_4_method_4_code 40 = .ok (.lcmp, 1) := ky_dc db_X2_halvedOften_58 13 rfl
theorem dc_X2_halvedOften_41 : decode prog_4_method_4_code 41 = .ok (.ifCond .ne 7, 3) := ky_dc db_X2_halvedOften_58 14 rfl
theorem dc_X2_nearestTo_0 : decode prog_4_method_3_code 0 = .ok (.lload_n 0, 1) := ky_dc db_X2_halvedOften_58 15 rfl
theorem dc_X2_nearestTo_1 : decode prog_4_method_3_code 1 = .ok (.lconst 0, 1) := ky_dc db_X2_halvedOften_58 16 rfl
theorem dc_X2_nearestTo_2 : decode prog_4_method_3_code 2 = .ok (.lcmp, 1) := ky_dc db_X2_halvedOften_58 17 rfl
theorem dc_X2_nearestTo_3 : decode prog_4_method_3_code 3 = .ok (.ifCond .ne 5, 3) := ky_dc db_X2_halvedOften_58 18 rfl
theorem dc_X2_nearestTo_8 : decode prog_4_method_3_code 8 = .ok (.lload_n 0, 1) := ky_dc db_X2_halvedOften_58 19 rfl
theorem dc_X2_nearestTo_9 : decode prog_4_method_3_code 9 = .ok (.lstore_n 3, 1) := ky_dc db_X2_halvedOften_58 20 rfl
theorem dc_X2_nearestTo_10 : decode prog_4_method_3_code 10 = .ok (.iload_n 2, 1) := ky_dc db_X2_halvedOften_58 21 rfl
theorem dc_X2_nearestTo_11 : decode prog_4_method_3_code 11 = .ok (.sipush (-1074), 3) := ky_dc db_X2_halvedOften_58 22 rfl
theorem dc_X2_nearestTo_14 : decode prog_4_method_3_code 14 = .ok (.isub, 1) := ky_dc db_X2_halvedOften_58 23 rfl
theorem dc_X2_nearestTo_15 : decode prog_4_method_3_code 15 = .ok (.iconst 1, 1) := ky_dc db_X2_halvedOften_58 24 rfl
theorem dc_X2_nearestTo_16 : decode prog_4_method_3_code 16 = .ok (.iadd, 1) := ky_dc db_X2_halvedOften_58 25 rfl
theorem dc_X2_nearestTo_17 : decode prog_4_method_3_code 17 = .ok (.istore 5, 2) := ky_dc db_X2_halvedOften_58 26 rfl
theorem dc_X2_nearestTo_19 : decode prog_4_method_3_code 19 = .ok (.bipush 32, 2) := ky_dc db_X2_halvedOften_58 27 rfl
theorem dc_X2_nearestTo_21 : decode prog_4_method_3_code 21 = .ok (.istore 6, 2) := ky_dc db_X2_halvedOften_58 28 rfl
theorem dc_X2_nearestTo_23 : decode prog_4_method_3_code 23 = .ok (.iload 6, 2) := ky_dc db_X2_halvedOften_58 29 rfl
theorem dc_X2_nearestTo_25 : decode prog_4_method_3_code 25 = .ok (.ifCond .le 36, 3) := ky_dc db_X2_halvedOften_58 30 rfl
theorem dc_X2_nearestTo_61 : decode prog_4_method_3_code 61 = .ok (.iload 5, 2) := ky_dc db_X2_halvedOften_58 31 rfl
theorem dc_X2_nearestTo_63 : decode prog_4_method_3_code 63 = .ok (.iconst 1, 1) := ky_dc db_X2_halvedOften_58 32 rfl
theorem dc_X2_nearestTo_64 : decode prog_4_method_3_code 64 = .ok (.if_icmp .ge 17, 3) := ky_dc db_X2_halvedOften_58 33 rfl
theorem dc_X2_nearestTo_81 : decode prog_4_method_3_code 81 = .ok (.iload 5, 2) := ky_dc db_X2_halvedOften_58 34 rfl
theorem dc_X2_nearestTo_83 : decode prog_4_method_3_code 83 = .ok (.sipush 2047, 3) := ky_dc db_X2_halvedOften_58 35 rfl
theorem dc_X2_nearestTo_86 : decode prog_4_method_3_code 86 = .ok (.if_icmp .lt 7, 3) := ky_dc db_X2_halvedOften_58 36 rfl
theorem dc_X2_nearestTo_93 : decode prog_4_method_3_code 93 = .ok (.iload 5, 2) := ky_dc db_X2_halvedOften_58 37 rfl
theorem dc_X2_nearestTo_95 : decode prog_4_method_3_code 95 = .ok (.i2l, 1) := ky_dc db_X2_halvedOften_58 38 rfl
theorem dc_X2_nearestTo_96 : decode prog_4_method_3_code 96 = .ok (.bipush 52, 2) := ky_dc db_X2_halvedOften_58 39 rfl
theorem dc_X2_nearestTo_98 : decode prog_4_method_3_code 98 = .ok (.lshl, 1) := ky_dc db_X2_halvedOften_58 40 rfl
theorem dc_X2_nearestTo_99 : decode prog_4_method_3_code 99 = .ok (.lload_n 3, 1) := ky_dc db_X2_halvedOften_58 41 rfl
theorem dc_X2_nearestTo_100 : decode prog_4_method_3_code 100 = .ok (.ldc2_w 48, 3) := ky_dc db_X2_halvedOften_58 42 rfl
theorem dc_X2_nearestTo_103 : decode prog_4_method_3_code 103 = .ok (.lsub, 1) := ky_dc db_X2_halvedOften_58 43 rfl
theorem dc_X2_nearestTo_104 : decode prog_4_method_3_code 104 = .ok (.ladd, 1) := ky_dc db_X2_halvedOften_58 44 rfl
theorem dc_X2_nearestTo_105 : decode prog_4_method_3_code 105 = .ok (.lreturn, 1) := ky_dc db_X2_halvedOften_58 45 rfl
theorem dc_X2_nearestTo_89 : decode prog_4_method_3_code 89 = .ok (.ldc2_w 46, 3) := ky_dc db_X2_halvedOften_58 46 rfl
theorem dc_X2_nearestTo_92 : decode prog_4_method_3_code 92 = .ok (.lreturn, 1) := ky_dc db_X2_halvedOften_58 47 rfl
theorem dc_X2_nearestTo_67 : decode prog_4_method_3_code 67 = .ok (.lload_n 3, 1) := ky_dc db_X2_halvedOften_58 48 rfl
theorem dc_X2_nearestTo_68 : decode prog_4_method_3_code 68 = .ok (.bipush 60, 2) := ky_dc db_X2_halvedOften_58 49 rfl
theorem dc_X2_nearestTo_70 : decode prog_4_method_3_code 70 = .ok (.iconst 1, 1) := ky_dc db_X2_halvedOften_58 50 rfl
theorem dc_X2_nearestTo_71 : decode prog_4_method_3_code 71 = .ok (.iload 5, 2) := ky_dc db_X2_halvedOften_58 51 rfl
theorem dc_X2_nearestTo_73 : decode prog_4_method_3_code 73 = .ok (.isub, 1) := ky_dc db_X2_halvedOften_58 52 rfl
theorem dc_X2_nearestTo_74 : decode prog_4_method_3_code 74 = .ok (.invokestatic 19, 3) := ky_dc db_X2_halvedOften_58 53 rfl
theorem dc_X2_nearestTo_77 : decode prog_4_method_3_code 77 = .ok (.invokestatic 43, 3) := ky_dc db_X2_halvedOften_58 54 rfl
theorem dc_X2_nearestTo_80 : decode prog_4_method_3_code 80 = .ok (.lreturn, 1) := ky_dc db_X2_halvedOften_58 55 rfl
theorem dc_X2_nearestTo_28 : decode prog_4_method_3_code 28 = .ok (.lload_n 3, 1) := ky_dc db_X2_halvedOften_58 56 rfl
theorem dc_X2_nearestTo_29 : decode prog_4_method_3_code 29 = .ok (.bipush 53, 2) := ky_dc db_X2_halvedOften_58 57 rfl
theorem dc_X2_nearestTo_31 : decode prog_4_method_3_code 31 = .ok (.iload 6, 2) := ky_dc db_X2_halvedOften_58 58 rfl
theorem dc_X2_nearestTo_33 : decode prog_4_method_3_code 33 = .ok (.isub, 1) := ky_dc db_X2_halvedOften_58 59 rfl
def dl_X2_nearestTo_34 : List (ByteArray × Nat × Jvm.ClassFile.Instr × Nat) := [(prog_4_method_3_code, 34, .lushr, 1), (prog_4_method_3_code, 35, .lconst 0, 1), (prog_4_method_3_code, 36, .lcmp, 1), (prog_4_method_3_code, 37, .ifCond .ne 15, 3), (prog_4_method_3_code, 52, .iload 6, 2), (prog_4_method_3_code, 54, .iconst 1, 1), (prog_4_method_3_code, 55, .ishr, 1), (prog_4_method_3_code, 56, .istore 6, 2), (prog_4_method_3_code, 58, .goto (-35), 3), (prog_4_method_3_code, 40, .lload_n 3, 1), (prog_4_method_3_code, 41, .iload 6, 2), (prog_4_method_3_code, 43, .lshl, 1), (prog_4_method_3_code, 44, .lstore_n 3, 1), (prog_4_method_3_code, 45, .iload 5, 2), (prog_4_method_3_code, 47, .iload 6, 2), (prog_4_method_3_code, 49, .isub, 1), (prog_4_method_3_code, 50, .istore 5, 2), (prog_4_method_3_code, 6, .lconst 0, 1), (prog_4_method_3_code, 7, .lreturn, 1), (prog_4_method_2_code, 0, .lload_n 0, 1), (prog_4_method_2_code, 1, .invokestatic 7, 3), (prog_4_method_2_code, 4, .lconst 0, 1), (prog_4_method_2_code, 5, .lcmp, 1), (prog_4_method_2_code, 6, .ifCond .eq 10, 3), (prog_4_method_2_code, 16, .lload_n 0, 1), (prog_4_method_2_code, 17, .lreturn, 1), (prog_4_method_2_code, 9, .lload_n 0, 1), (prog_4_method_2_code, 10, .invokestatic 13, 3), (prog_4_method_2_code, 13, .ifCond .eq 5, 3), (prog_4_method_2_code, 18, .sipush (-2200), 3), (prog_4_method_2_code, 21, .sipush 2200, 3), (prog_4_method_2_code, 24, .iload_n 2, 1), (prog_4_method_2_code, 25, .invokestatic 19, 3), (prog_4_method_2_code, 28, .invokestatic 25, 3), (prog_4_method_2_code, 31, .istore_n 3, 1), (prog_4_method_2_code, 32, .lload_n 0, 1), (prog_4_method_2_code, 33, .invokestatic 28, 3), (prog_4_method_2_code, 36, .lload_n 0, 1), (prog_4_method_2_code, 37, .invokestatic 31, 3), (prog_4_method_2_code, 40, .iload_n 3, 1), (prog_4_method_2_code, 41, .iadd, 1), (prog_4_method_2_code, 42, .invokestatic 35, 3), (prog_4_method_2_code, 45, .lload_n 0, 1), (prog_4_method_2_code, 46, .invokestatic 39, 3), (prog_4_method_2_code, 49, .lreturn, 1), (prog_6_method_5_code, 0, .lload_n 2, 1), (prog_6_method_5_code, 1, .iconst 0, 1), (prog_6_method_5_code, 2, .invokestatic 39, 3), (prog_6_method_5_code, 5, .lload_n 0, 1), (prog_6_method_5_code, 6, .invokestatic 42, 3), (prog_6_method_5_code, 9, .lreturn, 1), (prog_6_method_2_code, 0, .lload_n 0, 1), (prog_6_method_2_code, 1, .invokestatic 7, 3), (prog_6_method_2_code, 4, .lconst 0, 1), (prog_6_method_2_code, 5, .lcmp, 1), (prog_6_method_2_code, 6, .ifCond .ne 5, 3), (prog_6_method_2_code, 11, .lload_n 0, 1), (prog_6_method_2_code, 12, .lload_n 0, 1), (prog_6_method_2_code, 13, .invokestatic 13, 3), (prog_6_method_2_code, 16, .lload_n 0, 1)]
theorem db_X2_nearestTo_34 : dl_X2_nearestTo_34.all (fun x => decide (decode x.1 x.2.1 = .ok x.2.2)) = true := by decide +kernel
theorem dc_X2_nearestTo_34 : decode prog_4_method_3_code 34 = .ok (.lushr, 1) := ky_dc db_X2_nearestTo_34 0 rfl
theorem dc_X2_nearestTo_35 : decode prog_4_method_3_code 35 = .ok (.lconst 0, 1) := ky_dc db_X2_nearestTo_34 1 rfl
theorem dc_X2_nearestTo_36 : decode prog_4_method_3_code 36 = .ok (.lcmp, 1) := ky_dc db_X2_nearestTo_34 2 rfl
theorem dc_X2_nearestTo_37 : decode prog_4_method_3_code 37 = .ok (.ifCond .ne 15, 3) := ky_dc db_X2_nearestTo_34 3 rfl
theorem dc_X2_nearestTo_52 : decode prog_4_method_3_code 52 = .ok (.iload 6, 2) := ky_dc db_X2_nearestTo_34 4 rfl
theorem dc_X2_nearestTo_54 : decode prog_4_method_3_code 54 = .ok (.iconst 1, 1) := ky_dc db_X2_nearestTo_34 5 rfl
theorem dc_X2_nearestTo_55 : decode prog_4_method_3_code 55 = .ok (.ishr, 1) := ky_dc db_X2_nearestTo_34 6 rfl
theorem dc_X2_nearestTo_56 : decode prog_4_method_3_code 56 = .ok (.istore 6, 2) := ky_dc db_X2_nearestTo_34 7 rfl
theorem dc_X2_nearestTo_58 : decode prog_4_method_3_code 58 = .ok (.goto (-35), 3) := ky_dc db_X2_nearestTo_34 8 rfl
theorem dc_X2_nearestTo_40 : decode prog_4_method_3_code 40 = .ok (.lload_n 3, 1) := ky_dc db_X2_nearestTo_34 9 rfl
theorem dc_X2_nearestTo_41 : decode prog_4_method_3_code 41 = .ok (.iload 6, 2) := ky_dc db_X2_nearestTo_34 10 rfl
theorem dc_X2_nearestTo_43 : decode prog_4_method_3_code 43 = .ok (.lshl, 1) := ky_dc db_X2_nearestTo_34 11 rfl
theorem dc_X2_nearestTo_44 : decode prog_4_method_3_code 44 = .ok (.lstore_n 3, 1) := ky_dc db_X2_nearestTo_34 12 rfl
theorem dc_X2_nearestTo_45 : decode prog_4_method_3_code 45 = .ok (.iload 5, 2) := ky_dc db_X2_nearestTo_34 13 rfl
theorem dc_X2_nearestTo_47 : decode prog_4_method_3_code 47 = .ok (.iload 6, 2) := ky_dc db_X2_nearestTo_34 14 rfl
theorem dc_X2_nearestTo_49 : decode prog_4_method_3_code 49 = .ok (.isub, 1) := ky_dc db_X2_nearestTo_34 15 rfl
theorem dc_X2_nearestTo_50 : decode prog_4_method_3_code 50 = .ok (.istore 5, 2) := ky_dc db_X2_nearestTo_34 16 rfl
theorem dc_X2_nearestTo_6 : decode prog_4_method_3_code 6 = .ok (.lconst 0, 1) := ky_dc db_X2_nearestTo_34 17 rfl
theorem dc_X2_nearestTo_7 : decode prog_4_method_3_code 7 = .ok (.lreturn, 1) := ky_dc db_X2_nearestTo_34 18 rfl
theorem dc_X2_timesPower_0 : decode prog_4_method_2_code 0 = .ok (.lload_n 0, 1) := ky_dc db_X2_nearestTo_34 19 rfl
theorem dc_X2_timesPower_1 : decode prog_4_method_2_code 1 = .ok (.invokestatic 7, 3) := ky_dc db_X2_nearestTo_34 20 rfl
theorem dc_X2_timesPower_4 : decode prog_4_method_2_code 4 = .ok (.lconst 0, 1) := ky_dc db_X2_nearestTo_34 21 rfl
theorem dc_X2_timesPower_5 : decode prog_4_method_2_code 5 = .ok (.lcmp, 1) := ky_dc db_X2_nearestTo_34 22 rfl
theorem dc_X2_timesPower_6 : decode prog_4_method_2_code 6 = .ok (.ifCond .eq 10, 3) := ky_dc db_X2_nearestTo_34 23 rfl
theorem dc_X2_timesPower_16 : decode prog_4_method_2_code 16 = .ok (.lload_n 0, 1) := ky_dc db_X2_nearestTo_34 24 rfl
theorem dc_X2_timesPower_17 : decode prog_4_method_2_code 17 = .ok (.lreturn, 1) := ky_dc db_X2_nearestTo_34 25 rfl
theorem dc_X2_timesPower_9 : decode prog_4_method_2_code 9 = .ok (.lload_n 0, 1) := ky_dc db_X2_nearestTo_34 26 rfl
theorem dc_X2_timesPower_10 : decode prog_4_method_2_code 10 = .ok (.invokestatic 13, 3) := ky_dc db_X2_nearestTo_34 27 rfl
theorem dc_X2_timesPower_13 : decode prog_4_method_2_code 13 = .ok (.ifCond .eq 5, 3) := ky_dc db_X2_nearestTo_34 28 rfl
theorem dc_X2_timesPower_18 : decode prog_4_method_2_code 18 = .ok (.sipush (-2200), 3) := ky_dc db_X2_nearestTo_34 29 rfl
theorem dc_X2_timesPower_21 : decode prog_4_method_2_code 21 = .ok (.sipush 2200, 3) := ky_dc db_X2_nearestTo_34 30 rfl
theorem dc_X2_timesPower_24 : decode prog_4_method_2_code 24 = .ok (.iload_n 2, 1) := ky_dc db_X2_nearestTo_34 31 rfl
theorem dc_X2_timesPower_25 : decode prog_4_method_2_code 25 = .ok (.invokestatic 19, 3) := ky_dc db_X2_nearestTo_34 32 rfl
theorem dc_X2_timesPower_28 : decode prog_4_method_2_code 28 = .ok (.invokestatic 25, 3) := ky_dc db_X2_nearestTo_34 33 rfl
theorem dc_X2_timesPower_31 : decode prog_4_method_2_code 31 = .ok (.istore_n 3, 1) := ky_dc db_X2_nearestTo_34 34 rfl
theorem dc_X2_timesPower_32 : decode prog_4_method_2_code 32 = .ok (.lload_n 0, 1) := ky_dc db_X2_nearestTo_34 35 rfl
theorem dc_X2_timesPower_33 : decode prog_4_method_2_code 33 = .ok (.invokestatic 28, 3) := ky_dc db_X2_nearestTo_34 36 rfl
theorem dc_X2_timesPower_36 : decode prog_4_method_2_code 36 = .ok (.lload_n 0, 1) := ky_dc db_X2_nearestTo_34 37 rfl
theorem dc_X2_timesPower_37 : decode prog_4_method_2_code 37 = .ok (.invokestatic 31, 3) := ky_dc db_X2_nearestTo_34 38 rfl
theorem dc_X2_timesPower_40 : decode prog_4_method_2_code 40 = .ok (.iload_n 3, 1) := ky_dc db_X2_nearestTo_34 39 rfl
theorem dc_X2_timesPower_41 : decode prog_4_method_2_code 41 = .ok (.iadd, 1) := ky_dc db_X2_nearestTo_34 40 rfl
theorem dc_X2_timesPower_42 : decode prog_4_method_2_code 42 = .ok (.invokestatic 35, 3) := ky_dc db_X2_nearestTo_34 41 rfl
theorem dc_X2_timesPower_45 : decode prog_4_method_2_code 45 = .ok (.lload_n 0, 1) := ky_dc db_X2_nearestTo_34 42 rfl
theorem dc_X2_timesPower_46 : decode prog_4_method_2_code 46 = .ok (.invokestatic 39, 3) := ky_dc db_X2_nearestTo_34 43 rfl
theorem dc_X2_timesPower_49 : decode prog_4_method_2_code 49 = .ok (.lreturn, 1) := ky_dc db_X2_nearestTo_34 44 rfl
theorem dc_X4_wholeLike_0 : decode prog_6_method_5_code 0 = .ok (.lload_n 2, 1) := ky_dc db_X2_nearestTo_34 45 rfl
theorem dc_X4_wholeLike_1 : decode prog_6_method_5_code 1 = .ok (.iconst 0, 1) := ky_dc db_X2_nearestTo_34 46 rfl
theorem dc_X4_wholeLike_2 : decode prog_6_method_5_code 2 = .ok (.invokestatic 39, 3) := ky_dc db_X2_nearestTo_34 47 rfl
theorem dc_X4_wholeLike_5 : decode prog_6_method_5_code 5 = .ok (.lload_n 0, 1) := ky_dc db_X2_nearestTo_34 48 rfl
theorem dc_X4_wholeLike_6 : decode prog_6_method_5_code 6 = .ok (.invokestatic 42, 3) := ky_dc db_X2_nearestTo_34 49 rfl
theorem dc_X4_wholeLike_9 : decode prog_6_method_5_code 9 = .ok (.lreturn, 1) := ky_dc db_X2_nearestTo_34 50 rfl
theorem dc_X4_floorFrom_0 : decode prog_6_method_2_code 0 = .ok (.lload_n 0, 1) := ky_dc db_X2_nearestTo_34 51 rfl
theorem dc_X4_floorFrom_1 : decode prog_6_method_2_code 1 = .ok (.invokestatic 7, 3) := ky_dc db_X2_nearestTo_34 52 rfl
theorem dc_X4_floorFrom_4 : decode prog_6_method_2_code 4 = .ok (.lconst 0, 1) := ky_dc db_X2_nearestTo_34 53 rfl
theorem dc_X4_floorFrom_5 : decode prog_6_method_2_code 5 = .ok (.lcmp, 1) := ky_dc db_X2_nearestTo_34 54 rfl
theorem dc_X4_floorFrom_6 : decode prog_6_method_2_code 6 = .ok (.ifCond .ne 5, 3) := ky_dc db_X2_nearestTo_34 55 rfl
theorem dc_X4_floorFrom_11 : decode prog_6_method_2_code 11 = .ok (.lload_n 0, 1) := ky_dc db_X2_nearestTo_34 56 rfl
theorem dc_X4_floorFrom_12 : decode prog_6_method_2_code 12 = .ok (.lload_n 0, 1) := ky_dc db_X2_nearestTo_34 57 rfl
theorem dc_X4_floorFrom_13 : decode prog_6_method_2_code 13 = .ok (.invokestatic 13, 3) := ky_dc db_X2_nearestTo_34 58 rfl
theorem dc_X4_floorFrom_16 : decode prog_6_method_2_code 16 = .ok (.lload_n 0, 1) := ky_dc db_X2_nearestTo_34 59 rfl
def dl_X4_floorFrom_17 : List (ByteArray × Nat × Jvm.ClassFile.Instr × Nat) := [(prog_6_method_2_code, 17, .invokestatic 16, 3), (prog_6_method_2_code, 20, .ifCond .eq 7, 3), (prog_6_method_2_code, 27, .iconst 0, 1), (prog_6_method_2_code, 28, .i2l, 1), (prog_6_method_2_code, 29, .ladd, 1), (prog_6_method_2_code, 30, .invokestatic 20, 3), (prog_6_method_2_code, 33, .lreturn, 1), (prog_6_method_2_code, 23, .iconst 1, 1), (prog_6_method_2_code, 24, .goto 4, 3), (prog_6_method_2_code, 9, .lload_n 0, 1), (prog_6_method_2_code, 10, .lreturn, 1), (prog_6_method_3_code, 0, .lload_n 0, 1), (prog_6_method_3_code, 1, .invokestatic 7, 3), (prog_6_method_3_code, 4, .lconst 0, 1), (prog_6_method_3_code, 5, .lcmp, 1), (prog_6_method_3_code, 6, .ifCond .ne 5, 3), (prog_6_method_3_code, 11, .lload_n 0, 1), (prog_6_method_3_code, 12, .lload_n 0, 1), (prog_6_method_3_code, 13, .invokestatic 13, 3), (prog_6_method_3_code, 16, .lload_n 0, 1), (prog_6_method_3_code, 17, .invokestatic 16, 3), (prog_6_method_3_code, 20, .ifCond .eq 7, 3), (prog_6_method_3_code, 27, .iconst 1, 1), (prog_6_method_3_code, 28, .i2l, 1), (prog_6_method_3_code, 29, .ladd, 1), (prog_6_method_3_code, 30, .invokestatic 20, 3), (prog_6_method_3_code, 33, .lreturn, 1), (prog_6_method_3_code, 23, .iconst 0, 1), (prog_6_method_3_code, 24, .goto 4, 3), (prog_6_method_3_code, 9, .lload_n 0, 1), (prog_6_method_3_code, 10, .lreturn, 1), (prog_6_method_4_code, 0, .lload_n 0, 1), (prog_6_method_4_code, 1, .invokestatic 7, 3), (prog_6_method_4_code, 4, .lconst 0, 1), (prog_6_method_4_code, 5, .lcmp, 1), (prog_6_method_4_code, 6, .ifCond .ne 5, 3), (prog_6_method_4_code, 11, .lload_n 0, 1), (prog_6_method_4_code, 12, .lload_n 0, 1), (prog_6_method_4_code, 13, .invokestatic 26, 3), (prog_6_method_4_code, 16, .lload_n 0, 1), (prog_6_method_4_code, 17, .invokestatic 29, 3), (prog_6_method_4_code, 20, .invokestatic 33, 3), (prog_6_method_4_code, 23, .invokestatic 20, 3), (prog_6_method_4_code, 26, .lreturn, 1), (prog_6_method_4_code, 9, .lload_n 0, 1), (prog_6_method_4_code, 10, .lreturn, 1), (prog_6_method_6_code, 0, .lload_n 0, 1), (prog_6_method_6_code, 1, .invokestatic 45, 3), (prog_6_method_6_code, 4, .lconst 0, 1), (prog_6_method_6_code, 5, .lcmp, 1), (prog_6_method_6_code, 6, .ifCond .ne 7, 3), (prog_6_method_6_code, 13, .ldc2_w 48, 3), (prog_6_method_6_code, 16, .lload_n 0, 1), (prog_6_method_6_code, 17, .invokestatic 42, 3), (prog_6_method_6_code, 20, .lreturn, 1), (prog_6_method_6_code, 9, .lload_n 0, 1), (prog_6_method_6_code, 10, .goto 10, 3), (prog_6_method_7_code, 0, .lload_n 0, 1), (prog_6_method_7_code, 1, .ldc2_w 50, 3), (prog_6_method_7_code, 4, .lcmp, 1)]
theorem db_X4_floorFrom_17 : dl_X4_floorFrom_17.all (fun x => decide (decode x.1 x.2.1 = .ok x.2.2)) = true := by decide +kernel
theorem dc_X4_floorFrom_17 : decode prog_6_method_2_code 17 = .ok (.invokestatic 16, 3) := ky_dc db_X4_floorFrom_17 0 rfl
theorem dc_X4_floorFrom_20 : decode prog_6_method_2_code 20 = .ok (.ifCond .eq 7, 3) := ky_dc db_X4_floorFrom_17 1 rfl
theorem dc_X4_floorFrom_27 : decode prog_6_method_2_code 27 = .ok (.iconst 0, 1) := ky_dc db_X4_floorFrom_17 2 rfl
theorem dc_X4_floorFrom_28 : decode prog_6_method_2_code 28 = .ok (.i2l, 1) := ky_dc db_X4_floorFrom_17 3 rfl
theorem dc_X4_floorFrom_29 : decode prog_6_method_2_code 29 = .ok (.ladd, 1) := ky_dc db_X4_floorFrom_17 4 rfl
theorem dc_X4_floorFrom_30 : decode prog_6_method_2_code 30 = .ok (.invokestatic 20, 3) := ky_dc db_X4_floorFrom_17 5 rfl
theorem dc_X4_floorFrom_33 : decode prog_6_method_2_code 33 = .ok (.lreturn, 1) := ky_dc db_X4_floorFrom_17 6 rfl
theorem dc_X4_floorFrom_23 : decode prog_6_method_2_code 23 = .ok (.iconst 1, 1) := ky_dc db_X4_floorFrom_17 7 rfl
theorem dc_X4_floorFrom_24 : decode prog_6_method_2_code 24 = .ok (.goto 4, 3) := ky_dc db_X4_floorFrom_17 8 rfl
theorem dc_X4_floorFrom_9 : decode prog_6_method_2_code 9 = .ok (.lload_n 0, 1) := ky_dc db_X4_floorFrom_17 9 rfl
theorem dc_X4_floorFrom_10 : decode prog_6_method_2_code 10 = .ok (.lreturn, 1) := ky_dc db_X4_floorFrom_17 10 rfl
theorem dc_X4_ceilFrom_0 : decode prog_6_method_3_code 0 = .ok (.lload_n 0, 1) := ky_dc db_X4_floorFrom_17 11 rfl
theorem dc_X4_ceilFrom_1 : decode prog_6_method_3_code 1 = .ok (.invokestatic 7, 3) := ky_dc db_X4_floorFrom_17 12 rfl
theorem dc_X4_ceilFrom_4 : decode prog_6_method_3_code 4 = .ok (.lconst 0, 1) := ky_dc db_X4_floorFrom_17 13 rfl
theorem dc_X4_ceilFrom_5 : decode prog_6_method_3_code 5 = .ok (.lcmp, 1) := ky_dc db_X4_floorFrom_17 14 rfl
theorem dc_X4_ceilFrom_6 : decode prog_6_method_3_code 6 = .ok (.ifCond .ne 5, 3) := ky_dc db_X4_floorFrom_17 15 rfl
theorem dc_X4_ceilFrom_11 : decode prog_6_method_3_code 11 = .ok (.lload_n 0, 1) := ky_dc db_X4_floorFrom_17 16 rfl
theorem dc_X4_ceilFrom_12 : decode prog_6_method_3_code 12 = .ok (.lload_n 0, 1) := ky_dc db_X4_floorFrom_17 17 rfl
theorem dc_X4_ceilFrom_13 : decode prog_6_method_3_code 13 = .ok (.invokestatic 13, 3) := ky_dc db_X4_floorFrom_17 18 rfl
theorem dc_X4_ceilFrom_16 : decode prog_6_method_3_code 16 = .ok (.lload_n 0, 1) := ky_dc db_X4_floorFrom_17 19 rfl
theorem dc_X4_ceilFrom_17 : decode prog_6_method_3_code 17 = .ok (.invokestatic 16, 3) := ky_dc db_X4_floorFrom_17 20 rfl
theorem dc_X4_ceilFrom_20 : decode prog_6_method_3_code 20 = .ok (.ifCond .eq 7, 3) := ky_dc db_X4_floorFrom_17 21 rfl
theorem dc_X4_ceilFrom_27 : decode prog_6_method_3_code 27 = .ok (.iconst 1, 1) := ky_dc db_X4_floorFrom_17 22 rfl
theorem dc_X4_ceilFrom_28 : decode prog_6_method_3_code 28 = .ok (.i2l, 1) := ky_dc db_X4_floorFrom_17 23 rfl
theorem dc_X4_ceilFrom_29 : decode prog_6_method_3_code 29 = .ok (.ladd, 1) := ky_dc db_X4_floorFrom_17 24 rfl
theorem dc_X4_ceilFrom_30 : decode prog_6_method_3_code 30 = .ok (.invokestatic 20, 3) := ky_dc db_X4_floorFrom_17 25 rfl
theorem dc_X4_ceilFrom_33 : decode prog_6_method_3_code 33 = .ok (.lreturn, 1) := ky_dc db_X4_floorFrom_17 26 rfl
theorem dc_X4_ceilFrom_23 : decode prog_6_method_3_code 23 = .ok (.iconst 0, 1) := ky_dc db_X4_floorFrom_17 27 rfl
theorem dc_X4_ceilFrom_24 : decode prog_6_method_3_code 24 = .ok (.goto 4, 3) := ky_dc db_X4_floorFrom_17 28 rfl
theorem dc_X4_ceilFrom_9 : decode prog_6_method_3_code 9 = .ok (.lload_n 0, 1) := ky_dc db_X4_floorFrom_17 29 rfl
theorem dc_X4_ceilFrom_10 : decode prog_6_method_3_code 10 = .ok (.lreturn, 1) := ky_dc db_X4_floorFrom_17 30 rfl
theorem dc_X4_rintFrom_0 : decode prog_6_method_4_code 0 = .ok (.lload_n 0, 1) := ky_dc db_X4_floorFrom_17 31 rfl
theorem dc_X4_rintFrom_1 : decode prog_6_method_4_code 1 = .ok (.invokestatic 7, 3) := ky_dc db_X4_floorFrom_17 32 rfl
theorem dc_X4_rintFrom_4 : decode prog_6_method_4_code 4 = .ok (.lconst 0, 1) := ky_dc db_X4_floorFrom_17 33 rfl
theorem dc_X4_rintFrom_5 : decode prog_6_method_4_code 5 = .ok (.lcmp, 1) := ky_dc db_X4_floorFrom_17 34 rfl
theorem dc_X4_rintFrom_6 : decode prog_6_method_4_code 6 = .ok (.ifCond .ne 5, 3) := ky_dc db_X4_floorFrom_17 35 rfl
theorem dc_X4_rintFrom_11 : decode prog_6_method_4_code 11 = .ok (.lload_n 0, 1) := ky_dc db_X4_floorFrom_17 36 rfl
theorem dc_X4_rintFrom_12 : decode prog_6_method_4_code 12 = .ok (.lload_n 0, 1) := ky_dc db_X4_floorFrom_17 37 rfl
theorem dc_X4_rintFrom_13 : decode prog_6_method_4_code 13 = .ok (.invokestatic 26, 3) := ky_dc db_X4_floorFrom_17 38 rfl
theorem dc_X4_rintFrom_16 : decode prog_6_method_4_code 16 = .ok (.lload_n 0, 1) := ky_dc db_X4_floorFrom_17 39 rfl
theorem dc_X4_rintFrom_17 : decode prog_6_method_4_code 17 = .ok (.invokestatic 29, 3) := ky_dc db_X4_floorFrom_17 40 rfl
theorem dc_X4_rintFrom_20 : decode prog_6_method_4_code 20 = .ok (.invokestatic 33, 3) := ky_dc db_X4_floorFrom_17 41 rfl
theorem dc_X4_rintFrom_23 : decode prog_6_method_4_code 23 = .ok (.invokestatic 20, 3) := ky_dc db_X4_floorFrom_17 42 rfl
theorem dc_X4_rintFrom_26 : decode prog_6_method_4_code 26 = .ok (.lreturn, 1) := ky_dc db_X4_floorFrom_17 43 rfl
theorem dc_X4_rintFrom_9 : decode prog_6_method_4_code 9 = .ok (.lload_n 0, 1) := ky_dc db_X4_floorFrom_17 44 rfl
theorem dc_X4_rintFrom_10 : decode prog_6_method_4_code 10 = .ok (.lreturn, 1) := ky_dc db_X4_floorFrom_17 45 rfl
theorem dc_X4_signFrom_0 : decode prog_6_method_6_code 0 = .ok (.lload_n 0, 1) := ky_dc db_X4_floorFrom_17 46 rfl
theorem dc_X4_signFrom_1 : decode prog_6_method_6_code 1 = .ok (.invokestatic 45, 3) := ky_dc db_X4_floorFrom_17 47 rfl
theorem dc_X4_signFrom_4 : decode prog_6_method_6_code 4 = .ok (.lconst 0, 1) := ky_dc db_X4_floorFrom_17 48 rfl
theorem dc_X4_signFrom_5 : decode prog_6_method_6_code 5 = .ok (.lcmp, 1) := ky_dc db_X4_floorFrom_17 49 rfl
theorem dc_X4_signFrom_6 : decode prog_6_method_6_code 6 = .ok (.ifCond .ne 7, 3) := ky_dc db_X4_floorFrom_17 50 rfl
theorem dc_X4_signFrom_13 : decode prog_6_method_6_code 13 = .ok (.ldc2_w 48, 3) := ky_dc db_X4_floorFrom_17 51 rfl
theorem dc_X4_signFrom_16 : decode prog_6_method_6_code 16 = .ok (.lload_n 0, 1) := ky_dc db_X4_floorFrom_17 52 rfl
theorem dc_X4_signFrom_17 : decode prog_6_method_6_code 17 = .ok (.invokestatic 42, 3) := ky_dc db_X4_floorFrom_17 53 rfl
theorem dc_X4_signFrom_20 : decode prog_6_method_6_code 20 = .ok (.lreturn, 1) := ky_dc db_X4_floorFrom_17 54 rfl
theorem dc_X4_signFrom_9 : decode prog_6_method_6_code 9 = .ok (.lload_n 0, 1) := ky_dc db_X4_floorFrom_17 55 rfl
theorem dc_X4_signFrom_10 : decode prog_6_method_6_code 10 = .ok (.goto 10, 3) := ky_dc db_X4_floorFrom_17 56 rfl
theorem dc_X4_upFrom_0 : decode prog_6_method_7_code 0 = .ok (.lload_n 0, 1) := ky_dc db_X4_floorFrom_17 57 rfl
theorem dc_X4_upFrom_1 : decode prog_6_method_7_code 1 = .ok (.ldc2_w 50, 3) := ky_dc db_X4_floorFrom_17 58 rfl
theorem dc_X4_upFrom_4 : decode prog_6_method_7_code 4 = .ok (.lcmp, 1) := ky_dc db_X4_floorFrom_17 59 rfl
def dl_X4_upFrom_5 : List (ByteArray × Nat × Jvm.ClassFile.Instr × Nat) := [(prog_6_method_7_code, 5, .ifCond .ne 5, 3), (prog_6_method_7_code, 10, .lload_n 0, 1), (prog_6_method_7_code, 11, .invokestatic 45, 3), (prog_6_method_7_code, 14, .lconst 0, 1), (prog_6_method_7_code, 15, .lcmp, 1), (prog_6_method_7_code, 16, .ifCond .ne 5, 3), (prog_6_method_7_code, 21, .lload_n 0, 1), (prog_6_method_7_code, 22, .invokestatic 16, 3), (prog_6_method_7_code, 25, .ifCond .eq 9, 3), (prog_6_method_7_code, 34, .lload_n 0, 1), (prog_6_method_7_code, 35, .lconst 1, 1), (prog_6_method_7_code, 36, .ladd, 1), (prog_6_method_7_code, 37, .lreturn, 1), (prog_6_method_7_code, 28, .lload_n 0, 1), (prog_6_method_7_code, 29, .lconst 1, 1), (prog_6_method_7_code, 30, .lsub, 1), (prog_6_method_7_code, 31, .goto 6, 3), (prog_6_method_7_code, 19, .lconst 1, 1), (prog_6_method_7_code, 20, .lreturn, 1), (prog_6_method_7_code, 8, .lload_n 0, 1), (prog_6_method_7_code, 9, .lreturn, 1), (prog_6_method_8_code, 0, .lload_n 0, 1), (prog_6_method_8_code, 1, .ldc2_w 52, 3), (prog_6_method_8_code, 4, .lcmp, 1), (prog_6_method_8_code, 5, .ifCond .ne 5, 3), (prog_6_method_8_code, 10, .lload_n 0, 1), (prog_6_method_8_code, 11, .invokestatic 45, 3), (prog_6_method_8_code, 14, .lconst 0, 1), (prog_6_method_8_code, 15, .lcmp, 1), (prog_6_method_8_code, 16, .ifCond .ne 7, 3), (prog_6_method_8_code, 23, .lload_n 0, 1), (prog_6_method_8_code, 24, .invokestatic 16, 3), (prog_6_method_8_code, 27, .ifCond .eq 9, 3), (prog_6_method_8_code, 36, .lload_n 0, 1), (prog_6_method_8_code, 37, .lconst 1, 1), (prog_6_method_8_code, 38, .lsub, 1), (prog_6_method_8_code, 39, .lreturn, 1), (prog_6_method_8_code, 30, .lload_n 0, 1), (prog_6_method_8_code, 31, .lconst 1, 1), (prog_6_method_8_code, 32, .ladd, 1), (prog_6_method_8_code, 33, .goto 6, 3), (prog_6_method_8_code, 19, .ldc2_w 54, 3), (prog_6_method_8_code, 22, .lreturn, 1), (prog_6_method_8_code, 8, .lload_n 0, 1), (prog_6_method_8_code, 9, .lreturn, 1), (prog_6_method_10_code, 0, .lload_n 0, 1), (prog_6_method_10_code, 1, .invokestatic 62, 3), (prog_6_method_10_code, 4, .ifCond .eq 7, 3), (prog_6_method_10_code, 11, .lconst 1, 1), (prog_6_method_10_code, 12, .lload_n 0, 1), (prog_6_method_10_code, 13, .invokestatic 65, 3), (prog_6_method_10_code, 16, .invokestatic 39, 3), (prog_6_method_10_code, 19, .lreturn, 1), (prog_6_method_10_code, 7, .ldc2_w 50, 3), (prog_6_method_10_code, 10, .lreturn, 1), (prog_6_method_9_code, 0, .lload_n 0, 1), (prog_6_method_9_code, 1, .lstore_n 3, 1), (prog_6_method_9_code, 2, .iconst 0, 1), (prog_6_method_9_code, 3, .istore 5, 2), (prog_6_method_9_code, 5, .iload 5, 2)]
theorem db_X4_upFrom_5 : dl_X4_upFrom_5.all (fun x => decide (decode x.1 x.2.1 = .ok x.2.2)) = true := by decide +kernel
theorem dc_X4_upFrom_5 : decode prog_6_method_7_code 5 = .ok (.ifCond .ne 5, 3) := ky_dc db_X4_upFrom_5 0 rfl
theorem dc_X4_upFrom_10 : decode prog_6_method_7_code 10 = .ok (.lload_n 0, 1) := ky_dc db_X4_upFrom_5 1 rfl
theorem dc_X4_upFrom_11 : decode prog_6_method_7_code 11 = .ok (.invokestatic 45, 3) := ky_dc db_X4_upFrom_5 2 rfl
theorem dc_X4_upFrom_14 : decode prog_6_method_7_code 14 = .ok (.lconst 0, 1) := ky_dc db_X4_upFrom_5 3 rfl
theorem dc_X4_upFrom_15 : decode prog_6_method_7_code 15 = .ok (.lcmp, 1) := ky_dc db_X4_upFrom_5 4 rfl
theorem dc_X4_upFrom_16 : decode prog_6_method_7_code 16 = .ok (.ifCond .ne 5, 3) := ky_dc db_X4_upFrom_5 5 rfl
theorem dc_X4_upFrom_21 : decode prog_6_method_7_code 21 = .ok (.lload_n 0, 1) := ky_dc db_X4_upFrom_5 6 rfl
theorem dc_X4_upFrom_22 : decode prog_6_method_7_code 22 = .ok (.invokestatic 16, 3) := ky_dc db_X4_upFrom_5 7 rfl
theorem dc_X4_upFrom_25 : decode prog_6_method_7_code 25 = .ok (.ifCond .eq 9, 3) := ky_dc db_X4_upFrom_5 8 rfl
theorem dc_X4_upFrom_34 : decode prog_6_method_7_code 34 = .ok (.lload_n 0, 1) := ky_dc db_X4_upFrom_5 9 rfl
theorem dc_X4_upFrom_35 : decode prog_6_method_7_code 35 = .ok (.lconst 1, 1) := ky_dc db_X4_upFrom_5 10 rfl
theorem dc_X4_upFrom_36 : decode prog_6_method_7_code 36 = .ok (.ladd, 1) := ky_dc db_X4_upFrom_5 11 rfl
theorem dc_X4_upFrom_37 : decode prog_6_method_7_code 37 = .ok (.lreturn, 1) := ky_dc db_X4_upFrom_5 12 rfl
theorem dc_X4_upFrom_28 : decode prog_6_method_7_code 28 = .ok (.lload_n 0, 1) := ky_dc db_X4_upFrom_5 13 rfl
theorem dc_X4_upFrom_29 : decode prog_6_method_7_code 29 = .ok (.lconst 1, 1) := ky_dc db_X4_upFrom_5 14 rfl
theorem dc_X4_upFrom_30 : decode prog_6_method_7_code 30 = .ok (.lsub, 1) := ky_dc db_X4_upFrom_5 15 rfl
theorem dc_X4_upFrom_31 : decode prog_6_method_7_code 31 = .ok (.goto 6, 3) := ky_dc db_X4_upFrom_5 16 rfl
theorem dc_X4_upFrom_19 : decode prog_6_method_7_code 19 = .ok (.lconst 1, 1) := ky_dc db_X4_upFrom_5 17 rfl
theorem dc_X4_upFrom_20 : decode prog_6_method_7_code 20 = .ok (.lreturn, 1) := ky_dc db_X4_upFrom_5 18 rfl
theorem dc_X4_upFrom_8 : decode prog_6_method_7_code 8 = .ok (.lload_n 0, 1) := ky_dc db_X4_upFrom_5 19 rfl
theorem dc_X4_upFrom_9 : decode prog_6_method_7_code 9 = .ok (.lreturn, 1) := ky_dc db_X4_upFrom_5 20 rfl
theorem dc_X4_downFrom_0 : decode prog_6_method_8_code 0 = .ok (.lload_n 0, 1) := ky_dc db_X4_upFrom_5 21 rfl
theorem dc_X4_downFrom_1 : decode prog_6_method_8_code 1 = .ok (.ldc2_w 52, 3) := ky_dc db_X4_upFrom_5 22 rfl
theorem dc_X4_downFrom_4 : decode prog_6_method_8_code 4 = .ok (.lcmp, 1) := ky_dc db_X4_upFrom_5 23 rfl
theorem dc_X4_downFrom_5 : decode prog_6_method_8_code 5 = .ok (.ifCond .ne 5, 3) := ky_dc db_X4_upFrom_5 24 rfl
theorem dc_X4_downFrom_10 : decode prog_6_method_8_code 10 = .ok (.lload_n 0, 1) := ky_dc db_X4_upFrom_5 25 rfl
theorem dc_X4_downFrom_11 : decode prog_6_method_8_code 11 = .ok (.invokestatic 45, 3) := ky_dc db_X4_upFrom_5 26 rfl
theorem dc_X4_downFrom_14 : decode prog_6_method_8_code 14 = .ok (.lconst 0, 1) := ky_dc db_X4_upFrom_5 27 rfl
theorem dc_X4_downFrom_15 : decode prog_6_method_8_code 15 = .ok (.lcmp, 1) := ky_dc db_X4_upFrom_5 28 rfl
theorem dc_X4_downFrom_16 : decode prog_6_method_8_code 16 = .ok (.ifCond .ne 7, 3) := ky_dc db_X4_upFrom_5 29 rfl
theorem dc_X4_downFrom_23 : decode prog_6_method_8_code 23 = .ok (.lload_n 0, 1) := ky_dc db_X4_upFrom_5 30 rfl
theorem dc_X4_downFrom_24 : decode prog_6_method_8_code 24 = .ok (.invokestatic 16, 3) := ky_dc db_X4_upFrom_5 31 rfl
theorem dc_X4_downFrom_27 : decode prog_6_method_8_code 27 = .ok (.ifCond .eq 9, 3) := ky_dc db_X4_upFrom_5 32 rfl
theorem dc_X4_downFrom_36 : decode prog_6_method_8_code 36 = .ok (.lload_n 0, 1) := ky_dc db_X4_upFrom_5 33 rfl
theorem dc_X4_downFrom_37 : decode prog_6_method_8_code 37 = .ok (.lconst 1, 1) := ky_dc db_X4_upFrom_5 34 rfl
theorem dc_X4_downFrom_38 : decode prog_6_method_8_code 38 = .ok (.lsub, 1) := ky_dc db_X4_upFrom_5 35 rfl
theorem dc_X4_downFrom_39 : decode prog_6_method_8_code 39 = .ok (.lreturn, 1) := ky_dc db_X4_upFrom_5 36 rfl
theorem dc_X4_downFrom_30 : decode prog_6_method_8_code 30 = .ok (.lload_n 0, 1) := ky_dc db_X4_upFrom_5 37 rfl
theorem dc_X4_downFrom_31 : decode prog_6_method_8_code 31 = .ok (.lconst 1, 1) := ky_dc db_X4_upFrom_5 38 rfl
theorem dc_X4_downFrom_32 : decode prog_6_method_8_code 32 = .ok (.ladd, 1) := ky_dc db_X4_upFrom_5 39 rfl
theorem dc_X4_downFrom_33 : decode prog_6_method_8_code 33 = .ok (.goto 6, 3) := ky_dc db_X4_upFrom_5 40 rfl
theorem dc_X4_downFrom_19 : decode prog_6_method_8_code 19 = .ok (.ldc2_w 54, 3) := ky_dc db_X4_upFrom_5 41 rfl
theorem dc_X4_downFrom_22 : decode prog_6_method_8_code 22 = .ok (.lreturn, 1) := ky_dc db_X4_upFrom_5 42 rfl
theorem dc_X4_downFrom_8 : decode prog_6_method_8_code 8 = .ok (.lload_n 0, 1) := ky_dc db_X4_upFrom_5 43 rfl
theorem dc_X4_downFrom_9 : decode prog_6_method_8_code 9 = .ok (.lreturn, 1) := ky_dc db_X4_upFrom_5 44 rfl
theorem dc_X4_stepFrom_0 : decode prog_6_method_10_code 0 = .ok (.lload_n 0, 1) := ky_dc db_X4_upFrom_5 45 rfl
theorem dc_X4_stepFrom_1 : decode prog_6_method_10_code 1 = .ok (.invokestatic 62, 3) := ky_dc db_X4_upFrom_5 46 rfl
theorem dc_X4_stepFrom_4 : decode prog_6_method_10_code 4 = .ok (.ifCond .eq 7, 3) := ky_dc db_X4_upFrom_5 47 rfl
theorem dc_X4_stepFrom_11 : decode prog_6_method_10_code 11 = .ok (.lconst 1, 1) := ky_dc db_X4_upFrom_5 48 rfl
theorem dc_X4_stepFrom_12 : decode prog_6_method_10_code 12 = .ok (.lload_n 0, 1) := ky_dc db_X4_upFrom_5 49 rfl
theorem dc_X4_stepFrom_13 : decode prog_6_method_10_code 13 = .ok (.invokestatic 65, 3) := ky_dc db_X4_upFrom_5 50 rfl
theorem dc_X4_stepFrom_16 : decode prog_6_method_10_code 16 = .ok (.invokestatic 39, 3) := ky_dc db_X4_upFrom_5 51 rfl
theorem dc_X4_stepFrom_19 : decode prog_6_method_10_code 19 = .ok (.lreturn, 1) := ky_dc db_X4_upFrom_5 52 rfl
theorem dc_X4_stepFrom_7 : decode prog_6_method_10_code 7 = .ok (.ldc2_w 50, 3) := ky_dc db_X4_upFrom_5 53 rfl
theorem dc_X4_stepFrom_10 : decode prog_6_method_10_code 10 = .ok (.lreturn, 1) := ky_dc db_X4_upFrom_5 54 rfl
theorem dc_X4_walkFrom_0 : decode prog_6_method_9_code 0 = .ok (.lload_n 0, 1) := ky_dc db_X4_upFrom_5 55 rfl
theorem dc_X4_walkFrom_1 : decode prog_6_method_9_code 1 = .ok (.lstore_n 3, 1) := ky_dc db_X4_upFrom_5 56 rfl
theorem dc_X4_walkFrom_2 : decode prog_6_method_9_code 2 = .ok (.iconst 0, 1) := ky_dc db_X4_upFrom_5 57 rfl
theorem dc_X4_walkFrom_3 : decode prog_6_method_9_code 3 = .ok (.istore 5, 2) := ky_dc db_X4_upFrom_5 58 rfl
theorem dc_X4_walkFrom_5 : decode prog_6_method_9_code 5 = .ok (.iload 5, 2) := ky_dc db_X4_upFrom_5 59 rfl
def dl_X4_walkFrom_7 : List (ByteArray × Nat × Jvm.ClassFile.Instr × Nat) := [(prog_6_method_9_code, 7, .iload_n 2, 1), (prog_6_method_9_code, 8, .if_icmp .ge 14, 3), (prog_6_method_9_code, 22, .iconst 0, 1), (prog_6_method_9_code, 23, .istore 5, 2), (prog_6_method_9_code, 25, .iload 5, 2), (prog_6_method_9_code, 27, .iload_n 2, 1), (prog_6_method_9_code, 28, .if_icmp .le 14, 3), (prog_6_method_9_code, 42, .lload_n 3, 1), (prog_6_method_9_code, 43, .lreturn, 1), (prog_6_method_9_code, 31, .lload_n 3, 1), (prog_6_method_9_code, 32, .invokestatic 59, 3), (prog_6_method_9_code, 35, .lstore_n 3, 1), (prog_6_method_9_code, 36, .iinc 5 (-1), 3), (prog_6_method_9_code, 39, .goto (-14), 3), (prog_6_method_9_code, 11, .lload_n 3, 1), (prog_6_method_9_code, 12, .invokestatic 56, 3), (prog_6_method_9_code, 15, .lstore_n 3, 1), (prog_6_method_9_code, 16, .iinc 5 1, 3), (prog_6_method_9_code, 19, .goto (-14), 3), (prog_7_method_2_code, 0, .lload_n 0, 1), (prog_7_method_2_code, 1, .invokestatic 7, 3), (prog_7_method_2_code, 4, .istore_n 2, 1), (prog_7_method_2_code, 5, .iload_n 2, 1), (prog_7_method_2_code, 6, .bipush 11, 2), (prog_7_method_2_code, 8, .if_icmp .lt 20, 3), (prog_7_method_2_code, 28, .lload_n 0, 1), (prog_7_method_2_code, 29, .invokestatic 23, 3), (prog_7_method_2_code, 32, .lstore_n 3, 1), (prog_7_method_2_code, 33, .iload_n 2, 1), (prog_7_method_2_code, 34, .ifCond .le 9, 3), (prog_7_method_2_code, 43, .lload_n 3, 1), (prog_7_method_2_code, 44, .lload_n 0, 1), (prog_7_method_2_code, 45, .invokestatic 27, 3), (prog_7_method_2_code, 48, .lushr, 1), (prog_7_method_2_code, 49, .lstore 5, 2), (prog_7_method_2_code, 51, .lload_n 0, 1), (prog_7_method_2_code, 52, .invokestatic 15, 3), (prog_7_method_2_code, 55, .ifCond .eq 9, 3), (prog_7_method_2_code, 64, .lload 5, 2), (prog_7_method_2_code, 66, .lreturn, 1), (prog_7_method_2_code, 58, .lload 5, 2), (prog_7_method_2_code, 60, .lneg, 1), (prog_7_method_2_code, 61, .goto 5, 3), (prog_7_method_2_code, 37, .lload_n 3, 1), (prog_7_method_2_code, 38, .iload_n 2, 1), (prog_7_method_2_code, 39, .lshl, 1), (prog_7_method_2_code, 40, .goto 9, 3), (prog_7_method_2_code, 11, .lload_n 0, 1), (prog_7_method_2_code, 12, .invokestatic 15, 3), (prog_7_method_2_code, 15, .ifCond .eq 9, 3), (prog_7_method_2_code, 24, .ldc2_w 21, 3), (prog_7_method_2_code, 27, .lreturn, 1), (prog_7_method_2_code, 18, .ldc2_w 19, 3), (prog_7_method_2_code, 21, .goto 6, 3), (prog_7_method_3_code, 0, .lload_n 0, 1), (prog_7_method_3_code, 1, .invokestatic 27, 3), (prog_7_method_3_code, 4, .istore_n 2, 1), (prog_7_method_3_code, 5, .iload_n 2, 1), (prog_7_method_3_code, 6, .ifCond .ne 8, 3), (prog_7_method_3_code, 14, .lload_n 0, 1)]
theorem db_X4_walkFrom_7 : dl_X4_walkFrom_7.all (fun x => decide (decode x.1 x.2.1 = .ok x.2.2)) = true := by decide +kernel
theorem dc_X4_walkFrom_7 : decode prog_6_method_9_code 7 = .ok (.iload_n 2, 1) := ky_dc db_X4_walkFrom_7 0 rfl
theorem dc_X4_walkFrom_8 : decode prog_6_method_9_code 8 = .ok (.if_icmp .ge 14, 3) := ky_dc db_X4_walkFrom_7 1 rfl
theorem dc_X4_walkFrom_22 : decode prog_6_method_9_code 22 = .ok (.iconst 0, 1) := ky_dc db_X4_walkFrom_7 2 rfl
theorem dc_X4_walkFrom_23 : decode prog_6_method_9_code 23 = .ok (.istore 5, 2) := ky_dc db_X4_walkFrom_7 3 rfl
theorem dc_X4_walkFrom_25 : decode prog_6_method_9_code 25 = .ok (.iload 5, 2) := ky_dc db_X4_walkFrom_7 4 rfl
theorem dc_X4_walkFrom_27 : decode prog_6_method_9_code 27 = .ok (.iload_n 2, 1) := ky_dc db_X4_walkFrom_7 5 rfl
theorem dc_X4_walkFrom_28 : decode prog_6_method_9_code 28 = .ok (.if_icmp .le 14, 3) := ky_dc db_X4_walkFrom_7 6 rfl
theorem dc_X4_walkFrom_42 : decode prog_6_method_9_code 42 = .ok (.lload_n 3, 1) := ky_dc db_X4_walkFrom_7 7 rfl
theorem dc_X4_walkFrom_43 : decode prog_6_method_9_code 43 = .ok (.lreturn, 1) := ky_dc db_X4_walkFrom_7 8 rfl
theorem dc_X4_walkFrom_31 : decode prog_6_method_9_code 31 = .ok (.lload_n 3, 1) := ky_dc db_X4_walkFrom_7 9 rfl
theorem dc_X4_walkFrom_32 : decode prog_6_method_9_code 32 = .ok (.invokestatic 59, 3) := ky_dc db_X4_walkFrom_7 10 rfl
theorem dc_X4_walkFrom_35 : decode prog_6_method_9_code 35 = .ok (.lstore_n 3, 1) := ky_dc db_X4_walkFrom_7 11 rfl
theorem dc_X4_walkFrom_36 : decode prog_6_method_9_code 36 = .ok (.iinc 5 (-1), 3) := ky_dc db_X4_walkFrom_7 12 rfl
theorem dc_X4_walkFrom_39 : decode prog_6_method_9_code 39 = .ok (.goto (-14), 3) := ky_dc db_X4_walkFrom_7 13 rfl
theorem dc_X4_walkFrom_11 : decode prog_6_method_9_code 11 = .ok (.lload_n 3, 1) := ky_dc db_X4_walkFrom_7 14 rfl
theorem dc_X4_walkFrom_12 : decode prog_6_method_9_code 12 = .ok (.invokestatic 56, 3) := ky_dc db_X4_walkFrom_7 15 rfl
theorem dc_X4_walkFrom_15 : decode prog_6_method_9_code 15 = .ok (.lstore_n 3, 1) := ky_dc db_X4_walkFrom_7 16 rfl
theorem dc_X4_walkFrom_16 : decode prog_6_method_9_code 16 = .ok (.iinc 5 1, 3) := ky_dc db_X4_walkFrom_7 17 rfl
theorem dc_X4_walkFrom_19 : decode prog_6_method_9_code 19 = .ok (.goto (-14), 3) := ky_dc db_X4_walkFrom_7 18 rfl
theorem dc_X5_cutFrom_0 : decode prog_7_method_2_code 0 = .ok (.lload_n 0, 1) := ky_dc db_X4_walkFrom_7 19 rfl
theorem dc_X5_cutFrom_1 : decode prog_7_method_2_code 1 = .ok (.invokestatic 7, 3) := ky_dc db_X4_walkFrom_7 20 rfl
theorem dc_X5_cutFrom_4 : decode prog_7_method_2_code 4 = .ok (.istore_n 2, 1) := ky_dc db_X4_walkFrom_7 21 rfl
theorem dc_X5_cutFrom_5 : decode prog_7_method_2_code 5 = .ok (.iload_n 2, 1) := ky_dc db_X4_walkFrom_7 22 rfl
theorem dc_X5_cutFrom_6 : decode prog_7_method_2_code 6 = .ok (.bipush 11, 2) := ky_dc db_X4_walkFrom_7 23 rfl
theorem dc_X5_cutFrom_8 : decode prog_7_method_2_code 8 = .ok (.if_icmp .lt 20, 3) := ky_dc db_X4_walkFrom_7 24 rfl
theorem dc_X5_cutFrom_28 : decode prog_7_method_2_code 28 = .ok (.lload_n 0, 1) := ky_dc db_X4_walkFrom_7 25 rfl
theorem dc_X5_cutFrom_29 : decode prog_7_method_2_code 29 = .ok (.invokestatic 23, 3) := ky_dc db_X4_walkFrom_7 26 rfl
theorem dc_X5_cutFrom_32 : decode prog_7_method_2_code 32 = .ok (.lstore_n 3, 1) := ky_dc db_X4_walkFrom_7 27 rfl
theorem dc_X5_cutFrom_33 : decode prog_7_method_2_code 33 = .ok (.iload_n 2, 1) := ky_dc db_X4_walkFrom_7 28 rfl
theorem dc_X5_cutFrom_34 : decode prog_7_method_2_code 34 = .ok (.ifCond .le 9, 3) := ky_dc db_X4_walkFrom_7 29 rfl
theorem dc_X5_cutFrom_43 : decode prog_7_method_2_code 43 = .ok (.lload_n 3, 1) := ky_dc db_X4_walkFrom_7 30 rfl
theorem dc_X5_cutFrom_44 : decode prog_7_method_2_code 44 = .ok (.lload_n 0, 1) := ky_dc db_X4_walkFrom_7 31 rfl
theorem dc_X5_cutFrom_45 : decode prog_7_method_2_code 45 = .ok (.invokestatic 27, 3) := ky_dc db_X4_walkFrom_7 32 rfl
theorem dc_X5_cutFrom_48 : decode prog_7_method_2_code 48 = .ok (.lushr, 1) := ky_dc db_X4_walkFrom_7 33 rfl
theorem dc_X5_cutFrom_49 : decode prog_7_method_2_code 49 = .ok (.lstore 5, 2) := ky_dc db_X4_walkFrom_7 34 rfl
theorem dc_X5_cutFrom_51 : decode prog_7_method_2_code 51 = .ok (.lload_n 0, 1) := ky_dc db_X4_walkFrom_7 35 rfl
theorem dc_X5_cutFrom_52 : decode prog_7_method_2_code 52 = .ok (.invokestatic 15, 3) := ky_dc db_X4_walkFrom_7 36 rfl
theorem dc_X5_cutFrom_55 : decode prog_7_method_2_code 55 = .ok (.ifCond .eq 9, 3) := ky_dc db_X4_walkFrom_7 37 rfl
theorem dc_X5_cutFrom_64 : decode prog_7_method_2_code 64 = .ok (.lload 5, 2) := ky_dc db_X4_walkFrom_7 38 rfl
theorem dc_X5_cutFrom_66 : decode prog_7_method_2_code 66 = .ok (.lreturn, 1) := ky_dc db_X4_walkFrom_7 39 rfl
theorem dc_X5_cutFrom_58 : decode prog_7_method_2_code 58 = .ok (.lload 5, 2) := ky_dc db_X4_walkFrom_7 40 rfl
theorem dc_X5_cutFrom_60 : decode prog_7_method_2_code 60 = .ok (.lneg, 1) := ky_dc db_X4_walkFrom_7 41 rfl
theorem dc_X5_cutFrom_61 : decode prog_7_method_2_code 61 = .ok (.goto 5, 3) := ky_dc db_X4_walkFrom_7 42 rfl
theorem dc_X5_cutFrom_37 : decode prog_7_method_2_code 37 = .ok (.lload_n 3, 1) := ky_dc db_X4_walkFrom_7 43 rfl
theorem dc_X5_cutFrom_38 : decode prog_7_method_2_code 38 = .ok (.iload_n 2, 1) := ky_dc db_X4_walkFrom_7 44 rfl
theorem dc_X5_cutFrom_39 : decode prog_7_method_2_code 39 = .ok (.lshl, 1) := ky_dc db_X4_walkFrom_7 45 rfl
theorem dc_X5_cutFrom_40 : decode prog_7_method_2_code 40 = .ok (.goto 9, 3) := ky_dc db_X4_walkFrom_7 46 rfl
theorem dc_X5_cutFrom_11 : decode prog_7_method_2_code 11 = .ok (.lload_n 0, 1) := ky_dc db_X4_walkFrom_7 47 rfl
theorem dc_X5_cutFrom_12 : decode prog_7_method_2_code 12 = .ok (.invokestatic 15, 3) := ky_dc db_X4_walkFrom_7 48 rfl
theorem dc_X5_cutFrom_15 : decode prog_7_method_2_code 15 = .ok (.ifCond .eq 9, 3) := ky_dc db_X4_walkFrom_7 49 rfl
theorem dc_X5_cutFrom_24 : decode prog_7_method_2_code 24 = .ok (.ldc2_w 21, 3) := ky_dc db_X4_walkFrom_7 50 rfl
theorem dc_X5_cutFrom_27 : decode prog_7_method_2_code 27 = .ok (.lreturn, 1) := ky_dc db_X4_walkFrom_7 51 rfl
theorem dc_X5_cutFrom_18 : decode prog_7_method_2_code 18 = .ok (.ldc2_w 19, 3) := ky_dc db_X4_walkFrom_7 52 rfl
theorem dc_X5_cutFrom_21 : decode prog_7_method_2_code 21 = .ok (.goto 6, 3) := ky_dc db_X4_walkFrom_7 53 rfl
theorem dc_X5_roundFrom_0 : decode prog_7_method_3_code 0 = .ok (.lload_n 0, 1) := ky_dc db_X4_walkFrom_7 54 rfl
theorem dc_X5_roundFrom_1 : decode prog_7_method_3_code 1 = .ok (.invokestatic 27, 3) := ky_dc db_X4_walkFrom_7 55 rfl
theorem dc_X5_roundFrom_4 : decode prog_7_method_3_code 4 = .ok (.istore_n 2, 1) := ky_dc db_X4_walkFrom_7 56 rfl
theorem dc_X5_roundFrom_5 : decode prog_7_method_3_code 5 = .ok (.iload_n 2, 1) := ky_dc db_X4_walkFrom_7 57 rfl
theorem dc_X5_roundFrom_6 : decode prog_7_method_3_code 6 = .ok (.ifCond .ne 8, 3) := ky_dc db_X4_walkFrom_7 58 rfl
theorem dc_X5_roundFrom_14 : decode prog_7_method_3_code 14 = .ok (.lload_n 0, 1) := ky_dc db_X4_walkFrom_7 59 rfl
def dl_X5_roundFrom_15 : List (ByteArray × Nat × Jvm.ClassFile.Instr × Nat) := [(prog_7_method_3_code, 15, .invokestatic 33, 3), (prog_7_method_3_code, 18, .lstore_n 3, 1), (prog_7_method_3_code, 19, .lconst 1, 1), (prog_7_method_3_code, 20, .iload_n 2, 1), (prog_7_method_3_code, 21, .iconst 1, 1), (prog_7_method_3_code, 22, .isub, 1), (prog_7_method_3_code, 23, .lshl, 1), (prog_7_method_3_code, 24, .lstore 5, 2), (prog_7_method_3_code, 26, .lload_n 0, 1), (prog_7_method_3_code, 27, .invokestatic 15, 3), (prog_7_method_3_code, 30, .ifCond .eq 24, 3), (prog_7_method_3_code, 54, .lload_n 3, 1), (prog_7_method_3_code, 55, .lload 5, 2), (prog_7_method_3_code, 57, .lcmp, 1), (prog_7_method_3_code, 58, .ifCond .lt 12, 3), (prog_7_method_3_code, 70, .lload_n 0, 1), (prog_7_method_3_code, 71, .invokestatic 30, 3), (prog_7_method_3_code, 74, .lreturn, 1), (prog_7_method_3_code, 61, .lload_n 0, 1), (prog_7_method_3_code, 62, .invokestatic 30, 3), (prog_7_method_3_code, 65, .lconst 1, 1), (prog_7_method_3_code, 66, .ladd, 1), (prog_7_method_3_code, 67, .goto 7, 3), (prog_7_method_3_code, 33, .lload_n 3, 1), (prog_7_method_3_code, 34, .lload 5, 2), (prog_7_method_3_code, 36, .lcmp, 1), (prog_7_method_3_code, 37, .ifCond .le 12, 3), (prog_7_method_3_code, 49, .lload_n 0, 1), (prog_7_method_3_code, 50, .invokestatic 30, 3), (prog_7_method_3_code, 53, .lreturn, 1), (prog_7_method_3_code, 40, .lload_n 0, 1), (prog_7_method_3_code, 41, .invokestatic 30, 3), (prog_7_method_3_code, 44, .lconst 1, 1), (prog_7_method_3_code, 45, .lsub, 1), (prog_7_method_3_code, 46, .goto 7, 3), (prog_7_method_3_code, 9, .lload_n 0, 1), (prog_7_method_3_code, 10, .invokestatic 30, 3), (prog_7_method_3_code, 13, .lreturn, 1), (prog_7_method_4_code, 0, .ldc2_w 36, 3), (prog_7_method_4_code, 3, .ldc2_w 38, 3), (prog_7_method_4_code, 6, .lload_n 0, 1), (prog_7_method_4_code, 7, .invokestatic 30, 3), (prog_7_method_4_code, 10, .invokestatic 40, 3), (prog_7_method_4_code, 13, .invokestatic 46, 3), (prog_7_method_4_code, 16, .l2i, 1), (prog_7_method_4_code, 17, .ireturn, 1), (prog_19_method_42_code, 0, .lload_n 0, 1), (prog_19_method_42_code, 1, .lload_n 2, 1), (prog_19_method_42_code, 2, .lcmp, 1), (prog_19_method_42_code, 3, .ifCond .ge 7, 3), (prog_19_method_42_code, 10, .lload_n 0, 1), (prog_19_method_42_code, 11, .lload_n 2, 1), (prog_19_method_42_code, 12, .lcmp, 1), (prog_19_method_42_code, 13, .ifCond .ne 7, 3), (prog_19_method_42_code, 20, .iconst 1, 1), (prog_19_method_42_code, 21, .ireturn, 1), (prog_19_method_42_code, 16, .iconst 0, 1), (prog_19_method_42_code, 17, .goto 4, 3), (prog_19_method_42_code, 6, .iconst (-1), 1), (prog_19_method_42_code, 7, .goto 14, 3)]
theorem db_X5_roundFrom_15 : dl_X5_roundFrom_15.all (fun x => decide (decode x.1 x.2.1 = .ok x.2.2)) = true := by decide +kernel
theorem dc_X5_roundFrom_15 : decode prog_7_method_3_code 15 = .ok (.invokestatic 33, 3) := ky_dc db_X5_roundFrom_15 0 rfl
theorem dc_X5_roundFrom_18 : decode prog_7_method_3_code 18 = .ok (.lstore_n 3, 1) := ky_dc db_X5_roundFrom_15 1 rfl
theorem dc_X5_roundFrom_19 : decode prog_7_method_3_code 19 = .ok (.lconst 1, 1) := ky_dc db_X5_roundFrom_15 2 rfl
theorem dc_X5_roundFrom_20 : decode prog_7_method_3_code 20 = .ok (.iload_n 2, 1) := ky_dc db_X5_roundFrom_15 3 rfl
theorem dc_X5_roundFrom_21 : decode prog_7_method_3_code 21 = .ok (.iconst 1, 1) := ky_dc db_X5_roundFrom_15 4 rfl
theorem dc_X5_roundFrom_22 : decode prog_7_method_3_code 22 = .ok (.isub, 1) := ky_dc db_X5_roundFrom_15 5 rfl
theorem dc_X5_roundFrom_23 : decode prog_7_method_3_code 23 = .ok (.lshl, 1) := ky_dc db_X5_roundFrom_15 6 rfl
theorem dc_X5_roundFrom_24 : decode prog_7_method_3_code 24 = .ok (.lstore 5, 2) := ky_dc db_X5_roundFrom_15 7 rfl
theorem dc_X5_roundFrom_26 : decode prog_7_method_3_code 26 = .ok (.lload_n 0, 1) := ky_dc db_X5_roundFrom_15 8 rfl
theorem dc_X5_roundFrom_27 : decode prog_7_method_3_code 27 = .ok (.invokestatic 15, 3) := ky_dc db_X5_roundFrom_15 9 rfl
theorem dc_X5_roundFrom_30 : decode prog_7_method_3_code 30 = .ok (.ifCond .eq 24, 3) := ky_dc db_X5_roundFrom_15 10 rfl
theorem dc_X5_roundFrom_54 : decode prog_7_method_3_code 54 = .ok (.lload_n 3, 1) := ky_dc db_X5_roundFrom_15 11 rfl
theorem dc_X5_roundFrom_55 : decode prog_7_method_3_code 55 = .ok (.lload 5, 2) := ky_dc db_X5_roundFrom_15 12 rfl
theorem dc_X5_roundFrom_57 : decode prog_7_method_3_code 57 = .ok (.lcmp, 1) := ky_dc db_X5_roundFrom_15 13 rfl
theorem dc_X5_roundFrom_58 : decode prog_7_method_3_code 58 = .ok (.ifCond .lt 12, 3) := ky_dc db_X5_roundFrom_15 14 rfl
theorem dc_X5_roundFrom_70 : decode prog_7_method_3_code 70 = .ok (.lload_n 0, 1) := ky_dc db_X5_roundFrom_15 15 rfl
theorem dc_X5_roundFrom_71 : decode prog_7_method_3_code 71 = .ok (.invokestatic 30, 3) := ky_dc db_X5_roundFrom_15 16 rfl
theorem dc_X5_roundFrom_74 : decode prog_7_method_3_code 74 = .ok (.lreturn, 1) := ky_dc db_X5_roundFrom_15 17 rfl
theorem dc_X5_roundFrom_61 : decode prog_7_method_3_code 61 = .ok (.lload_n 0, 1) := ky_dc db_X5_roundFrom_15 18 rfl
theorem dc_X5_roundFrom_62 : decode prog_7_method_3_code 62 = .ok (.invokestatic 30, 3) := ky_dc db_X5_roundFrom_15 19 rfl
theorem dc_X5_roundFrom_65 : decode prog_7_method_3_code 65 = .ok (.lconst 1, 1) := ky_dc db_X5_roundFrom_15 20 rfl
theorem dc_X5_roundFrom_66 : decode prog_7_method_3_code 66 = .ok (.ladd, 1) := ky_dc db_X5_roundFrom_15 21 rfl
theorem dc_X5_roundFrom_67 : decode prog_7_method_3_code 67 = .ok (.goto 7, 3) := ky_dc db_X5_roundFrom_15 22 rfl
theorem dc_X5_roundFrom_33 : decode prog_7_method_3_code 33 = .ok (.lload_n 3, 1) := ky_dc db_X5_roundFrom_15 23 rfl
theorem dc_X5_roundFrom_34 : decode prog_7_method_3_code 34 = .ok (.lload 5, 2) := ky_dc db_X5_roundFrom_15 24 rfl
theorem dc_X5_roundFrom_36 : decode prog_7_method_3_code 36 = .ok (.lcmp, 1) := ky_dc db_X5_roundFrom_15 25 rfl
theorem dc_X5_roundFrom_37 : decode prog_7_method_3_code 37 = .ok (.ifCond .le 12, 3) := ky_dc db_X5_roundFrom_15 26 rfl
theorem dc_X5_roundFrom_49 : decode prog_7_method_3_code 49 = .ok (.lload_n 0, 1) := ky_dc db_X5_roundFrom_15 27 rfl
theorem dc_X5_roundFrom_50 : decode prog_7_method_3_code 50 = .ok (.invokestatic 30, 3) := ky_dc db_X5_roundFrom_15 28 rfl
theorem dc_X5_roundFrom_53 : decode prog_7_method_3_code 53 = .ok (.lreturn, 1) := ky_dc db_X5_roundFrom_15 29 rfl
theorem dc_X5_roundFrom_40 : decode prog_7_method_3_code 40 = .ok (.lload_n 0, 1) := ky_dc db_X5_roundFrom_15 30 rfl
theorem dc_X5_roundFrom_41 : decode prog_7_method_3_code 41 = .ok (.invokestatic 30, 3) := ky_dc db_X5_roundFrom_15 31 rfl
theorem dc_X5_roundFrom_44 : decode prog_7_method_3_code 44 = .ok (.lconst 1, 1) := ky_dc db_X5_roundFrom_15 32 rfl
theorem dc_X5_roundFrom_45 : decode prog_7_method_3_code 45 = .ok (.lsub, 1) := ky_dc db_X5_roundFrom_15 33 rfl
theorem dc_X5_roundFrom_46 : decode prog_7_method_3_code 46 = .ok (.goto 7, 3) := ky_dc db_X5_roundFrom_15 34 rfl
theorem dc_X5_roundFrom_9 : decode prog_7_method_3_code 9 = .ok (.lload_n 0, 1) := ky_dc db_X5_roundFrom_15 35 rfl
theorem dc_X5_roundFrom_10 : decode prog_7_method_3_code 10 = .ok (.invokestatic 30, 3) := ky_dc db_X5_roundFrom_15 36 rfl
theorem dc_X5_roundFrom_13 : decode prog_7_method_3_code 13 = .ok (.lreturn, 1) := ky_dc db_X5_roundFrom_15 37 rfl
theorem dc_X5_shortFrom_0 : decode prog_7_method_4_code 0 = .ok (.ldc2_w 36, 3) := ky_dc db_X5_roundFrom_15 38 rfl
theorem dc_X5_shortFrom_3 : decode prog_7_method_4_code 3 = .ok (.ldc2_w 38, 3) := ky_dc db_X5_roundFrom_15 39 rfl
theorem dc_X5_shortFrom_6 : decode prog_7_method_4_code 6 = .ok (.lload_n 0, 1) := ky_dc db_X5_roundFrom_15 40 rfl
theorem dc_X5_shortFrom_7 : decode prog_7_method_4_code 7 = .ok (.invokestatic 30, 3) := ky_dc db_X5_roundFrom_15 41 rfl
theorem dc_X5_shortFrom_10 : decode prog_7_method_4_code 10 = .ok (.invokestatic 40, 3) := ky_dc db_X5_roundFrom_15 42 rfl
theorem dc_X5_shortFrom_13 : decode prog_7_method_4_code 13 = .ok (.invokestatic 46, 3) := ky_dc db_X5_roundFrom_15 43 rfl
theorem dc_X5_shortFrom_16 : decode prog_7_method_4_code 16 = .ok (.l2i, 1) := ky_dc db_X5_roundFrom_15 44 rfl
theorem dc_X5_shortFrom_17 : decode prog_7_method_4_code 17 = .ok (.ireturn, 1) := ky_dc db_X5_roundFrom_15 45 rfl
theorem dc_J13_compare_74951_0 : decode prog_19_method_42_code 0 = .ok (.lload_n 0, 1) := ky_dc db_X5_roundFrom_15 46 rfl
theorem dc_J13_compare_74951_1 : decode prog_19_method_42_code 1 = .ok (.lload_n 2, 1) := ky_dc db_X5_roundFrom_15 47 rfl
theorem dc_J13_compare_74951_2 : decode prog_19_method_42_code 2 = .ok (.lcmp, 1) := ky_dc db_X5_roundFrom_15 48 rfl
theorem dc_J13_compare_74951_3 : decode prog_19_method_42_code 3 = .ok (.ifCond .ge 7, 3) := ky_dc db_X5_roundFrom_15 49 rfl
theorem dc_J13_compare_74951_10 : decode prog_19_method_42_code 10 = .ok (.lload_n 0, 1) := ky_dc db_X5_roundFrom_15 50 rfl
theorem dc_J13_compare_74951_11 : decode prog_19_method_42_code 11 = .ok (.lload_n 2, 1) := ky_dc db_X5_roundFrom_15 51 rfl
theorem dc_J13_compare_74951_12 : decode prog_19_method_42_code 12 = .ok (.lcmp, 1) := ky_dc db_X5_roundFrom_15 52 rfl
theorem dc_J13_compare_74951_13 : decode prog_19_method_42_code 13 = .ok (.ifCond .ne 7, 3) := ky_dc db_X5_roundFrom_15 53 rfl
theorem dc_J13_compare_74951_20 : decode prog_19_method_42_code 20 = .ok (.iconst 1, 1) := ky_dc db_X5_roundFrom_15 54 rfl
theorem dc_J13_compare_74951_21 : decode prog_19_method_42_code 21 = .ok (.ireturn, 1) := ky_dc db_X5_roundFrom_15 55 rfl
theorem dc_J13_compare_74951_16 : decode prog_19_method_42_code 16 = .ok (.iconst 0, 1) := ky_dc db_X5_roundFrom_15 56 rfl
theorem dc_J13_compare_74951_17 : decode prog_19_method_42_code 17 = .ok (.goto 4, 3) := ky_dc db_X5_roundFrom_15 57 rfl
theorem dc_J13_compare_74951_6 : decode prog_19_method_42_code 6 = .ok (.iconst (-1), 1) := ky_dc db_X5_roundFrom_15 58 rfl
theorem dc_J13_compare_74951_7 : decode prog_19_method_42_code 7 = .ok (.goto 14, 3) := ky_dc db_X5_roundFrom_15 59 rfl
def dl_X1_areWholesRight_0 : List (ByteArray × Nat × Jvm.ClassFile.Instr × Nat) := [(prog_3_method_3_code, 0, .lload_n 0, 1), (prog_3_method_3_code, 1, .invokestatic 37, 3), (prog_3_method_3_code, 4, .lstore_n 2, 1), (prog_3_method_3_code, 5, .lload_n 0, 1), (prog_3_method_3_code, 6, .invokestatic 43, 3), (prog_3_method_3_code, 9, .lstore 4, 2), (prog_3_method_3_code, 11, .lload_n 0, 1), (prog_3_method_3_code, 12, .invokestatic 46, 3), (prog_3_method_3_code, 15, .lstore 6, 2), (prog_3_method_3_code, 17, .lload_n 2, 1), (prog_3_method_3_code, 18, .invokestatic 51, 3), (prog_3_method_3_code, 21, .lload_n 0, 1), (prog_3_method_3_code, 22, .invokestatic 51, 3), (prog_3_method_3_code, 25, .lcmp, 1), (prog_3_method_3_code, 26, .ifCond .gt 47, 3), (prog_3_method_3_code, 73, .iconst 0, 1), (prog_3_method_3_code, 74, .ireturn, 1), (prog_3_method_3_code, 29, .lload 4, 2), (prog_3_method_3_code, 31, .invokestatic 51, 3), (prog_3_method_3_code, 34, .lload_n 0, 1), (prog_3_method_3_code, 35, .invokestatic 51, 3), (prog_3_method_3_code, 38, .lcmp, 1), (prog_3_method_3_code, 39, .ifCond .lt 34, 3), (prog_3_method_3_code, 42, .lload_n 2, 1), (prog_3_method_3_code, 43, .lload 6, 2), (prog_3_method_3_code, 45, .invokestatic 43, 3), (prog_3_method_3_code, 48, .invokestatic 46, 3), (prog_3_method_3_code, 51, .lcmp, 1), (prog_3_method_3_code, 52, .ifCond .ne 21, 3), (prog_3_method_3_code, 55, .lload 4, 2), (prog_3_method_3_code, 57, .lload 6, 2), (prog_3_method_3_code, 59, .invokestatic 37, 3), (prog_3_method_3_code, 62, .invokestatic 46, 3), (prog_3_method_3_code, 65, .lcmp, 1), (prog_3_method_3_code, 66, .ifCond .ne 7, 3), (prog_3_method_3_code, 69, .iconst 1, 1), (prog_3_method_3_code, 70, .goto 4, 3), (prog_3_method_4_code, 0, .lload_n 0, 1), (prog_3_method_4_code, 1, .invokestatic 37, 3), (prog_3_method_4_code, 4, .lstore_n 2, 1), (prog_3_method_4_code, 5, .lload_n 0, 1), (prog_3_method_4_code, 6, .invokestatic 43, 3), (prog_3_method_4_code, 9, .lstore 4, 2), (prog_3_method_4_code, 11, .lload_n 0, 1), (prog_3_method_4_code, 12, .invokestatic 54, 3), (prog_3_method_4_code, 15, .lstore 6, 2), (prog_3_method_4_code, 17, .lload 6, 2), (prog_3_method_4_code, 19, .lload_n 2, 1), (prog_3_method_4_code, 20, .lcmp, 1), (prog_3_method_4_code, 21, .ifCond .eq 13, 3), (prog_3_method_4_code, 34, .lload_n 2, 1), (prog_3_method_4_code, 35, .lload 4, 2), (prog_3_method_4_code, 37, .lcmp, 1), (prog_3_method_4_code, 38, .ifCond .ne 5, 3), (prog_3_method_4_code, 43, .lload_n 0, 1), (prog_3_method_4_code, 44, .invokestatic 57, 3), (prog_3_method_4_code, 47, .ifCond .eq 8, 3), (prog_3_method_4_code, 55, .lload_n 2, 1), (prog_3_method_4_code, 56, .lstore 8, 2), (prog_3_method_4_code, 58, .lload_n 0, 1)]
theorem db_X1_areWholesRight_0 : dl_X1_areWholesRight_0.all (fun x => decide (decode x.1 x.2.1 = .ok x.2.2)) = true := by decide +kernel
theorem dc_X1_areWholesRight_0 : decode prog_3_method_3_code 0 = .ok (.lload_n 0, 1) := ky_dc db_X1_areWholesRight_0 0 rfl
theorem dc_X1_areWholesRight_1 : decode prog_3_method_3_code 1 = .ok (.invokestatic 37, 3) := ky_dc db_X1_areWholesRight_0 1 rfl
theorem dc_X1_areWholesRight_4 : decode prog_3_method_3_code 4 = .ok (.lstore_n 2, 1) := ky_dc db_X1_areWholesRight_0 2 rfl
theorem dc_X1_areWholesRight_5 : decode prog_3_method_3_code 5 = .ok (.lload_n 0, 1) := ky_dc db_X1_areWholesRight_0 3 rfl
theorem dc_X1_areWholesRight_6 : decode prog_3_method_3_code 6 = .ok (.invokestatic 43, 3) := ky_dc db_X1_areWholesRight_0 4 rfl
theorem dc_X1_areWholesRight_9 : decode prog_3_method_3_code 9 = .ok (.lstore 4, 2) := ky_dc db_X1_areWholesRight_0 5 rfl
theorem dc_X1_areWholesRight_11 : decode prog_3_method_3_code 11 = .ok (.lload_n 0, 1) := ky_dc db_X1_areWholesRight_0 6 rfl
theorem dc_X1_areWholesRight_12 : decode prog_3_method_3_code 12 = .ok (.invokestatic 46, 3) := ky_dc db_X1_areWholesRight_0 7 rfl
theorem dc_X1_areWholesRight_15 : decode prog_3_method_3_code 15 = .ok (.lstore 6, 2) := ky_dc db_X1_areWholesRight_0 8 rfl
theorem dc_X1_areWholesRight_17 : decode prog_3_method_3_code 17 = .ok (.lload_n 2, 1) := ky_dc db_X1_areWholesRight_0 9 rfl
theorem dc_X1_areWholesRight_18 : decode prog_3_method_3_code 18 = .ok (.invokestatic 51, 3) := ky_dc db_X1_areWholesRight_0 10 rfl
theorem dc_X1_areWholesRight_21 : decode prog_3_method_3_code 21 = .ok (.lload_n 0, 1) := ky_dc db_X1_areWholesRight_0 11 rfl
theorem dc_X1_areWholesRight_22 : decode prog_3_method_3_code 22 = .ok (.invokestatic 51, 3) := ky_dc db_X1_areWholesRight_0 12 rfl
theorem dc_X1_areWholesRight_25 : decode prog_3_method_3_code 25 = .ok (.lcmp, 1) := ky_dc db_X1_areWholesRight_0 13 rfl
theorem dc_X1_areWholesRight_26 : decode prog_3_method_3_code 26 = .ok (.ifCond .gt 47, 3) := ky_dc db_X1_areWholesRight_0 14 rfl
theorem dc_X1_areWholesRight_73 : decode prog_3_method_3_code 73 = .ok (.iconst 0, 1) := ky_dc db_X1_areWholesRight_0 15 rfl
theorem dc_X1_areWholesRight_74 : decode prog_3_method_3_code 74 = .ok (.ireturn, 1) := ky_dc db_X1_areWholesRight_0 16 rfl
theorem dc_X1_areWholesRight_29 : decode prog_3_method_3_code 29 = .ok (.lload 4, 2) := ky_dc db_X1_areWholesRight_0 17 rfl
theorem dc_X1_areWholesRight_31 : decode prog_3_method_3_code 31 = .ok (.invokestatic 51, 3) := ky_dc db_X1_areWholesRight_0 18 rfl
theorem dc_X1_areWholesRight_34 : decode prog_3_method_3_code 34 = .ok (.lload_n 0, 1) := ky_dc db_X1_areWholesRight_0 19 rfl
theorem dc_X1_areWholesRight_35 : decode prog_3_method_3_code 35 = .ok (.invokestatic 51, 3) := ky_dc db_X1_areWholesRight_0 20 rfl
theorem dc_X1_areWholesRight_38 : decode prog_3_method_3_code 38 = .ok (.lcmp, 1) := ky_dc db_X1_areWholesRight_0 21 rfl
theorem dc_X1_areWholesRight_39 : decode prog_3_method_3_code 39 = .ok (.ifCond .lt 34, 3) := ky_dc db_X1_areWholesRight_0 22 rfl
theorem dc_X1_areWholesRight_42 : decode prog_3_method_3_code 42 = .ok (.lload_n 2, 1) := ky_dc db_X1_areWholesRight_0 23 rfl
theorem dc_X1_areWholesRight_43 : decode prog_3_method_3_code 43 = .ok (.lload 6, 2) := ky_dc db_X1_areWholesRight_0 24 rfl
theorem dc_X1_areWholesRight_45 : decode prog_3_method_3_code 45 = .ok (.invokestatic 43, 3) := ky_dc db_X1_areWholesRight_0 25 rfl
theorem dc_X1_areWholesRight_48 : decode prog_3_method_3_code 48 = .ok (.invokestatic 46, 3) := ky_dc db_X1_areWholesRight_0 26 rfl
theorem dc_X1_areWholesRight_51 : decode prog_3_method_3_code 51 = .ok (.lcmp, 1) := ky_dc db_X1_areWholesRight_0 27 rfl
theorem dc_X1_areWholesRight_52 : decode prog_3_method_3_code 52 = .ok (.ifCond .ne 21, 3) := ky_dc db_X1_areWholesRight_0 28 rfl
theorem dc_X1_areWholesRight_55 : decode prog_3_method_3_code 55 = .ok (.lload 4, 2) := ky_dc db_X1_areWholesRight_0 29 rfl
theorem dc_X1_areWholesRight_57 : decode prog_3_method_3_code 57 = .ok (.lload 6, 2) := ky_dc db_X1_areWholesRight_0 30 rfl
theorem dc_X1_areWholesRight_59 : decode prog_3_method_3_code 59 = .ok (.invokestatic 37, 3) := ky_dc db_X1_areWholesRight_0 31 rfl
theorem dc_X1_areWholesRight_62 : decode prog_3_method_3_code 62 = .ok (.invokestatic 46, 3) := ky_dc db_X1_areWholesRight_0 32 rfl
theorem dc_X1_areWholesRight_65 : decode prog_3_method_3_code 65 = .ok (.lcmp, 1) := ky_dc db_X1_areWholesRight_0 33 rfl
theorem dc_X1_areWholesRight_66 : decode prog_3_method_3_code 66 = .ok (.ifCond .ne 7, 3) := ky_dc db_X1_areWholesRight_0 34 rfl
theorem dc_X1_areWholesRight_69 : decode prog_3_method_3_code 69 = .ok (.iconst 1, 1) := ky_dc db_X1_areWholesRight_0 35 rfl
theorem dc_X1_areWholesRight_70 : decode prog_3_method_3_code 70 = .ok (.goto 4, 3) := ky_dc db_X1_areWholesRight_0 36 rfl
theorem dc_X1_isRintRight_0 : decode prog_3_method_4_code 0 = .ok (.lload_n 0, 1) := ky_dc db_X1_areWholesRight_0 37 rfl
theorem dc_X1_isRintRight_1 : decode prog_3_method_4_code 1 = .ok (.invokestatic 37, 3) := ky_dc db_X1_areWholesRight_0 38 rfl
theorem dc_X1_isRintRight_4 : decode prog_3_method_4_code 4 = .ok (.lstore_n 2, 1) := ky_dc db_X1_areWholesRight_0 39 rfl
theorem dc_X1_isRintRight_5 : decode prog_3_method_4_code 5 = .ok (.lload_n 0, 1) := ky_dc db_X1_areWholesRight_0 40 rfl
theorem dc_X1_isRintRight_6 : decode prog_3_method_4_code 6 = .ok (.invokestatic 43, 3) := ky_dc db_X1_areWholesRight_0 41 rfl
theorem dc_X1_isRintRight_9 : decode prog_3_method_4_code 9 = .ok (.lstore 4, 2) := ky_dc db_X1_areWholesRight_0 42 rfl
theorem dc_X1_isRintRight_11 : decode prog_3_method_4_code 11 = .ok (.lload_n 0, 1) := ky_dc db_X1_areWholesRight_0 43 rfl
theorem dc_X1_isRintRight_12 : decode prog_3_method_4_code 12 = .ok (.invokestatic 54, 3) := ky_dc db_X1_areWholesRight_0 44 rfl
theorem dc_X1_isRintRight_15 : decode prog_3_method_4_code 15 = .ok (.lstore 6, 2) := ky_dc db_X1_areWholesRight_0 45 rfl
theorem dc_X1_isRintRight_17 : decode prog_3_method_4_code 17 = .ok (.lload 6, 2) := ky_dc db_X1_areWholesRight_0 46 rfl
theorem dc_X1_isRintRight_19 : decode prog_3_method_4_code 19 = .ok (.lload_n 2, 1) := ky_dc db_X1_areWholesRight_0 47 rfl
theorem dc_X1_isRintRight_20 : decode prog_3_method_4_code 20 = .ok (.lcmp, 1) := ky_dc db_X1_areWholesRight_0 48 rfl
theorem dc_X1_isRintRight_21 : decode prog_3_method_4_code 21 = .ok (.ifCond .eq 13, 3) := ky_dc db_X1_areWholesRight_0 49 rfl
theorem dc_X1_isRintRight_34 : decode prog_3_method_4_code 34 = .ok (.lload_n 2, 1) := ky_dc db_X1_areWholesRight_0 50 rfl
theorem dc_X1_isRintRight_35 : decode prog_3_method_4_code 35 = .ok (.lload 4, 2) := ky_dc db_X1_areWholesRight_0 51 rfl
theorem dc_X1_isRintRight_37 : decode prog_3_method_4_code 37 = .ok (.lcmp, 1) := ky_dc db_X1_areWholesRight_0 52 rfl
theorem dc_X1_isRintRight_38 : decode prog_3_method_4_code 38 = .ok (.ifCond .ne 5, 3) := ky_dc db_X1_areWholesRight_0 53 rfl
theorem dc_X1_isRintRight_43 : decode prog_3_method_4_code 43 = .ok (.lload_n 0, 1) := ky_dc db_X1_areWholesRight_0 54 rfl
theorem dc_X1_isRintRight_44 : decode prog_3_method_4_code 44 = .ok (.invokestatic 57, 3) := ky_dc db_X1_areWholesRight_0 55 rfl
theorem dc_X1_isRintRight_47 : decode prog_3_method_4_code 47 = .ok (.ifCond .eq 8, 3) := ky_dc db_X1_areWholesRight_0 56 rfl
theorem dc_X1_isRintRight_55 : decode prog_3_method_4_code 55 = .ok (.lload_n 2, 1) := ky_dc db_X1_areWholesRight_0 57 rfl
theorem dc_X1_isRintRight_56 : decode prog_3_method_4_code 56 = .ok (.lstore 8, 2) := ky_dc db_X1_areWholesRight_0 58 rfl
theorem dc_X1_isRintRight_58 : decode prog_3_method_4_code 58 = .ok (.lload_n 0, 1) := ky_dc db_X1_areWholesRight_0 59 rfl
def dl_X1_isRintRight_59 : List (ByteArray × Nat × Jvm.ClassFile.Instr × Nat) := [(prog_3_method_4_code, 59, .invokestatic 60, 3), (prog_3_method_4_code, 62, .lstore 10, 2), (prog_3_method_4_code, 64, .lconst 1, 1), (prog_3_method_4_code, 65, .lload_n 0, 1), (prog_3_method_4_code, 66, .invokestatic 63, 3), (prog_3_method_4_code, 69, .lshl, 1), (prog_3_method_4_code, 70, .lload 10, 2), (prog_3_method_4_code, 72, .lsub, 1), (prog_3_method_4_code, 73, .lstore 12, 2), (prog_3_method_4_code, 75, .lload 6, 2), (prog_3_method_4_code, 77, .lload 8, 2), (prog_3_method_4_code, 79, .lcmp, 1), (prog_3_method_4_code, 80, .ifCond .ne 19, 3), (prog_3_method_4_code, 99, .lload 12, 2), (prog_3_method_4_code, 101, .lload 10, 2), (prog_3_method_4_code, 103, .lcmp, 1), (prog_3_method_4_code, 104, .ifCond .gt 7, 3), (prog_3_method_4_code, 111, .iconst 0, 1), (prog_3_method_4_code, 112, .ireturn, 1), (prog_3_method_4_code, 107, .iconst 1, 1), (prog_3_method_4_code, 108, .goto 4, 3), (prog_3_method_4_code, 83, .lload 10, 2), (prog_3_method_4_code, 85, .lload 12, 2), (prog_3_method_4_code, 87, .lcmp, 1), (prog_3_method_4_code, 88, .ifCond .gt 7, 3), (prog_3_method_4_code, 95, .iconst 0, 1), (prog_3_method_4_code, 96, .goto 16, 3), (prog_3_method_4_code, 91, .iconst 1, 1), (prog_3_method_4_code, 92, .goto 20, 3), (prog_3_method_4_code, 50, .lload 4, 2), (prog_3_method_4_code, 52, .goto 4, 3), (prog_3_method_4_code, 41, .iconst 1, 1), (prog_3_method_4_code, 42, .ireturn, 1), (prog_3_method_4_code, 24, .lload 6, 2), (prog_3_method_4_code, 26, .lload 4, 2), (prog_3_method_4_code, 28, .lcmp, 1), (prog_3_method_4_code, 29, .ifCond .eq 5, 3), (prog_3_method_4_code, 32, .iconst 0, 1), (prog_3_method_4_code, 33, .ireturn, 1), (prog_3_method_5_code, 0, .lload_n 0, 1), (prog_3_method_5_code, 1, .invokestatic 67, 3), (prog_3_method_5_code, 4, .lstore_n 2, 1), (prog_3_method_5_code, 5, .lload_n 0, 1), (prog_3_method_5_code, 6, .invokestatic 70, 3), (prog_3_method_5_code, 9, .lstore 4, 2), (prog_3_method_5_code, 11, .lload_n 0, 1), (prog_3_method_5_code, 12, .invokestatic 46, 3), (prog_3_method_5_code, 15, .lstore 6, 2), (prog_3_method_5_code, 17, .lload_n 0, 1), (prog_3_method_5_code, 18, .invokestatic 73, 3), (prog_3_method_5_code, 21, .ifCond .ne 34, 3), (prog_3_method_5_code, 55, .iconst 1, 1), (prog_3_method_5_code, 56, .goto 4, 3), (prog_3_method_5_code, 60, .istore 8, 2), (prog_3_method_5_code, 62, .iload 8, 2), (prog_3_method_5_code, 64, .ifCond .eq 34, 3), (prog_3_method_5_code, 67, .lload_n 2, 1), (prog_3_method_5_code, 68, .lload 6, 2), (prog_3_method_5_code, 70, .invokestatic 70, 3), (prog_3_method_5_code, 73, .invokestatic 46, 3)]
theorem db_X1_isRintRight_59 : dl_X1_isRintRight_59.all (fun x => decide (decode x.1 x.2.1 = .ok x.2.2)) = true := by decide +kernel
theorem dc_X1_isRintRight_59 : decode prog_3_method_4_code 59 = .ok (.invokestatic 60, 3) := ky_dc db_X1_isRintRight_59 0 rfl
theorem dc_X1_isRintRight_62 : decode prog_3_method_4_code 62 = .ok (.lstore 10, 2) := ky_dc db_X1_isRintRight_59 1 rfl
theorem dc_X1_isRintRight_64 : decode prog_3_method_4_code 64 = .ok (.lconst 1, 1) := ky_dc db_X1_isRintRight_59 2 rfl
theorem dc_X1_isRintRight_65 : decode prog_3_method_4_code 65 = .ok (.lload_n 0, 1) := ky_dc db_X1_isRintRight_59 3 rfl
theorem dc_X1_isRintRight_66 : decode prog_3_method_4_code 66 = .ok (.invokestatic 63, 3) := ky_dc db_X1_isRintRight_59 4 rfl
theorem dc_X1_isRintRight_69 : decode prog_3_method_4_code 69 = .ok (.lshl, 1) := ky_dc db_X1_isRintRight_59 5 rfl
theorem dc_X1_isRintRight_70 : decode prog_3_method_4_code 70 = .ok (.lload 10, 2) := ky_dc db_X1_isRintRight_59 6 rfl
theorem dc_X1_isRintRight_72 : decode prog_3_method_4_code 72 = .ok (.lsub, 1) := ky_dc db_X1_isRintRight_59 7 rfl
theorem dc_X1_isRintRight_73 : decode prog_3_method_4_code 73 = .ok (.lstore 12, 2) := ky_dc db_X1_isRintRight_59 8 rfl
theorem dc_X1_isRintRight_75 : decode prog_3_method_4_code 75 = .ok (.lload 6, 2) := ky_dc db_X1_isRintRight_59 9 rfl
theorem dc_X1_isRintRight_77 : decode prog_3_method_4_code 77 = .ok (.lload 8, 2) := ky_dc db_X1_isRintRight_59 10 rfl
theorem dc_X1_isRintRight_79 : decode prog_3_method_4_code 79 = .ok (.lcmp, 1) := ky_dc db_X1_isRintRight_59 11 rfl
theorem dc_X1_isRintRight_80 : decode prog_3_method_4_code 80 = .ok (.ifCond .ne 19, 3) := ky_dc db_X1_isRintRight_59 12 rfl
theorem dc_X1_isRintRight_99 : decode prog_3_method_4_code 99 = .ok (.lload 12, 2) := ky_dc db_X1_isRintRight_59 13 rfl
theorem dc_X1_isRintRight_101 : decode prog_3_method_4_code 101 = .ok (.lload 10, 2) := ky_dc db_X1_isRintRight_59 14 rfl
theorem dc_X1_isRintRight_103 : decode prog_3_method_4_code 103 = .ok (.lcmp, 1) := ky_dc db_X1_isRintRight_59 15 rfl
theorem dc_X1_isRintRight_104 : decode prog_3_method_4_code 104 = .ok (.ifCond .gt 7, 3) := ky_dc db_X1_isRintRight_59 16 rfl
theorem dc_X1_isRintRight_111 : decode prog_3_method_4_code 111 = .ok (.iconst 0, 1) := ky_dc db_X1_isRintRight_59 17 rfl
theorem dc_X1_isRintRight_112 : decode prog_3_method_4_code 112 = .ok (.ireturn, 1) := ky_dc db_X1_isRintRight_59 18 rfl
theorem dc_X1_isRintRight_107 : decode prog_3_method_4_code 107 = .ok (.iconst 1, 1) := ky_dc db_X1_isRintRight_59 19 rfl
theorem dc_X1_isRintRight_108 : decode prog_3_method_4_code 108 = .ok (.goto 4, 3) := ky_dc db_X1_isRintRight_59 20 rfl
theorem dc_X1_isRintRight_83 : decode prog_3_method_4_code 83 = .ok (.lload 10, 2) := ky_dc db_X1_isRintRight_59 21 rfl
theorem dc_X1_isRintRight_85 : decode prog_3_method_4_code 85 = .ok (.lload 12, 2) := ky_dc db_X1_isRintRight_59 22 rfl
theorem dc_X1_isRintRight_87 : decode prog_3_method_4_code 87 = .ok (.lcmp, 1) := ky_dc db_X1_isRintRight_59 23 rfl
theorem dc_X1_isRintRight_88 : decode prog_3_method_4_code 88 = .ok (.ifCond .gt 7, 3) := ky_dc db_X1_isRintRight_59 24 rfl
theorem dc_X1_isRintRight_95 : decode prog_3_method_4_code 95 = .ok (.iconst 0, 1) := ky_dc db_X1_isRintRight_59 25 rfl
theorem dc_X1_isRintRight_96 : decode prog_3_method_4_code 96 = .ok (.goto 16, 3) := ky_dc db_X1_isRintRight_59 26 rfl
theorem dc_X1_isRintRight_91 : decode prog_3_method_4_code 91 = .ok (.iconst 1, 1) := ky_dc db_X1_isRintRight_59 27 rfl
theorem dc_X1_isRintRight_92 : decode prog_3_method_4_code 92 = .ok (.goto 20, 3) := ky_dc db_X1_isRintRight_59 28 rfl
theorem dc_X1_isRintRight_50 : decode prog_3_method_4_code 50 = .ok (.lload 4, 2) := ky_dc db_X1_isRintRight_59 29 rfl
theorem dc_X1_isRintRight_52 : decode prog_3_method_4_code 52 = .ok (.goto 4, 3) := ky_dc db_X1_isRintRight_59 30 rfl
theorem dc_X1_isRintRight_41 : decode prog_3_method_4_code 41 = .ok (.iconst 1, 1) := ky_dc db_X1_isRintRight_59 31 rfl
theorem dc_X1_isRintRight_42 : decode prog_3_method_4_code 42 = .ok (.ireturn, 1) := ky_dc db_X1_isRintRight_59 32 rfl
theorem dc_X1_isRintRight_24 : decode prog_3_method_4_code 24 = .ok (.lload 6, 2) := ky_dc db_X1_isRintRight_59 33 rfl
theorem dc_X1_isRintRight_26 : decode prog_3_method_4_code 26 = .ok (.lload 4, 2) := ky_dc db_X1_isRintRight_59 34 rfl
theorem dc_X1_isRintRight_28 : decode prog_3_method_4_code 28 = .ok (.lcmp, 1) := ky_dc db_X1_isRintRight_59 35 rfl
theorem dc_X1_isRintRight_29 : decode prog_3_method_4_code 29 = .ok (.ifCond .eq 5, 3) := ky_dc db_X1_isRintRight_59 36 rfl
theorem dc_X1_isRintRight_32 : decode prog_3_method_4_code 32 = .ok (.iconst 0, 1) := ky_dc db_X1_isRintRight_59 37 rfl
theorem dc_X1_isRintRight_33 : decode prog_3_method_4_code 33 = .ok (.ireturn, 1) := ky_dc db_X1_isRintRight_59 38 rfl
theorem dc_X1_areNextRight_0 : decode prog_3_method_5_code 0 = .ok (.lload_n 0, 1) := ky_dc db_X1_isRintRight_59 39 rfl
theorem dc_X1_areNextRight_1 : decode prog_3_method_5_code 1 = .ok (.invokestatic 67, 3) := ky_dc db_X1_isRintRight_59 40 rfl
theorem dc_X1_areNextRight_4 : decode prog_3_method_5_code 4 = .ok (.lstore_n 2, 1) := ky_dc db_X1_isRintRight_59 41 rfl
theorem dc_X1_areNextRight_5 : decode prog_3_method_5_code 5 = .ok (.lload_n 0, 1) := ky_dc db_X1_isRintRight_59 42 rfl
theorem dc_X1_areNextRight_6 : decode prog_3_method_5_code 6 = .ok (.invokestatic 70, 3) := ky_dc db_X1_isRintRight_59 43 rfl
theorem dc_X1_areNextRight_9 : decode prog_3_method_5_code 9 = .ok (.lstore 4, 2) := ky_dc db_X1_isRintRight_59 44 rfl
theorem dc_X1_areNextRight_11 : decode prog_3_method_5_code 11 = .ok (.lload_n 0, 1) := ky_dc db_X1_isRintRight_59 45 rfl
theorem dc_X1_areNextRight_12 : decode prog_3_method_5_code 12 = .ok (.invokestatic 46, 3) := ky_dc db_X1_isRintRight_59 46 rfl
theorem dc_X1_areNextRight_15 : decode prog_3_method_5_code 15 = .ok (.lstore 6, 2) := ky_dc db_X1_isRintRight_59 47 rfl
theorem dc_X1_areNextRight_17 : decode prog_3_method_5_code 17 = .ok (.lload_n 0, 1) := ky_dc db_X1_isRintRight_59 48 rfl
theorem dc_X1_areNextRight_18 : decode prog_3_method_5_code 18 = .ok (.invokestatic 73, 3) := ky_dc db_X1_isRintRight_59 49 rfl
theorem dc_X1_areNextRight_21 : decode prog_3_method_5_code 21 = .ok (.ifCond .ne 34, 3) := ky_dc db_X1_isRintRight_59 50 rfl
theorem dc_X1_areNextRight_55 : decode prog_3_method_5_code 55 = .ok (.iconst 1, 1) := ky_dc db_X1_isRintRight_59 51 rfl
theorem dc_X1_areNextRight_56 : decode prog_3_method_5_code 56 = .ok (.goto 4, 3) := ky_dc db_X1_isRintRight_59 52 rfl
theorem dc_X1_areNextRight_60 : decode prog_3_method_5_code 60 = .ok (.istore 8, 2) := ky_dc db_X1_isRintRight_59 53 rfl
theorem dc_X1_areNextRight_62 : decode prog_3_method_5_code 62 = .ok (.iload 8, 2) := ky_dc db_X1_isRintRight_59 54 rfl
theorem dc_X1_areNextRight_64 : decode prog_3_method_5_code 64 = .ok (.ifCond .eq 34, 3) := ky_dc db_X1_isRintRight_59 55 rfl
theorem dc_X1_areNextRight_67 : decode prog_3_method_5_code 67 = .ok (.lload_n 2, 1) := ky_dc db_X1_isRintRight_59 56 rfl
theorem dc_X1_areNextRight_68 : decode prog_3_method_5_code 68 = .ok (.lload 6, 2) := ky_dc db_X1_isRintRight_59 57 rfl
theorem dc_X1_areNextRight_70 : decode prog_3_method_5_code 70 = .ok (.invokestatic 70, 3) := ky_dc db_X1_isRintRight_59 58 rfl
theorem dc_X1_areNextRight_73 : decode prog_3_method_5_code 73 = .ok (.invokestatic 46, 3) := ky_dc db_X1_isRintRight_59 59 rfl
def dl_X1_areNextRight_76 : List (ByteArray × Nat × Jvm.ClassFile.Instr × Nat) := [(prog_3_method_5_code, 76, .lcmp, 1), (prog_3_method_5_code, 77, .ifCond .ne 21, 3), (prog_3_method_5_code, 98, .iconst 0, 1), (prog_3_method_5_code, 99, .ireturn, 1), (prog_3_method_5_code, 80, .lload 4, 2), (prog_3_method_5_code, 82, .lload 6, 2), (prog_3_method_5_code, 84, .invokestatic 67, 3), (prog_3_method_5_code, 87, .invokestatic 46, 3), (prog_3_method_5_code, 90, .lcmp, 1), (prog_3_method_5_code, 91, .ifCond .ne 7, 3), (prog_3_method_5_code, 94, .iconst 1, 1), (prog_3_method_5_code, 95, .goto 4, 3), (prog_3_method_5_code, 24, .lload_n 2, 1), (prog_3_method_5_code, 25, .invokestatic 70, 3), (prog_3_method_5_code, 28, .invokestatic 51, 3), (prog_3_method_5_code, 31, .lload_n 0, 1), (prog_3_method_5_code, 32, .invokestatic 51, 3), (prog_3_method_5_code, 35, .lcmp, 1), (prog_3_method_5_code, 36, .ifCond .ne 23, 3), (prog_3_method_5_code, 59, .iconst 0, 1), (prog_3_method_5_code, 39, .lload 4, 2), (prog_3_method_5_code, 41, .invokestatic 67, 3), (prog_3_method_5_code, 44, .invokestatic 51, 3), (prog_3_method_5_code, 47, .lload_n 0, 1), (prog_3_method_5_code, 48, .invokestatic 51, 3), (prog_3_method_5_code, 51, .lcmp, 1), (prog_3_method_5_code, 52, .ifCond .ne 7, 3), (prog_3_method_6_code, 0, .lload_n 0, 1), (prog_3_method_6_code, 1, .iconst 0, 1), (prog_3_method_6_code, 2, .invokestatic 76, 3), (prog_3_method_6_code, 5, .bipush 31, 2), (prog_3_method_6_code, 7, .ishl, 1), (prog_3_method_6_code, 8, .lload_n 0, 1), (prog_3_method_6_code, 9, .iconst 1, 1), (prog_3_method_6_code, 10, .invokestatic 76, 3), (prog_3_method_6_code, 13, .bipush 20, 2), (prog_3_method_6_code, 15, .ishl, 1), (prog_3_method_6_code, 16, .ior, 1), (prog_3_method_6_code, 17, .lload_n 0, 1), (prog_3_method_6_code, 18, .iconst 2, 1), (prog_3_method_6_code, 19, .invokestatic 76, 3), (prog_3_method_6_code, 22, .ior, 1), (prog_3_method_6_code, 23, .istore_n 2, 1), (prog_3_method_6_code, 24, .iload_n 2, 1), (prog_3_method_6_code, 25, .i2l, 1), (prog_3_method_6_code, 26, .bipush 32, 2), (prog_3_method_6_code, 28, .lshl, 1), (prog_3_method_6_code, 29, .lload_n 0, 1), (prog_3_method_6_code, 30, .iconst 3, 1), (prog_3_method_6_code, 31, .invokestatic 76, 3), (prog_3_method_6_code, 34, .i2l, 1), (prog_3_method_6_code, 35, .ldc2_w 80, 3), (prog_3_method_6_code, 38, .land, 1), (prog_3_method_6_code, 39, .lor, 1), (prog_3_method_6_code, 40, .lstore_n 3, 1), (prog_3_method_6_code, 41, .lload_n 3, 1), (prog_3_method_6_code, 42, .lload_n 0, 1), (prog_3_method_6_code, 43, .lcmp, 1), (prog_3_method_6_code, 44, .ifCond .ne 35, 3), (prog_3_method_6_code, 79, .iconst 0, 1)]
theorem db_X1_areNextRight_76 : dl_X1_areNextRight_76.all (fun x => decide (decode x.1 x.2.1 = .ok x.2.2)) = true := by decide +kernel
theorem dc_X1_areNextRight_76 : decode prog_3_method_5_code 76 = .ok (.lcmp, 1) := ky_dc db_X1_areNextRight_76 0 rfl
theorem dc_X1_areNextRight_77 : decode prog_3_method_5_code 77 = .ok (.ifCond .ne 21, 3) := ky_dc db_X1_areNextRight_76 1 rfl
theorem dc_X1_areNextRight_98 : decode prog_3_method_5_code 98 = .ok (.iconst 0, 1) := ky_dc db_X1_areNextRight_76 2 rfl
theorem dc_X1_areNextRight_99 : decode prog_3_method_5_code 99 = .ok (.ireturn, 1) := ky_dc db_X1_areNextRight_76 3 rfl
theorem dc_X1_areNextRight_80 : decode prog_3_method_5_code 80 = .ok (.lload 4, 2) := ky_dc db_X1_areNextRight_76 4 rfl
theorem dc_X1_areNextRight_82 : decode prog_3_method_5_code 82 = .ok (.lload 6, 2) := ky_dc db_X1_areNextRight_76 5 rfl
theorem dc_X1_areNextRight_84 : decode prog_3_method_5_code 84 = .ok (.invokestatic 67, 3) := ky_dc db_X1_areNextRight_76 6 rfl
theorem dc_X1_areNextRight_87 : decode prog_3_method_5_code 87 = .ok (.invokestatic 46, 3) := ky_dc db_X1_areNextRight_76 7 rfl
theorem dc_X1_areNextRight_90 : decode prog_3_method_5_code 90 = .ok (.lcmp, 1) := ky_dc db_X1_areNextRight_76 8 rfl
theorem dc_X1_areNextRight_91 : decode prog_3_method_5_code 91 = .ok (.ifCond .ne 7, 3) := ky_dc db_X1_areNextRight_76 9 rfl
theorem dc_X1_areNextRight_94 : decode prog_3_method_5_code 94 = .ok (.iconst 1, 1) := ky_dc db_X1_areNextRight_76 10 rfl
theorem dc_X1_areNextRight_95 : decode prog_3_method_5_code 95 = .ok (.goto 4, 3) := ky_dc db_X1_areNextRight_76 11 rfl
theorem dc_X1_areNextRight_24 : decode prog_3_method_5_code 24 = .ok (.lload_n 2, 1) := ky_dc db_X1_areNextRight_76 12 rfl
theorem dc_X1_areNextRight_25 : decode prog_3_method_5_code 25 = .ok (.invokestatic 70, 3) := ky_dc db_X1_areNextRight_76 13 rfl
theorem dc_X1_areNextRight_28 : decode prog_3_method_5_code 28 = .ok (.invokestatic 51, 3) := ky_dc db_X1_areNextRight_76 14 rfl
theorem dc_X1_areNextRight_31 : decode prog_3_method_5_code 31 = .ok (.lload_n 0, 1) := ky_dc db_X1_areNextRight_76 15 rfl
theorem dc_X1_areNextRight_32 : decode prog_3_method_5_code 32 = .ok (.invokestatic 51, 3) := ky_dc db_X1_areNextRight_76 16 rfl
theorem dc_X1_areNextRight_35 : decode prog_3_method_5_code 35 = .ok (.lcmp, 1) := ky_dc db_X1_areNextRight_76 17 rfl
theorem dc_X1_areNextRight_36 : decode prog_3_method_5_code 36 = .ok (.ifCond .ne 23, 3) := ky_dc db_X1_areNextRight_76 18 rfl
theorem dc_X1_areNextRight_59 : decode prog_3_method_5_code 59 = .ok (.iconst 0, 1) := ky_dc db_X1_areNextRight_76 19 rfl
theorem dc_X1_areNextRight_39 : decode prog_3_method_5_code 39 = .ok (.lload 4, 2) := ky_dc db_X1_areNextRight_76 20 rfl
theorem dc_X1_areNextRight_41 : decode prog_3_method_5_code 41 = .ok (.invokestatic 67, 3) := ky_dc db_X1_areNextRight_76 21 rfl
theorem dc_X1_areNextRight_44 : decode prog_3_method_5_code 44 = .ok (.invokestatic 51, 3) := ky_dc db_X1_areNextRight_76 22 rfl
theorem dc_X1_areNextRight_47 : decode prog_3_method_5_code 47 = .ok (.lload_n 0, 1) := ky_dc db_X1_areNextRight_76 23 rfl
theorem dc_X1_areNextRight_48 : decode prog_3_method_5_code 48 = .ok (.invokestatic 51, 3) := ky_dc db_X1_areNextRight_76 24 rfl
theorem dc_X1_areNextRight_51 : decode prog_3_method_5_code 51 = .ok (.lcmp, 1) := ky_dc db_X1_areNextRight_76 25 rfl
theorem dc_X1_areNextRight_52 : decode prog_3_method_5_code 52 = .ok (.ifCond .ne 7, 3) := ky_dc db_X1_areNextRight_76 26 rfl
theorem dc_X1_arePartsRight_0 : decode prog_3_method_6_code 0 = .ok (.lload_n 0, 1) := ky_dc db_X1_areNextRight_76 27 rfl
theorem dc_X1_arePartsRight_1 : decode prog_3_method_6_code 1 = .ok (.iconst 0, 1) := ky_dc db_X1_areNextRight_76 28 rfl
theorem dc_X1_arePartsRight_2 : decode prog_3_method_6_code 2 = .ok (.invokestatic 76, 3) := ky_dc db_X1_areNextRight_76 29 rfl
theorem dc_X1_arePartsRight_5 : decode prog_3_method_6_code 5 = .ok (.bipush 31, 2) := ky_dc db_X1_areNextRight_76 30 rfl
theorem dc_X1_arePartsRight_7 : decode prog_3_method_6_code 7 = .ok (.ishl, 1) := ky_dc db_X1_areNextRight_76 31 rfl
theorem dc_X1_arePartsRight_8 : decode prog_3_method_6_code 8 = .ok (.lload_n 0, 1) := ky_dc db_X1_areNextRight_76 32 rfl
theorem dc_X1_arePartsRight_9 : decode prog_3_method_6_code 9 = .ok (.iconst 1, 1) := ky_dc db_X1_areNextRight_76 33 rfl
theorem dc_X1_arePartsRight_10 : decode prog_3_method_6_code 10 = .ok (.invokestatic 76, 3) := ky_dc db_X1_areNextRight_76 34 rfl
theorem dc_X1_arePartsRight_13 : decode prog_3_method_6_code 13 = .ok (.bipush 20, 2) := ky_dc db_X1_areNextRight_76 35 rfl
theorem dc_X1_arePartsRight_15 : decode prog_3_method_6_code 15 = .ok (.ishl, 1) := ky_dc db_X1_areNextRight_76 36 rfl
theorem dc_X1_arePartsRight_16 : decode prog_3_method_6_code 16 = .ok (.ior, 1) := ky_dc db_X1_areNextRight_76 37 rfl
theorem dc_X1_arePartsRight_17 : decode prog_3_method_6_code 17 = .ok (.lload_n 0, 1) := ky_dc db_X1_areNextRight_76 38 rfl
theorem dc_X1_arePartsRight_18 : decode prog_3_method_6_code 18 = .ok (.iconst 2, 1) := ky_dc db_X1_areNextRight_76 39 rfl
theorem dc_X1_arePartsRight_19 : decode prog_3_method_6_code 19 = .ok (.invokestatic 76, 3) := ky_dc db_X1_areNextRight_76 40 rfl
theorem dc_X1_arePartsRight_22 : decode prog_3_method_6_code 22 = .ok (.ior, 1) := ky_dc db_X1_areNextRight_76 41 rfl
theorem dc_X1_arePartsRight_23 : decode prog_3_method_6_code 23 = .ok (.istore_n 2, 1) := ky_dc db_X1_areNextRight_76 42 rfl
theorem dc_X1_arePartsRight_24 : decode prog_3_method_6_code 24 = .ok (.iload_n 2, 1) := ky_dc db_X1_areNextRight_76 43 rfl
theorem dc_X1_arePartsRight_25 : decode prog_3_method_6_code 25 = .ok (.i2l, 1) := ky_dc db_X1_areNextRight_76 44 rfl
theorem dc_X1_arePartsRight_26 : decode prog_3_method_6_code 26 = .ok (.bipush 32, 2) := ky_dc db_X1_areNextRight_76 45 rfl
theorem dc_X1_arePartsRight_28 : decode prog_3_method_6_code 28 = .ok (.lshl, 1) := ky_dc db_X1_areNextRight_76 46 rfl
theorem dc_X1_arePartsRight_29 : decode prog_3_method_6_code 29 = .ok (.lload_n 0, 1) := ky_dc db_X1_areNextRight_76 47 rfl
theorem dc_X1_arePartsRight_30 : decode prog_3_method_6_code 30 = .ok (.iconst 3, 1) := ky_dc db_X1_areNextRight_76 48 rfl
theorem dc_X1_arePartsRight_31 : decode prog_3_method_6_code 31 = .ok (.invokestatic 76, 3) := ky_dc db_X1_areNextRight_76 49 rfl
theorem dc_X1_arePartsRight_34 : decode prog_3_method_6_code 34 = .ok (.i2l, 1) := ky_dc db_X1_areNextRight_76 50 rfl
theorem dc_X1_arePartsRight_35 : decode prog_3_method_6_code 35 = .ok (.ldc2_w 80, 3) := ky_dc db_X1_areNextRight_76 51 rfl
theorem dc_X1_arePartsRight_38 : decode prog_3_method_6_code 38 = .ok (.land, 1) := ky_dc db_X1_areNextRight_76 52 rfl
theorem dc_X1_arePartsRight_39 : decode prog_3_method_6_code 39 = .ok (.lor, 1) := ky_dc db_X1_areNextRight_76 53 rfl
theorem dc_X1_arePartsRight_40 : decode prog_3_method_6_code 40 = .ok (.lstore_n 3, 1) := ky_dc db_X1_areNextRight_76 54 rfl
theorem dc_X1_arePartsRight_41 : decode prog_3_method_6_code 41 = .ok (.lload_n 3, 1) := ky_dc db_X1_areNextRight_76 55 rfl
theorem dc_X1_arePartsRight_42 : decode prog_3_method_6_code 42 = .ok (.lload_n 0, 1) := ky_dc db_X1_areNextRight_76 56 rfl
theorem dc_X1_arePartsRight_43 : decode prog_3_method_6_code 43 = .ok (.lcmp, 1) := ky_dc db_X1_areNextRight_76 57 rfl
theorem dc_X1_arePartsRight_44 : decode prog_3_method_6_code 44 = .ok (.ifCond .ne 35, 3) := ky_dc db_X1_areNextRight_76 58 rfl
theorem dc_X1_arePartsRight_79 : decode prog_3_method_6_code 79 = .ok (.iconst 0, 1) := ky_dc db_X1_areNextRight_76 59 rfl
def dl_X1_arePartsRight_80 : List (ByteArray × Nat × Jvm.ClassFile.Instr × Nat) := [(prog_3_method_6_code, 80, .ireturn, 1), (prog_3_method_6_code, 47, .lload_n 0, 1), (prog_3_method_6_code, 48, .invokestatic 82, 3), (prog_3_method_6_code, 51, .lload_n 0, 1), (prog_3_method_6_code, 52, .invokestatic 85, 3), (prog_3_method_6_code, 55, .lload_n 0, 1), (prog_3_method_6_code, 56, .lcmp, 1), (prog_3_method_6_code, 57, .ifCond .ne 22, 3), (prog_3_method_6_code, 60, .lload_n 0, 1), (prog_3_method_6_code, 61, .invokestatic 46, 3), (prog_3_method_6_code, 64, .invokestatic 89, 3), (prog_3_method_6_code, 67, .lload_n 0, 1), (prog_3_method_6_code, 68, .invokestatic 89, 3), (prog_3_method_6_code, 71, .lcmp, 1), (prog_3_method_6_code, 72, .ifCond .ne 7, 3), (prog_3_method_6_code, 75, .iconst 1, 1), (prog_3_method_6_code, 76, .goto 4, 3), (prog_1_method_55_code, 0, .lload_n 0, 1), (prog_1_method_55_code, 1, .ldc2_w 211, 3), (prog_1_method_55_code, 4, .lmul, 1), (prog_1_method_55_code, 5, .lload_n 2, 1), (prog_1_method_55_code, 6, .ladd, 1), (prog_1_method_55_code, 7, .lreturn, 1), (prog_1_method_64_code, 0, .iload_n 2, 1), (prog_1_method_64_code, 1, .ifCond .eq 11, 3), (prog_1_method_64_code, 12, .lload_n 0, 1), (prog_1_method_64_code, 13, .l2i, 1), (prog_1_method_64_code, 14, .ireturn, 1), (prog_1_method_64_code, 4, .lload_n 0, 1), (prog_1_method_64_code, 5, .bipush 32, 2), (prog_1_method_64_code, 7, .lshr, 1), (prog_1_method_64_code, 8, .l2i, 1), (prog_1_method_64_code, 9, .goto 5, 3), (prog_1_method_65_code, 0, .lload_n 0, 1), (prog_1_method_65_code, 1, .invokestatic 170, 3), (prog_1_method_65_code, 4, .lconst 0, 1), (prog_1_method_65_code, 5, .invokestatic 235, 3), (prog_1_method_65_code, 8, .ireturn, 1), (prog_1_method_66_code, 0, .lload_n 0, 1), (prog_1_method_66_code, 1, .invokestatic 240, 3), (prog_1_method_66_code, 4, .lload_n 2, 1), (prog_1_method_66_code, 5, .invokestatic 240, 3), (prog_1_method_66_code, 8, .invokestatic 235, 3), (prog_1_method_66_code, 11, .ireturn, 1), (prog_1_method_67_code, 0, .lload_n 0, 1), (prog_1_method_67_code, 1, .invokestatic 170, 3), (prog_1_method_67_code, 4, .lstore 4, 2), (prog_1_method_67_code, 6, .lload_n 2, 1), (prog_1_method_67_code, 7, .invokestatic 170, 3), (prog_1_method_67_code, 10, .lstore 6, 2), (prog_1_method_67_code, 12, .lload 6, 2), (prog_1_method_67_code, 14, .lload 4, 2), (prog_1_method_67_code, 16, .lsub, 1), (prog_1_method_67_code, 17, .lstore 8, 2), (prog_1_method_67_code, 19, .lload 6, 2), (prog_1_method_67_code, 21, .lload 4, 2), (prog_1_method_67_code, 23, .lcmp, 1), (prog_1_method_67_code, 24, .ifCond .lt 19, 3), (prog_1_method_67_code, 43, .iconst (-1), 1), (prog_1_method_67_code, 44, .ireturn, 1)]
theorem db_X1_arePartsRight_80 : dl_X1_arePartsRight_80.all (fun x => decide (decode x.1 x.2.1 = .ok x.2.2)) = true := by decide +kernel
theorem dc_X1_arePartsRight_80 : decode prog_3_method_6_code 80 = .ok (.ireturn, 1) := ky_dc db_X1_arePartsRight_80 0 rfl
theorem dc_X1_arePartsRight_47 : decode prog_3_method_6_code 47 = .ok (.lload_n 0, 1) := ky_dc db_X1_arePartsRight_80 1 rfl
theorem dc_X1_arePartsRight_48 : decode prog_3_method_6_code 48 = .ok (.invokestatic 82, 3) := ky_dc db_X1_arePartsRight_80 2 rfl
theorem dc_X1_arePartsRight_51 : decode prog_3_method_6_code 51 = .ok (.lload_n 0, 1) := ky_dc db_X1_arePartsRight_80 3 rfl
theorem dc_X1_arePartsRight_52 : decode prog_3_method_6_code 52 = .ok (.invokestatic 85, 3) := ky_dc db_X1_arePartsRight_80 4 rfl
theorem dc_X1_arePartsRight_55 : decode prog_3_method_6_code 55 = .ok (.lload_n 0, 1) := ky_dc db_X1_arePartsRight_80 5 rfl
theorem dc_X1_arePartsRight_56 : decode prog_3_method_6_code 56 = .ok (.lcmp, 1) := ky_dc db_X1_arePartsRight_80 6 rfl
theorem dc_X1_arePartsRight_57 : decode prog_3_method_6_code 57 = .ok (.ifCond .ne 22, 3) := ky_dc db_X1_arePartsRight_80 7 rfl
theorem dc_X1_arePartsRight_60 : decode prog_3_method_6_code 60 = .ok (.lload_n 0, 1) := ky_dc db_X1_arePartsRight_80 8 rfl
theorem dc_X1_arePartsRight_61 : decode prog_3_method_6_code 61 = .ok (.invokestatic 46, 3) := ky_dc db_X1_arePartsRight_80 9 rfl
theorem dc_X1_arePartsRight_64 : decode prog_3_method_6_code 64 = .ok (.invokestatic 89, 3) := ky_dc db_X1_arePartsRight_80 10 rfl
theorem dc_X1_arePartsRight_67 : decode prog_3_method_6_code 67 = .ok (.lload_n 0, 1) := ky_dc db_X1_arePartsRight_80 11 rfl
theorem dc_X1_arePartsRight_68 : decode prog_3_method_6_code 68 = .ok (.invokestatic 89, 3) := ky_dc db_X1_arePartsRight_80 12 rfl
theorem dc_X1_arePartsRight_71 : decode prog_3_method_6_code 71 = .ok (.lcmp, 1) := ky_dc db_X1_arePartsRight_80 13 rfl
theorem dc_X1_arePartsRight_72 : decode prog_3_method_6_code 72 = .ok (.ifCond .ne 7, 3) := ky_dc db_X1_arePartsRight_80 14 rfl
theorem dc_X1_arePartsRight_75 : decode prog_3_method_6_code 75 = .ok (.iconst 1, 1) := ky_dc db_X1_arePartsRight_80 15 rfl
theorem dc_X1_arePartsRight_76 : decode prog_3_method_6_code 76 = .ok (.goto 4, 3) := ky_dc db_X1_arePartsRight_80 16 rfl
theorem dc_X6_mixed_0 : decode prog_1_method_55_code 0 = .ok (.lload_n 0, 1) := ky_dc db_X1_arePartsRight_80 17 rfl
theorem dc_X6_mixed_1 : decode prog_1_method_55_code 1 = .ok (.ldc2_w 211, 3) := ky_dc db_X1_arePartsRight_80 18 rfl
theorem dc_X6_mixed_4 : decode prog_1_method_55_code 4 = .ok (.lmul, 1) := ky_dc db_X1_arePartsRight_80 19 rfl
theorem dc_X6_mixed_5 : decode prog_1_method_55_code 5 = .ok (.lload_n 2, 1) := ky_dc db_X1_arePartsRight_80 20 rfl
theorem dc_X6_mixed_6 : decode prog_1_method_55_code 6 = .ok (.ladd, 1) := ky_dc db_X1_arePartsRight_80 21 rfl
theorem dc_X6_mixed_7 : decode prog_1_method_55_code 7 = .ok (.lreturn, 1) := ky_dc db_X1_arePartsRight_80 22 rfl
theorem dc_X6_halfOf_0 : decode prog_1_method_64_code 0 = .ok (.iload_n 2, 1) := ky_dc db_X1_arePartsRight_80 23 rfl
theorem dc_X6_halfOf_1 : decode prog_1_method_64_code 1 = .ok (.ifCond .eq 11, 3) := ky_dc db_X1_arePartsRight_80 24 rfl
theorem dc_X6_halfOf_12 : decode prog_1_method_64_code 12 = .ok (.lload_n 0, 1) := ky_dc db_X1_arePartsRight_80 25 rfl
theorem dc_X6_halfOf_13 : decode prog_1_method_64_code 13 = .ok (.l2i, 1) := ky_dc db_X1_arePartsRight_80 26 rfl
theorem dc_X6_halfOf_14 : decode prog_1_method_64_code 14 = .ok (.ireturn, 1) := ky_dc db_X1_arePartsRight_80 27 rfl
theorem dc_X6_halfOf_4 : decode prog_1_method_64_code 4 = .ok (.lload_n 0, 1) := ky_dc db_X1_arePartsRight_80 28 rfl
theorem dc_X6_halfOf_5 : decode prog_1_method_64_code 5 = .ok (.bipush 32, 2) := ky_dc db_X1_arePartsRight_80 29 rfl
theorem dc_X6_halfOf_7 : decode prog_1_method_64_code 7 = .ok (.lshr, 1) := ky_dc db_X1_arePartsRight_80 30 rfl
theorem dc_X6_halfOf_8 : decode prog_1_method_64_code 8 = .ok (.l2i, 1) := ky_dc db_X1_arePartsRight_80 31 rfl
theorem dc_X6_halfOf_9 : decode prog_1_method_64_code 9 = .ok (.goto 5, 3) := ky_dc db_X1_arePartsRight_80 32 rfl
theorem dc_X6_signOf_0 : decode prog_1_method_65_code 0 = .ok (.lload_n 0, 1) := ky_dc db_X1_arePartsRight_80 33 rfl
theorem dc_X6_signOf_1 : decode prog_1_method_65_code 1 = .ok (.invokestatic 170, 3) := ky_dc db_X1_arePartsRight_80 34 rfl
theorem dc_X6_signOf_4 : decode prog_1_method_65_code 4 = .ok (.lconst 0, 1) := ky_dc db_X1_arePartsRight_80 35 rfl
theorem dc_X6_signOf_5 : decode prog_1_method_65_code 5 = .ok (.invokestatic 235, 3) := ky_dc db_X1_arePartsRight_80 36 rfl
theorem dc_X6_signOf_8 : decode prog_1_method_65_code 8 = .ok (.ireturn, 1) := ky_dc db_X1_arePartsRight_80 37 rfl
theorem dc_X6_orderOf_0 : decode prog_1_method_66_code 0 = .ok (.lload_n 0, 1) := ky_dc db_X1_arePartsRight_80 38 rfl
theorem dc_X6_orderOf_1 : decode prog_1_method_66_code 1 = .ok (.invokestatic 240, 3) := ky_dc db_X1_arePartsRight_80 39 rfl
theorem dc_X6_orderOf_4 : decode prog_1_method_66_code 4 = .ok (.lload_n 2, 1) := ky_dc db_X1_arePartsRight_80 40 rfl
theorem dc_X6_orderOf_5 : decode prog_1_method_66_code 5 = .ok (.invokestatic 240, 3) := ky_dc db_X1_arePartsRight_80 41 rfl
theorem dc_X6_orderOf_8 : decode prog_1_method_66_code 8 = .ok (.invokestatic 235, 3) := ky_dc db_X1_arePartsRight_80 42 rfl
theorem dc_X6_orderOf_11 : decode prog_1_method_66_code 11 = .ok (.ireturn, 1) := ky_dc db_X1_arePartsRight_80 43 rfl
theorem dc_X6_stepsBetween_0 : decode prog_1_method_67_code 0 = .ok (.lload_n 0, 1) := ky_dc db_X1_arePartsRight_80 44 rfl
theorem dc_X6_stepsBetween_1 : decode prog_1_method_67_code 1 = .ok (.invokestatic 170, 3) := ky_dc db_X1_arePartsRight_80 45 rfl
theorem dc_X6_stepsBetween_4 : decode prog_1_method_67_code 4 = .ok (.lstore 4, 2) := ky_dc db_X1_arePartsRight_80 46 rfl
theorem dc_X6_stepsBetween_6 : decode prog_1_method_67_code 6 = .ok (.lload_n 2, 1) := ky_dc db_X1_arePartsRight_80 47 rfl
theorem dc_X6_stepsBetween_7 : decode prog_1_method_67_code 7 = .ok (.invokestatic 170, 3) := ky_dc db_X1_arePartsRight_80 48 rfl
theorem dc_X6_stepsBetween_10 : decode prog_1_method_67_code 10 = .ok (.lstore 6, 2) := ky_dc db_X1_arePartsRight_80 49 rfl
theorem dc_X6_stepsBetween_12 : decode prog_1_method_67_code 12 = .ok (.lload 6, 2) := ky_dc db_X1_arePartsRight_80 50 rfl
theorem dc_X6_stepsBetween_14 : decode prog_1_method_67_code 14 = .ok (.lload 4, 2) := ky_dc db_X1_arePartsRight_80 51 rfl
theorem dc_X6_stepsBetween_16 : decode prog_1_method_67_code 16 = .ok (.lsub, 1) := ky_dc db_X1_arePartsRight_80 52 rfl
theorem dc_X6_stepsBetween_17 : decode prog_1_method_67_code 17 = .ok (.lstore 8, 2) := ky_dc db_X1_arePartsRight_80 53 rfl
theorem dc_X6_stepsBetween_19 : decode prog_1_method_67_code 19 = .ok (.lload 6, 2) := ky_dc db_X1_arePartsRight_80 54 rfl
theorem dc_X6_stepsBetween_21 : decode prog_1_method_67_code 21 = .ok (.lload 4, 2) := ky_dc db_X1_arePartsRight_80 55 rfl
theorem dc_X6_stepsBetween_23 : decode prog_1_method_67_code 23 = .ok (.lcmp, 1) := ky_dc db_X1_arePartsRight_80 56 rfl
theorem dc_X6_stepsBetween_24 : decode prog_1_method_67_code 24 = .ok (.ifCond .lt 19, 3) := ky_dc db_X1_arePartsRight_80 57 rfl
theorem dc_X6_stepsBetween_43 : decode prog_1_method_67_code 43 = .ok (.iconst (-1), 1) := ky_dc db_X1_arePartsRight_80 58 rfl
theorem dc_X6_stepsBetween_44 : decode prog_1_method_67_code 44 = .ok (.ireturn, 1) := ky_dc db_X1_arePartsRight_80 59 rfl
def dl_X6_stepsBetween_27 : List (ByteArray × Nat × Jvm.ClassFile.Instr × Nat) := [(prog_1_method_67_code, 27, .lload 8, 2), (prog_1_method_67_code, 29, .lconst 0, 1), (prog_1_method_67_code, 30, .lcmp, 1), (prog_1_method_67_code, 31, .ifCond .lt 12, 3), (prog_1_method_67_code, 34, .lload 8, 2), (prog_1_method_67_code, 36, .ldc2_w 243, 3), (prog_1_method_67_code, 39, .lcmp, 1), (prog_1_method_67_code, 40, .ifCond .le 5, 3), (prog_1_method_67_code, 45, .lload 8, 2), (prog_1_method_67_code, 47, .l2i, 1), (prog_1_method_67_code, 48, .ireturn, 1), (prog_10_method_1_code, 0, .lload_n 0, 1), (prog_10_method_1_code, 1, .lconst 0, 1), (prog_10_method_1_code, 2, .lcmp, 1), (prog_10_method_1_code, 3, .ifCond .ne 5, 3), (prog_10_method_1_code, 8, .lload_n 0, 1), (prog_10_method_1_code, 9, .lstore 4, 2), (prog_10_method_1_code, 11, .lload_n 2, 1), (prog_10_method_1_code, 12, .lstore 6, 2), (prog_10_method_1_code, 14, .lload 4, 2), (prog_10_method_1_code, 16, .ldc2_w 3, 3), (prog_10_method_1_code, 19, .lcmp, 1), (prog_10_method_1_code, 20, .ifCond .ge 20, 3), (prog_10_method_1_code, 40, .lload 6, 2), (prog_10_method_1_code, 42, .ldc2_w 7, 3), (prog_10_method_1_code, 45, .lcmp, 1), (prog_10_method_1_code, 46, .ifCond .le 7, 3), (prog_10_method_1_code, 53, .lload 6, 2), (prog_10_method_1_code, 55, .ldc2_w 11, 3), (prog_10_method_1_code, 58, .lcmp, 1), (prog_10_method_1_code, 59, .ifCond .lt 20, 3), (prog_10_method_1_code, 79, .lload 6, 2), (prog_10_method_1_code, 81, .ldc2_w 15, 3), (prog_10_method_1_code, 84, .lcmp, 1), (prog_10_method_1_code, 85, .ifCond .ge 5, 3), (prog_10_method_1_code, 90, .ldc2_w 11, 3), (prog_10_method_1_code, 93, .lload 6, 2), (prog_10_method_1_code, 95, .lsub, 1), (prog_10_method_1_code, 96, .l2i, 1), (prog_10_method_1_code, 97, .istore 8, 2), (prog_10_method_1_code, 99, .lload 4, 2), (prog_10_method_1_code, 101, .iload 8, 2), (prog_10_method_1_code, 103, .lshr, 1), (prog_10_method_1_code, 104, .lstore 9, 2), (prog_10_method_1_code, 106, .lload 4, 2), (prog_10_method_1_code, 108, .lload 9, 2), (prog_10_method_1_code, 110, .iload 8, 2), (prog_10_method_1_code, 112, .lshl, 1), (prog_10_method_1_code, 113, .lsub, 1), (prog_10_method_1_code, 114, .lstore 11, 2), (prog_10_method_1_code, 116, .lconst 1, 1), (prog_10_method_1_code, 117, .iload 8, 2), (prog_10_method_1_code, 119, .iconst 1, 1), (prog_10_method_1_code, 120, .isub, 1), (prog_10_method_1_code, 121, .lshl, 1), (prog_10_method_1_code, 122, .lstore 13, 2), (prog_10_method_1_code, 124, .lload 11, 2), (prog_10_method_1_code, 126, .lload 13, 2), (prog_10_method_1_code, 128, .lcmp, 1), (prog_10_method_1_code, 129, .ifCond .gt 22, 3)]
theorem db_X6_stepsBetween_27 : dl_X6_stepsBetween_27.all (fun x => decide (decode x.1 x.2.1 = .ok x.2.2)) = true := by decide +kernel
theorem dc_X6_stepsBetween_27 : decode prog_1_method_67_code 27 = .ok (.lload 8, 2) := ky_dc db_X6_stepsBetween_27 0 rfl
theorem dc_X6_stepsBetween_29 : decode prog_1_method_67_code 29 = .ok (.lconst 0, 1) := ky_dc db_X6_stepsBetween_27 1 rfl
theorem dc_X6_stepsBetween_30 : decode prog_1_method_67_code 30 = .ok (.lcmp, 1) := ky_dc db_X6_stepsBetween_27 2 rfl
theorem dc_X6_stepsBetween_31 : decode prog_1_method_67_code 31 = .ok (.ifCond .lt 12, 3) := ky_dc db_X6_stepsBetween_27 3 rfl
theorem dc_X6_stepsBetween_34 : decode prog_1_method_67_code 34 = .ok (.lload 8, 2) := ky_dc db_X6_stepsBetween_27 4 rfl
theorem dc_X6_stepsBetween_36 : decode prog_1_method_67_code 36 = .ok (.ldc2_w 243, 3) := ky_dc db_X6_stepsBetween_27 5 rfl
theorem dc_X6_stepsBetween_39 : decode prog_1_method_67_code 39 = .ok (.lcmp, 1) := ky_dc db_X6_stepsBetween_27 6 rfl
theorem dc_X6_stepsBetween_40 : decode prog_1_method_67_code 40 = .ok (.ifCond .le 5, 3) := ky_dc db_X6_stepsBetween_27 7 rfl
theorem dc_X6_stepsBetween_45 : decode prog_1_method_67_code 45 = .ok (.lload 8, 2) := ky_dc db_X6_stepsBetween_27 8 rfl
theorem dc_X6_stepsBetween_47 : decode prog_1_method_67_code 47 = .ok (.l2i, 1) := ky_dc db_X6_stepsBetween_27 9 rfl
theorem dc_X6_stepsBetween_48 : decode prog_1_method_67_code 48 = .ok (.ireturn, 1) := ky_dc db_X6_stepsBetween_27 10 rfl
theorem dc_X9_nearest_0 : decode prog_10_method_1_code 0 = .ok (.lload_n 0, 1) := ky_dc db_X6_stepsBetween_27 11 rfl
theorem dc_X9_nearest_1 : decode prog_10_method_1_code 1 = .ok (.lconst 0, 1) := ky_dc db_X6_stepsBetween_27 12 rfl
theorem dc_X9_nearest_2 : decode prog_10_method_1_code 2 = .ok (.lcmp, 1) := ky_dc db_X6_stepsBetween_27 13 rfl
theorem dc_X9_nearest_3 : decode prog_10_method_1_code 3 = .ok (.ifCond .ne 5, 3) := ky_dc db_X6_stepsBetween_27 14 rfl
theorem dc_X9_nearest_8 : decode prog_10_method_1_code 8 = .ok (.lload_n 0, 1) := ky_dc db_X6_stepsBetween_27 15 rfl
theorem dc_X9_nearest_9 : decode prog_10_method_1_code 9 = .ok (.lstore 4, 2) := ky_dc db_X6_stepsBetween_27 16 rfl
theorem dc_X9_nearest_11 : decode prog_10_method_1_code 11 = .ok (.lload_n 2, 1) := ky_dc db_X6_stepsBetween_27 17 rfl
theorem dc_X9_nearest_12 : decode prog_10_method_1_code 12 = .ok (.lstore 6, 2) := ky_dc db_X6_stepsBetween_27 18 rfl
theorem dc_X9_nearest_14 : decode prog_10_method_1_code 14 = .ok (.lload 4, 2) := ky_dc db_X6_stepsBetween_27 19 rfl
theorem dc_X9_nearest_16 : decode prog_10_method_1_code 16 = .ok (.ldc2_w 3, 3) := ky_dc db_X6_stepsBetween_27 20 rfl
theorem dc_X9_nearest_19 : decode prog_10_method_1_code 19 = .ok (.lcmp, 1) := ky_dc db_X6_stepsBetween_27 21 rfl
theorem dc_X9_nearest_20 : decode prog_10_method_1_code 20 = .ok (.ifCond .ge 20, 3) := ky_dc db_X6_stepsBetween_27 22 rfl
theorem dc_X9_nearest_40 : decode prog_10_method_1_code 40 = .ok (.lload 6, 2) := ky_dc db_X6_stepsBetween_27 23 rfl
theorem dc_X9_nearest_42 : decode prog_10_method_1_code 42 = .ok (.ldc2_w 7, 3) := ky_dc db_X6_stepsBetween_27 24 rfl
theorem dc_X9_nearest_45 : decode prog_10_method_1_code 45 = .ok (.lcmp, 1) := ky_dc db_X6_stepsBetween_27 25 rfl
theorem dc_X9_nearest_46 : decode prog_10_method_1_code 46 = .ok (.ifCond .le 7, 3) := ky_dc db_X6_stepsBetween_27 26 rfl
theorem dc_X9_nearest_53 : decode prog_10_method_1_code 53 = .ok (.lload 6, 2) := ky_dc db_X6_stepsBetween_27 27 rfl
theorem dc_X9_nearest_55 : decode prog_10_method_1_code 55 = .ok (.ldc2_w 11, 3) := ky_dc db_X6_stepsBetween_27 28 rfl
theorem dc_X9_nearest_58 : decode prog_10_method_1_code 58 = .ok (.lcmp, 1) := ky_dc db_X6_stepsBetween_27 29 rfl
theorem dc_X9_nearest_59 : decode prog_10_method_1_code 59 = .ok (.ifCond .lt 20, 3) := ky_dc db_X6_stepsBetween_27 30 rfl
theorem dc_X9_nearest_79 : decode prog_10_method_1_code 79 = .ok (.lload 6, 2) := ky_dc db_X6_stepsBetween_27 31 rfl
theorem dc_X9_nearest_81 : decode prog_10_method_1_code 81 = .ok (.ldc2_w 15, 3) := ky_dc db_X6_stepsBetween_27 32 rfl
theorem dc_X9_nearest_84 : decode prog_10_method_1_code 84 = .ok (.lcmp, 1) := ky_dc db_X6_stepsBetween_27 33 rfl
theorem dc_X9_nearest_85 : decode prog_10_method_1_code 85 = .ok (.ifCond .ge 5, 3) := ky_dc db_X6_stepsBetween_27 34 rfl
theorem dc_X9_nearest_90 : decode prog_10_method_1_code 90 = .ok (.ldc2_w 11, 3) := ky_dc db_X6_stepsBetween_27 35 rfl
theorem dc_X9_nearest_93 : decode prog_10_method_1_code 93 = .ok (.lload 6, 2) := ky_dc db_X6_stepsBetween_27 36 rfl
theorem dc_X9_nearest_95 : decode prog_10_method_1_code 95 = .ok (.lsub, 1) := ky_dc db_X6_stepsBetween_27 37 rfl
theorem dc_X9_nearest_96 : decode prog_10_method_1_code 96 = .ok (.l2i, 1) := ky_dc db_X6_stepsBetween_27 38 rfl
theorem dc_X9_nearest_97 : decode prog_10_method_1_code 97 = .ok (.istore 8, 2) := ky_dc db_X6_stepsBetween_27 39 rfl
theorem dc_X9_nearest_99 : decode prog_10_method_1_code 99 = .ok (.lload 4, 2) := ky_dc db_X6_stepsBetween_27 40 rfl
theorem dc_X9_nearest_101 : decode prog_10_method_1_code 101 = .ok (.iload 8, 2) := ky_dc db_X6_stepsBetween_27 41 rfl
theorem dc_X9_nearest_103 : decode prog_10_method_1_code 103 = .ok (.lshr, 1) := ky_dc db_X6_stepsBetween_27 42 rfl
theorem dc_X9_nearest_104 : decode prog_10_method_1_code 104 = .ok (.lstore 9, 2) := ky_dc db_X6_stepsBetween_27 43 rfl
theorem dc_X9_nearest_106 : decode prog_10_method_1_code 106 = .ok (.lload 4, 2) := ky_dc db_X6_stepsBetween_27 44 rfl
theorem dc_X9_nearest_108 : decode prog_10_method_1_code 108 = .ok (.lload 9, 2) := ky_dc db_X6_stepsBetween_27 45 rfl
theorem dc_X9_nearest_110 : decode prog_10_method_1_code 110 = .ok (.iload 8, 2) := ky_dc db_X6_stepsBetween_27 46 rfl
theorem dc_X9_nearest_112 : decode prog_10_method_1_code 112 = .ok (.lshl, 1) := ky_dc db_X6_stepsBetween_27 47 rfl
theorem dc_X9_nearest_113 : decode prog_10_method_1_code 113 = .ok (.lsub, 1) := ky_dc db_X6_stepsBetween_27 48 rfl
theorem dc_X9_nearest_114 : decode prog_10_method_1_code 114 = .ok (.lstore 11, 2) := ky_dc db_X6_stepsBetween_27 49 rfl
theorem dc_X9_nearest_116 : decode prog_10_method_1_code 116 = .ok (.lconst 1, 1) := ky_dc db_X6_stepsBetween_27 50 rfl
theorem dc_X9_nearest_117 : decode prog_10_method_1_code 117 = .ok (.iload 8, 2) := ky_dc db_X6_stepsBetween_27 51 rfl
theorem dc_X9_nearest_119 : decode prog_10_method_1_code 119 = .ok (.iconst 1, 1) := ky_dc db_X6_stepsBetween_27 52 rfl
theorem dc_X9_nearest_120 : decode prog_10_method_1_code 120 = .ok (.isub, 1) := ky_dc db_X6_stepsBetween_27 53 rfl
theorem dc_X9_nearest_121 : decode prog_10_method_1_code 121 = .ok (.lshl, 1) := ky_dc db_X6_stepsBetween_27 54 rfl
theorem dc_X9_nearest_122 : decode prog_10_method_1_code 122 = .ok (.lstore 13, 2) := ky_dc db_X6_stepsBetween_27 55 rfl
theorem dc_X9_nearest_124 : decode prog_10_method_1_code 124 = .ok (.lload 11, 2) := ky_dc db_X6_stepsBetween_27 56 rfl
theorem dc_X9_nearest_126 : decode prog_10_method_1_code 126 = .ok (.lload 13, 2) := ky_dc db_X6_stepsBetween_27 57 rfl
theorem dc_X9_nearest_128 : decode prog_10_method_1_code 128 = .ok (.lcmp, 1) := ky_dc db_X6_stepsBetween_27 58 rfl
theorem dc_X9_nearest_129 : decode prog_10_method_1_code 129 = .ok (.ifCond .gt 22, 3) := ky_dc db_X6_stepsBetween_27 59 rfl
def dl_X9_nearest_151 : List (ByteArray × Nat × Jvm.ClassFile.Instr × Nat) := [(prog_10_method_1_code, 151, .lload 9, 2), (prog_10_method_1_code, 153, .lconst 1, 1), (prog_10_method_1_code, 154, .ladd, 1), (prog_10_method_1_code, 155, .goto 5, 3), (prog_10_method_1_code, 160, .lreturn, 1), (prog_10_method_1_code, 132, .lload 11, 2), (prog_10_method_1_code, 134, .lload 13, 2), (prog_10_method_1_code, 136, .lcmp, 1), (prog_10_method_1_code, 137, .ifCond .ne 21, 3), (prog_10_method_1_code, 158, .lload 9, 2), (prog_10_method_1_code, 140, .lload 9, 2), (prog_10_method_1_code, 142, .ldc2_w 5, 3), (prog_10_method_1_code, 145, .lrem, 1), (prog_10_method_1_code, 146, .lconst 1, 1), (prog_10_method_1_code, 147, .lcmp, 1), (prog_10_method_1_code, 148, .ifCond .ne 10, 3), (prog_10_method_1_code, 88, .lconst 0, 1), (prog_10_method_1_code, 89, .lreturn, 1), (prog_10_method_1_code, 62, .lload 6, 2), (prog_10_method_1_code, 64, .ldc2_w 13, 3), (prog_10_method_1_code, 67, .ladd, 1), (prog_10_method_1_code, 68, .bipush 52, 2), (prog_10_method_1_code, 70, .lshl, 1), (prog_10_method_1_code, 71, .lload 4, 2), (prog_10_method_1_code, 73, .ldc2_w 3, 3), (prog_10_method_1_code, 76, .lsub, 1), (prog_10_method_1_code, 77, .ladd, 1), (prog_10_method_1_code, 78, .lreturn, 1), (prog_10_method_1_code, 49, .ldc2_w 9, 3), (prog_10_method_1_code, 52, .lreturn, 1), (prog_10_method_1_code, 23, .lload 4, 2), (prog_10_method_1_code, 25, .ldc2_w 5, 3), (prog_10_method_1_code, 28, .lmul, 1), (prog_10_method_1_code, 29, .lstore 4, 2), (prog_10_method_1_code, 31, .lload 6, 2), (prog_10_method_1_code, 33, .lconst 1, 1), (prog_10_method_1_code, 34, .lsub, 1), (prog_10_method_1_code, 35, .lstore 6, 2), (prog_10_method_1_code, 37, .goto (-23), 3), (prog_10_method_1_code, 6, .lconst 0, 1), (prog_10_method_1_code, 7, .lreturn, 1), (prog_10_method_2_code, 0, .iload_n 0, 1), (prog_10_method_2_code, 1, .ifCond .eq 7, 3), (prog_10_method_2_code, 8, .iconst 0, 1), (prog_10_method_2_code, 9, .ireturn, 1), (prog_10_method_2_code, 4, .iconst 1, 1), (prog_10_method_2_code, 5, .goto 4, 3), (prog_10_method_3_code, 0, .lload_n 0, 1), (prog_10_method_3_code, 1, .lconst 0, 1), (prog_10_method_3_code, 2, .lcmp, 1), (prog_10_method_3_code, 3, .ifCond .ge 7, 3), (prog_10_method_3_code, 10, .lload_n 0, 1), (prog_10_method_3_code, 11, .lconst 0, 1), (prog_10_method_3_code, 12, .lcmp, 1), (prog_10_method_3_code, 13, .ifCond .le 7, 3), (prog_10_method_3_code, 20, .iconst 0, 1), (prog_10_method_3_code, 21, .ireturn, 1), (prog_10_method_3_code, 16, .iconst 1, 1), (prog_10_method_3_code, 17, .goto 4, 3), (prog_10_method_3_code, 6, .iconst (-1), 1)]
theorem db_X9_nearest_151 : dl_X9_nearest_151.all (fun x => decide (decode x.1 x.2.1 = .ok x.2.2)) = true := by decide +kernel
theorem dc_X9_nearest_151 : decode prog_10_method_1_code 151 = .ok (.lload 9, 2) := ky_dc db_X9_nearest_151 0 rfl
theorem dc_X9_nearest_153 : decode prog_10_method_1_code 153 = .ok (.lconst 1, 1) := ky_dc db_X9_nearest_151 1 rfl
theorem dc_X9_nearest_154 : decode prog_10_method_1_code 154 = .ok (.ladd, 1) := ky_dc db_X9_nearest_151 2 rfl
theorem dc_X9_nearest_155 : decode prog_10_method_1_code 155 = .ok (.goto 5, 3) := ky_dc db_X9_nearest_151 3 rfl
theorem dc_X9_nearest_160 : decode prog_10_method_1_code 160 = .ok (.lreturn, 1) := ky_dc db_X9_nearest_151 4 rfl
theorem dc_X9_nearest_132 : decode prog_10_method_1_code 132 = .ok (.lload 11, 2) := ky_dc db_X9_nearest_151 5 rfl
theorem dc_X9_nearest_134 : decode prog_10_method_1_code 134 = .ok (.lload 13, 2) := ky_dc db_X9_nearest_151 6 rfl
theorem dc_X9_nearest_136 : decode prog_10_method_1_code 136 = .ok (.lcmp, 1) := ky_dc db_X9_nearest_151 7 rfl
theorem dc_X9_nearest_137 : decode prog_10_method_1_code 137 = .ok (.ifCond .ne 21, 3) := ky_dc db_X9_nearest_151 8 rfl
theorem dc_X9_nearest_158 : decode prog_10_method_1_code 158 = .ok (.lload 9, 2) := ky_dc db_X9_nearest_151 9 rfl
theorem dc_X9_nearest_140 : decode prog_10_method_1_code 140 = .ok (.lload 9, 2) := ky_dc db_X9_nearest_151 10 rfl
theorem dc_X9_nearest_142 : decode prog_10_method_1_code 142 = .ok (.ldc2_w 5, 3) := ky_dc db_X9_nearest_151 11 rfl
theorem dc_X9_nearest_145 : decode prog_10_method_1_code 145 = .ok (.lrem, 1) := ky_dc db_X9_nearest_151 12 rfl
theorem dc_X9_nearest_146 : decode prog_10_method_1_code 146 = .ok (.lconst 1, 1) := ky_dc db_X9_nearest_151 13 rfl
theorem dc_X9_nearest_147 : decode prog_10_method_1_code 147 = .ok (.lcmp, 1) := ky_dc db_X9_nearest_151 14 rfl
theorem dc_X9_nearest_148 : decode prog_10_method_1_code 148 = .ok (.ifCond .ne 10, 3) := ky_dc db_X9_nearest_151 15 rfl
theorem dc_X9_nearest_88 : decode prog_10_method_1_code 88 = .ok (.lconst 0, 1) := ky_dc db_X9_nearest_151 16 rfl
theorem dc_X9_nearest_89 : decode prog_10_method_1_code 89 = .ok (.lreturn, 1) := ky_dc db_X9_nearest_151 17 rfl
theorem dc_X9_nearest_62 : decode prog_10_method_1_code 62 = .ok (.lload 6, 2) := ky_dc db_X9_nearest_151 18 rfl
theorem dc_X9_nearest_64 : decode prog_10_method_1_code 64 = .ok (.ldc2_w 13, 3) := ky_dc db_X9_nearest_151 19 rfl
theorem dc_X9_nearest_67 : decode prog_10_method_1_code 67 = .ok (.ladd, 1) := ky_dc db_X9_nearest_151 20 rfl
theorem dc_X9_nearest_68 : decode prog_10_method_1_code 68 = .ok (.bipush 52, 2) := ky_dc db_X9_nearest_151 21 rfl
theorem dc_X9_nearest_70 : decode prog_10_method_1_code 70 = .ok (.lshl, 1) := ky_dc db_X9_nearest_151 22 rfl
theorem dc_X9_nearest_71 : decode prog_10_method_1_code 71 = .ok (.lload 4, 2) := ky_dc db_X9_nearest_151 23 rfl
theorem dc_X9_nearest_73 : decode prog_10_method_1_code 73 = .ok (.ldc2_w 3, 3) := ky_dc db_X9_nearest_151 24 rfl
theorem dc_X9_nearest_76 : decode prog_10_method_1_code 76 = .ok (.lsub, 1) := ky_dc db_X9_nearest_151 25 rfl
theorem dc_X9_nearest_77 : decode prog_10_method_1_code 77 = .ok (.ladd, 1) := ky_dc db_X9_nearest_151 26 rfl
theorem dc_X9_nearest_78 : decode prog_10_method_1_code 78 = .ok (.lreturn, 1) := ky_dc db_X9_nearest_151 27 rfl
theorem dc_X9_nearest_49 : decode prog_10_method_1_code 49 = .ok (.ldc2_w 9, 3) := ky_dc db_X9_nearest_151 28 rfl
theorem dc_X9_nearest_52 : decode prog_10_method_1_code 52 = .ok (.lreturn, 1) := ky_dc db_X9_nearest_151 29 rfl
theorem dc_X9_nearest_23 : decode prog_10_method_1_code 23 = .ok (.lload 4, 2) := ky_dc db_X9_nearest_151 30 rfl
theorem dc_X9_nearest_25 : decode prog_10_method_1_code 25 = .ok (.ldc2_w 5, 3) := ky_dc db_X9_nearest_151 31 rfl
theorem dc_X9_nearest_28 : decode prog_10_method_1_code 28 = .ok (.lmul, 1) := ky_dc db_X9_nearest_151 32 rfl
theorem dc_X9_nearest_29 : decode prog_10_method_1_code 29 = .ok (.lstore 4, 2) := ky_dc db_X9_nearest_151 33 rfl
theorem dc_X9_nearest_31 : decode prog_10_method_1_code 31 = .ok (.lload 6, 2) := ky_dc db_X9_nearest_151 34 rfl
theorem dc_X9_nearest_33 : decode prog_10_method_1_code 33 = .ok (.lconst 1, 1) := ky_dc db_X9_nearest_151 35 rfl
theorem dc_X9_nearest_34 : decode prog_10_method_1_code 34 = .ok (.lsub, 1) := ky_dc db_X9_nearest_151 36 rfl
theorem dc_X9_nearest_35 : decode prog_10_method_1_code 35 = .ok (.lstore 6, 2) := ky_dc db_X9_nearest_151 37 rfl
theorem dc_X9_nearest_37 : decode prog_10_method_1_code 37 = .ok (.goto (-23), 3) := ky_dc db_X9_nearest_151 38 rfl
theorem dc_X9_nearest_6 : decode prog_10_method_1_code 6 = .ok (.lconst 0, 1) := ky_dc db_X9_nearest_151 39 rfl
theorem dc_X9_nearest_7 : decode prog_10_method_1_code 7 = .ok (.lreturn, 1) := ky_dc db_X9_nearest_151 40 rfl
theorem dc_X9_one_0 : decode prog_10_method_2_code 0 = .ok (.iload_n 0, 1) := ky_dc db_X9_nearest_151 41 rfl
theorem dc_X9_one_1 : decode prog_10_method_2_code 1 = .ok (.ifCond .eq 7, 3) := ky_dc db_X9_nearest_151 42 rfl
theorem dc_X9_one_8 : decode prog_10_method_2_code 8 = .ok (.iconst 0, 1) := ky_dc db_X9_nearest_151 43 rfl
theorem dc_X9_one_9 : decode prog_10_method_2_code 9 = .ok (.ireturn, 1) := ky_dc db_X9_nearest_151 44 rfl
theorem dc_X9_one_4 : decode prog_10_method_2_code 4 = .ok (.iconst 1, 1) := ky_dc db_X9_nearest_151 45 rfl
theorem dc_X9_one_5 : decode prog_10_method_2_code 5 = .ok (.goto 4, 3) := ky_dc db_X9_nearest_151 46 rfl
theorem dc_X9_signOf_0 : decode prog_10_method_3_code 0 = .ok (.lload_n 0, 1) := ky_dc db_X9_nearest_151 47 rfl
theorem dc_X9_signOf_1 : decode prog_10_method_3_code 1 = .ok (.lconst 0, 1) := ky_dc db_X9_nearest_151 48 rfl
theorem dc_X9_signOf_2 : decode prog_10_method_3_code 2 = .ok (.lcmp, 1) := ky_dc db_X9_nearest_151 49 rfl
theorem dc_X9_signOf_3 : decode prog_10_method_3_code 3 = .ok (.ifCond .ge 7, 3) := ky_dc db_X9_nearest_151 50 rfl
theorem dc_X9_signOf_10 : decode prog_10_method_3_code 10 = .ok (.lload_n 0, 1) := ky_dc db_X9_nearest_151 51 rfl
theorem dc_X9_signOf_11 : decode prog_10_method_3_code 11 = .ok (.lconst 0, 1) := ky_dc db_X9_nearest_151 52 rfl
theorem dc_X9_signOf_12 : decode prog_10_method_3_code 12 = .ok (.lcmp, 1) := ky_dc db_X9_nearest_151 53 rfl
theorem dc_X9_signOf_13 : decode prog_10_method_3_code 13 = .ok (.ifCond .le 7, 3) := ky_dc db_X9_nearest_151 54 rfl
theorem dc_X9_signOf_20 : decode prog_10_method_3_code 20 = .ok (.iconst 0, 1) := ky_dc db_X9_nearest_151 55 rfl
theorem dc_X9_signOf_21 : decode prog_10_method_3_code 21 = .ok (.ireturn, 1) := ky_dc db_X9_nearest_151 56 rfl
theorem dc_X9_signOf_16 : decode prog_10_method_3_code 16 = .ok (.iconst 1, 1) := ky_dc db_X9_nearest_151 57 rfl
theorem dc_X9_signOf_17 : decode prog_10_method_3_code 17 = .ok (.goto 4, 3) := ky_dc db_X9_nearest_151 58 rfl
theorem dc_X9_signOf_6 : decode prog_10_method_3_code 6 = .ok (.iconst (-1), 1) := ky_dc db_X9_nearest_151 59 rfl
def dl_X9_signOf_7 : List (ByteArray × Nat × Jvm.ClassFile.Instr × Nat) := [(prog_10_method_3_code, 7, .goto 14, 3), (prog_10_method_4_code, 0, .lload_n 0, 1), (prog_10_method_4_code, 1, .lload_n 2, 1), (prog_10_method_4_code, 2, .lcmp, 1), (prog_10_method_4_code, 3, .ifCond .ge 7, 3), (prog_10_method_4_code, 10, .lload_n 0, 1), (prog_10_method_4_code, 11, .lload_n 2, 1), (prog_10_method_4_code, 12, .lcmp, 1), (prog_10_method_4_code, 13, .ifCond .le 7, 3), (prog_10_method_4_code, 20, .iconst 0, 1), (prog_10_method_4_code, 21, .ireturn, 1), (prog_10_method_4_code, 16, .iconst 1, 1), (prog_10_method_4_code, 17, .goto 4, 3), (prog_10_method_4_code, 6, .iconst (-1), 1), (prog_10_method_4_code, 7, .goto 14, 3), (prog_10_method_5_code, 0, .iload_n 0, 1), (prog_10_method_5_code, 1, .iload_n 1, 1), (prog_10_method_5_code, 2, .if_icmp .lt 12, 3), (prog_10_method_5_code, 14, .iconst 0, 1), (prog_10_method_5_code, 15, .ireturn, 1), (prog_10_method_5_code, 5, .iload_n 0, 1), (prog_10_method_5_code, 6, .iload_n 2, 1), (prog_10_method_5_code, 7, .if_icmp .gt 7, 3), (prog_10_method_5_code, 10, .iconst 1, 1), (prog_10_method_5_code, 11, .goto 4, 3), (prog_10_method_10_code, 0, .iload_n 0, 1), (prog_10_method_10_code, 1, .iconst 0, 1), (prog_10_method_10_code, 2, .iconst 5, 1), (prog_10_method_10_code, 3, .invokestatic 40, 3), (prog_10_method_10_code, 6, .ifCond .ne 7, 3), (prog_10_method_10_code, 13, .iconst 0, 1), (prog_10_method_10_code, 14, .ireturn, 1), (prog_10_method_10_code, 9, .iconst 1, 1), (prog_10_method_10_code, 10, .goto 4, 3), (prog_10_method_78_code, 0, .lload_n 0, 1), (prog_10_method_78_code, 1, .ldc2_w 261, 3), (prog_10_method_78_code, 4, .lmul, 1), (prog_10_method_78_code, 5, .lload_n 2, 1), (prog_10_method_78_code, 6, .ladd, 1), (prog_10_method_78_code, 7, .lreturn, 1), (prog_1_method_58_code, 0, .iload_n 0, 1), (prog_1_method_58_code, 1, .ifCond .lt 9, 3), (prog_1_method_58_code, 10, .new 216, 3), (prog_1_method_58_code, 13, .dup, 1), (prog_1_method_58_code, 14, .ldc 218, 2), (prog_1_method_58_code, 16, .invokespecial 220, 3), (prog_1_method_58_code, 19, .athrow, 1), (prog_1_method_58_code, 4, .iload_n 0, 1), (prog_1_method_58_code, 5, .bipush 6, 2), (prog_1_method_58_code, 7, .if_icmp .lt 13, 3), (prog_1_method_58_code, 20, .return_, 1), (prog_1_method_59_code, 0, .iload_n 0, 1), (prog_1_method_59_code, 1, .invokestatic 27, 3), (prog_1_method_59_code, 4, .iload_n 1, 1), (prog_1_method_59_code, 5, .invokestatic 27, 3), (prog_1_method_59_code, 8, .return_, 1), (prog_1_method_60_code, 0, .iload_n 0, 1), (prog_1_method_60_code, 1, .iload_n 1, 1), (prog_1_method_60_code, 2, .if_icmp .lt 8, 3), (prog_1_method_60_code, 10, .new 223, 3)]
theorem db_X9_signOf_7 : dl_X9_signOf_7.all (fun x => decide (decode x.1 x.2.1 = .ok x.2.2)) = true := by decide +kernel
theorem dc_X9_signOf_7 : decode prog_10_method_3_code 7 = .ok (.goto 14, 3) := ky_dc db_X9_signOf_7 0 rfl
theorem dc_X9_compared_0 : decode prog_10_method_4_code 0 = .ok (.lload_n 0, 1) := ky_dc db_X9_signOf_7 1 rfl
theorem dc_X9_compared_1 : decode prog_10_method_4_code 1 = .ok (.lload_n 2, 1) := ky_dc db_X9_signOf_7 2 rfl
theorem dc_X9_compared_2 : decode prog_10_method_4_code 2 = .ok (.lcmp, 1) := ky_dc db_X9_signOf_7 3 rfl
theorem dc_X9_compared_3 : decode prog_10_method_4_code 3 = .ok (.ifCond .ge 7, 3) := ky_dc db_X9_signOf_7 4 rfl
theorem dc_X9_compared_10 : decode prog_10_method_4_code 10 = .ok (.lload_n 0, 1) := ky_dc db_X9_signOf_7 5 rfl
theorem dc_X9_compared_11 : decode prog_10_method_4_code 11 = .ok (.lload_n 2, 1) := ky_dc db_X9_signOf_7 6 rfl
theorem dc_X9_compared_12 : decode prog_10_method_4_code 12 = .ok (.lcmp, 1) := ky_dc db_X9_signOf_7 7 rfl
theorem dc_X9_compared_13 : decode prog_10_method_4_code 13 = .ok (.ifCond .le 7, 3) := ky_dc db_X9_signOf_7 8 rfl
theorem dc_X9_compared_20 : decode prog_10_method_4_code 20 = .ok (.iconst 0, 1) := ky_dc db_X9_signOf_7 9 rfl
theorem dc_X9_compared_21 : decode prog_10_method_4_code 21 = .ok (.ireturn, 1) := ky_dc db_X9_signOf_7 10 rfl
theorem dc_X9_compared_16 : decode prog_10_method_4_code 16 = .ok (.iconst 1, 1) := ky_dc db_X9_signOf_7 11 rfl
theorem dc_X9_compared_17 : decode prog_10_method_4_code 17 = .ok (.goto 4, 3) := ky_dc db_X9_signOf_7 12 rfl
theorem dc_X9_compared_6 : decode prog_10_method_4_code 6 = .ok (.iconst (-1), 1) := ky_dc db_X9_signOf_7 13 rfl
theorem dc_X9_compared_7 : decode prog_10_method_4_code 7 = .ok (.goto 14, 3) := ky_dc db_X9_signOf_7 14 rfl
theorem dc_X9_isOf_0 : decode prog_10_method_5_code 0 = .ok (.iload_n 0, 1) := ky_dc db_X9_signOf_7 15 rfl
theorem dc_X9_isOf_1 : decode prog_10_method_5_code 1 = .ok (.iload_n 1, 1) := ky_dc db_X9_signOf_7 16 rfl
theorem dc_X9_isOf_2 : decode prog_10_method_5_code 2 = .ok (.if_icmp .lt 12, 3) := ky_dc db_X9_signOf_7 17 rfl
theorem dc_X9_isOf_14 : decode prog_10_method_5_code 14 = .ok (.iconst 0, 1) := ky_dc db_X9_signOf_7 18 rfl
theorem dc_X9_isOf_15 : decode prog_10_method_5_code 15 = .ok (.ireturn, 1) := ky_dc db_X9_signOf_7 19 rfl
theorem dc_X9_isOf_5 : decode prog_10_method_5_code 5 = .ok (.iload_n 0, 1) := ky_dc db_X9_signOf_7 20 rfl
theorem dc_X9_isOf_6 : decode prog_10_method_5_code 6 = .ok (.iload_n 2, 1) := ky_dc db_X9_signOf_7 21 rfl
theorem dc_X9_isOf_7 : decode prog_10_method_5_code 7 = .ok (.if_icmp .gt 7, 3) := ky_dc db_X9_signOf_7 22 rfl
theorem dc_X9_isOf_10 : decode prog_10_method_5_code 10 = .ok (.iconst 1, 1) := ky_dc db_X9_signOf_7 23 rfl
theorem dc_X9_isOf_11 : decode prog_10_method_5_code 11 = .ok (.goto 4, 3) := ky_dc db_X9_signOf_7 24 rfl
theorem dc_X9_isNo_0 : decode prog_10_method_10_code 0 = .ok (.iload_n 0, 1) := ky_dc db_X9_signOf_7 25 rfl
theorem dc_X9_isNo_1 : decode prog_10_method_10_code 1 = .ok (.iconst 0, 1) := ky_dc db_X9_signOf_7 26 rfl
theorem dc_X9_isNo_2 : decode prog_10_method_10_code 2 = .ok (.iconst 5, 1) := ky_dc db_X9_signOf_7 27 rfl
theorem dc_X9_isNo_3 : decode prog_10_method_10_code 3 = .ok (.invokestatic 40, 3) := ky_dc db_X9_signOf_7 28 rfl
theorem dc_X9_isNo_6 : decode prog_10_method_10_code 6 = .ok (.ifCond .ne 7, 3) := ky_dc db_X9_signOf_7 29 rfl
theorem dc_X9_isNo_13 : decode prog_10_method_10_code 13 = .ok (.iconst 0, 1) := ky_dc db_X9_signOf_7 30 rfl
theorem dc_X9_isNo_14 : decode prog_10_method_10_code 14 = .ok (.ireturn, 1) := ky_dc db_X9_signOf_7 31 rfl
theorem dc_X9_isNo_9 : decode prog_10_method_10_code 9 = .ok (.iconst 1, 1) := ky_dc db_X9_signOf_7 32 rfl
theorem dc_X9_isNo_10 : decode prog_10_method_10_code 10 = .ok (.goto 4, 3) := ky_dc db_X9_signOf_7 33 rfl
theorem dc_X9_add_0 : decode prog_10_method_78_code 0 = .ok (.lload_n 0, 1) := ky_dc db_X9_signOf_7 34 rfl
theorem dc_X9_add_1 : decode prog_10_method_78_code 1 = .ok (.ldc2_w 261, 3) := ky_dc db_X9_signOf_7 35 rfl
theorem dc_X9_add_4 : decode prog_10_method_78_code 4 = .ok (.lmul, 1) := ky_dc db_X9_signOf_7 36 rfl
theorem dc_X9_add_5 : decode prog_10_method_78_code 5 = .ok (.lload_n 2, 1) := ky_dc db_X9_signOf_7 37 rfl
theorem dc_X9_add_6 : decode prog_10_method_78_code 6 = .ok (.ladd, 1) := ky_dc db_X9_signOf_7 38 rfl
theorem dc_X9_add_7 : decode prog_10_method_78_code 7 = .ok (.lreturn, 1) := ky_dc db_X9_signOf_7 39 rfl
theorem dc_X6_requireCell_0 : decode prog_1_method_58_code 0 = .ok (.iload_n 0, 1) := ky_dc db_X9_signOf_7 40 rfl
theorem dc_X6_requireCell_1 : decode prog_1_method_58_code 1 = .ok (.ifCond .lt 9, 3) := ky_dc db_X9_signOf_7 41 rfl
theorem dc_X6_requireCell_10 : decode prog_1_method_58_code 10 = .ok (.new 216, 3) := ky_dc db_X9_signOf_7 42 rfl
theorem dc_X6_requireCell_13 : decode prog_1_method_58_code 13 = .ok (.dup, 1) := ky_dc db_X9_signOf_7 43 rfl
theorem dc_X6_requireCell_14 : decode prog_1_method_58_code 14 = .ok (.ldc 218, 2) := ky_dc db_X9_signOf_7 44 rfl
theorem dc_X6_requireCell_16 : decode prog_1_method_58_code 16 = .ok (.invokespecial 220, 3) := ky_dc db_X9_signOf_7 45 rfl
theorem dc_X6_requireCell_19 : decode prog_1_method_58_code 19 = .ok (.athrow, 1) := ky_dc db_X9_signOf_7 46 rfl
theorem dc_X6_requireCell_4 : decode prog_1_method_58_code 4 = .ok (.iload_n 0, 1) := ky_dc db_X9_signOf_7 47 rfl
theorem dc_X6_requireCell_5 : decode prog_1_method_58_code 5 = .ok (.bipush 6, 2) := ky_dc db_X9_signOf_7 48 rfl
theorem dc_X6_requireCell_7 : decode prog_1_method_58_code 7 = .ok (.if_icmp .lt 13, 3) := ky_dc db_X9_signOf_7 49 rfl
theorem dc_X6_requireCell_20 : decode prog_1_method_58_code 20 = .ok (.return_, 1) := ky_dc db_X9_signOf_7 50 rfl
theorem dc_X6_requireBoth_0 : decode prog_1_method_59_code 0 = .ok (.iload_n 0, 1) := ky_dc db_X9_signOf_7 51 rfl
theorem dc_X6_requireBoth_1 : decode prog_1_method_59_code 1 = .ok (.invokestatic 27, 3) := ky_dc db_X9_signOf_7 52 rfl
theorem dc_X6_requireBoth_4 : decode prog_1_method_59_code 4 = .ok (.iload_n 1, 1) := ky_dc db_X9_signOf_7 53 rfl
theorem dc_X6_requireBoth_5 : decode prog_1_method_59_code 5 = .ok (.invokestatic 27, 3) := ky_dc db_X9_signOf_7 54 rfl
theorem dc_X6_requireBoth_8 : decode prog_1_method_59_code 8 = .ok (.return_, 1) := ky_dc db_X9_signOf_7 55 rfl
theorem dc_X6_requireWithin_0 : decode prog_1_method_60_code 0 = .ok (.iload_n 0, 1) := ky_dc db_X9_signOf_7 56 rfl
theorem dc_X6_requireWithin_1 : decode prog_1_method_60_code 1 = .ok (.iload_n 1, 1) := ky_dc db_X9_signOf_7 57 rfl
theorem dc_X6_requireWithin_2 : decode prog_1_method_60_code 2 = .ok (.if_icmp .lt 8, 3) := ky_dc db_X9_signOf_7 58 rfl
theorem dc_X6_requireWithin_10 : decode prog_1_method_60_code 10 = .ok (.new 223, 3) := ky_dc db_X9_signOf_7 59 rfl
def dl_X6_requireWithin_13 : List (ByteArray × Nat × Jvm.ClassFile.Instr × Nat) := [(prog_1_method_60_code, 13, .dup, 1), (prog_1_method_60_code, 14, .ldc 225, 2), (prog_1_method_60_code, 16, .invokespecial 227, 3), (prog_1_method_60_code, 19, .athrow, 1), (prog_1_method_60_code, 5, .iload_n 0, 1), (prog_1_method_60_code, 6, .iload_n 2, 1), (prog_1_method_60_code, 7, .if_icmp .le 13, 3), (prog_1_method_60_code, 20, .return_, 1), (prog_1_method_61_code, 0, .aload_n 0, 1), (prog_1_method_61_code, 1, .getfield 9, 3), (prog_1_method_61_code, 4, .iload_n 1, 1), (prog_1_method_61_code, 5, .lload_n 2, 1), (prog_1_method_61_code, 6, .lastore, 1), (prog_1_method_61_code, 7, .aload_n 0, 1), (prog_1_method_61_code, 8, .dup, 1), (prog_1_method_61_code, 9, .getfield 228, 3), (prog_1_method_61_code, 12, .iconst 1, 1), (prog_1_method_61_code, 13, .iadd, 1), (prog_1_method_61_code, 14, .putfield 228, 3), (prog_1_method_61_code, 17, .lload_n 2, 1), (prog_1_method_61_code, 18, .invokestatic 131, 3), (prog_1_method_61_code, 21, .ireturn, 1), (prog_1_method_2_code, 0, .iload_n 1, 1), (prog_1_method_2_code, 1, .invokestatic 27, 3), (prog_1_method_2_code, 4, .aload_n 0, 1), (prog_1_method_2_code, 5, .iload_n 1, 1), (prog_1_method_2_code, 6, .lconst 0, 1), (prog_1_method_2_code, 7, .iload_n 2, 1), (prog_1_method_2_code, 8, .invokestatic 31, 3), (prog_1_method_2_code, 11, .invokevirtual 37, 3), (prog_1_method_2_code, 14, .ireturn, 1), (prog_1_method_3_code, 0, .iload_n 1, 1), (prog_1_method_3_code, 1, .invokestatic 27, 3), (prog_1_method_3_code, 4, .aload_n 0, 1), (prog_1_method_3_code, 5, .iload_n 1, 1), (prog_1_method_3_code, 6, .ldc2_w 41, 3), (prog_1_method_3_code, 9, .iload_n 2, 1), (prog_1_method_3_code, 10, .invokestatic 31, 3), (prog_1_method_3_code, 13, .invokevirtual 37, 3), (prog_1_method_3_code, 16, .ireturn, 1), (prog_1_method_4_code, 0, .iload_n 1, 1), (prog_1_method_4_code, 1, .invokestatic 27, 3), (prog_1_method_4_code, 4, .iload_n 2, 1), (prog_1_method_4_code, 5, .i2l, 1), (prog_1_method_4_code, 6, .invokestatic 43, 3), (prog_1_method_4_code, 9, .lstore_n 3, 1), (prog_1_method_4_code, 10, .aload_n 0, 1), (prog_1_method_4_code, 11, .iload_n 1, 1), (prog_1_method_4_code, 12, .lload_n 3, 1), (prog_1_method_4_code, 13, .bipush (-2), 2), (prog_1_method_4_code, 15, .invokestatic 49, 3), (prog_1_method_4_code, 18, .iload_n 2, 1), (prog_1_method_4_code, 19, .ifCond .ge 7, 3), (prog_1_method_4_code, 26, .iconst 0, 1), (prog_1_method_4_code, 27, .invokestatic 31, 3), (prog_1_method_4_code, 30, .invokevirtual 37, 3), (prog_1_method_4_code, 33, .ireturn, 1), (prog_1_method_4_code, 22, .iconst 1, 1), (prog_1_method_4_code, 23, .goto 4, 3), (prog_1_method_5_code, 0, .iload_n 1, 1)]
theorem db_X6_requireWithin_13 : dl_X6_requireWithin_13.all (fun x => decide (decode x.1 x.2.1 = .ok x.2.2)) = true := by decide +kernel
theorem dc_X6_requireWithin_13 : decode prog_1_method_60_code 13 = .ok (.dup, 1) := ky_dc db_X6_requireWithin_13 0 rfl
theorem dc_X6_requireWithin_14 : decode prog_1_method_60_code 14 = .ok (.ldc 225, 2) := ky_dc db_X6_requireWithin_13 1 rfl
theorem dc_X6_requireWithin_16 : decode prog_1_method_60_code 16 = .ok (.invokespecial 227, 3) := ky_dc db_X6_requireWithin_13 2 rfl
theorem dc_X6_requireWithin_19 : decode prog_1_method_60_code 19 = .ok (.athrow, 1) := ky_dc db_X6_requireWithin_13 3 rfl
theorem dc_X6_requireWithin_5 : decode prog_1_method_60_code 5 = .ok (.iload_n 0, 1) := ky_dc db_X6_requireWithin_13 4 rfl
theorem dc_X6_requireWithin_6 : decode prog_1_method_60_code 6 = .ok (.iload_n 2, 1) := ky_dc db_X6_requireWithin_13 5 rfl
theorem dc_X6_requireWithin_7 : decode prog_1_method_60_code 7 = .ok (.if_icmp .le 13, 3) := ky_dc db_X6_requireWithin_13 6 rfl
theorem dc_X6_requireWithin_20 : decode prog_1_method_60_code 20 = .ok (.return_, 1) := ky_dc db_X6_requireWithin_13 7 rfl
theorem dc_X6_give_0 : decode prog_1_method_61_code 0 = .ok (.aload_n 0, 1) := ky_dc db_X6_requireWithin_13 8 rfl
theorem dc_X6_give_1 : decode prog_1_method_61_code 1 = .ok (.getfield 9, 3) := ky_dc db_X6_requireWithin_13 9 rfl
theorem dc_X6_give_4 : decode prog_1_method_61_code 4 = .ok (.iload_n 1, 1) := ky_dc db_X6_requireWithin_13 10 rfl
theorem dc_X6_give_5 : decode prog_1_method_61_code 5 = .ok (.lload_n 2, 1) := ky_dc db_X6_requireWithin_13 11 rfl
theorem dc_X6_give_6 : decode prog_1_method_61_code 6 = .ok (.lastore, 1) := ky_dc db_X6_requireWithin_13 12 rfl
theorem dc_X6_give_7 : decode prog_1_method_61_code 7 = .ok (.aload_n 0, 1) := ky_dc db_X6_requireWithin_13 13 rfl
theorem dc_X6_give_8 : decode prog_1_method_61_code 8 = .ok (.dup, 1) := ky_dc db_X6_requireWithin_13 14 rfl
theorem dc_X6_give_9 : decode prog_1_method_61_code 9 = .ok (.getfield 228, 3) := ky_dc db_X6_requireWithin_13 15 rfl
theorem dc_X6_give_12 : decode prog_1_method_61_code 12 = .ok (.iconst 1, 1) := ky_dc db_X6_requireWithin_13 16 rfl
theorem dc_X6_give_13 : decode prog_1_method_61_code 13 = .ok (.iadd, 1) := ky_dc db_X6_requireWithin_13 17 rfl
theorem dc_X6_give_14 : decode prog_1_method_61_code 14 = .ok (.putfield 228, 3) := ky_dc db_X6_requireWithin_13 18 rfl
theorem dc_X6_give_17 : decode prog_1_method_61_code 17 = .ok (.lload_n 2, 1) := ky_dc db_X6_requireWithin_13 19 rfl
theorem dc_X6_give_18 : decode prog_1_method_61_code 18 = .ok (.invokestatic 131, 3) := ky_dc db_X6_requireWithin_13 20 rfl
theorem dc_X6_give_21 : decode prog_1_method_61_code 21 = .ok (.ireturn, 1) := ky_dc db_X6_requireWithin_13 21 rfl
theorem dc_X6_zero_0 : decode prog_1_method_2_code 0 = .ok (.iload_n 1, 1) := ky_dc db_X6_requireWithin_13 22 rfl
theorem dc_X6_zero_1 : decode prog_1_method_2_code 1 = .ok (.invokestatic 27, 3) := ky_dc db_X6_requireWithin_13 23 rfl
theorem dc_X6_zero_4 : decode prog_1_method_2_code 4 = .ok (.aload_n 0, 1) := ky_dc db_X6_requireWithin_13 24 rfl
theorem dc_X6_zero_5 : decode prog_1_method_2_code 5 = .ok (.iload_n 1, 1) := ky_dc db_X6_requireWithin_13 25 rfl
theorem dc_X6_zero_6 : decode prog_1_method_2_code 6 = .ok (.lconst 0, 1) := ky_dc db_X6_requireWithin_13 26 rfl
theorem dc_X6_zero_7 : decode prog_1_method_2_code 7 = .ok (.iload_n 2, 1) := ky_dc db_X6_requireWithin_13 27 rfl
theorem dc_X6_zero_8 : decode prog_1_method_2_code 8 = .ok (.invokestatic 31, 3) := ky_dc db_X6_requireWithin_13 28 rfl
theorem dc_X6_zero_11 : decode prog_1_method_2_code 11 = .ok (.invokevirtual 37, 3) := ky_dc db_X6_requireWithin_13 29 rfl
theorem dc_X6_zero_14 : decode prog_1_method_2_code 14 = .ok (.ireturn, 1) := ky_dc db_X6_requireWithin_13 30 rfl
theorem dc_X6_endless_0 : decode prog_1_method_3_code 0 = .ok (.iload_n 1, 1) := ky_dc db_X6_requireWithin_13 31 rfl
theorem dc_X6_endless_1 : decode prog_1_method_3_code 1 = .ok (.invokestatic 27, 3) := ky_dc db_X6_requireWithin_13 32 rfl
theorem dc_X6_endless_4 : decode prog_1_method_3_code 4 = .ok (.aload_n 0, 1) := ky_dc db_X6_requireWithin_13 33 rfl
theorem dc_X6_endless_5 : decode prog_1_method_3_code 5 = .ok (.iload_n 1, 1) := ky_dc db_X6_requireWithin_13 34 rfl
theorem dc_X6_endless_6 : decode prog_1_method_3_code 6 = .ok (.ldc2_w 41, 3) := ky_dc db_X6_requireWithin_13 35 rfl
theorem dc_X6_endless_9 : decode prog_1_method_3_code 9 = .ok (.iload_n 2, 1) := ky_dc db_X6_requireWithin_13 36 rfl
theorem dc_X6_endless_10 : decode prog_1_method_3_code 10 = .ok (.invokestatic 31, 3) := ky_dc db_X6_requireWithin_13 37 rfl
theorem dc_X6_endless_13 : decode prog_1_method_3_code 13 = .ok (.invokevirtual 37, 3) := ky_dc db_X6_requireWithin_13 38 rfl
theorem dc_X6_endless_16 : decode prog_1_method_3_code 16 = .ok (.ireturn, 1) := ky_dc db_X6_requireWithin_13 39 rfl
theorem dc_X6_quarters_0 : decode prog_1_method_4_code 0 = .ok (.iload_n 1, 1) := ky_dc db_X6_requireWithin_13 40 rfl
theorem dc_X6_quarters_1 : decode prog_1_method_4_code 1 = .ok (.invokestatic 27, 3) := ky_dc db_X6_requireWithin_13 41 rfl
theorem dc_X6_quarters_4 : decode prog_1_method_4_code 4 = .ok (.iload_n 2, 1) := ky_dc db_X6_requireWithin_13 42 rfl
theorem dc_X6_quarters_5 : decode prog_1_method_4_code 5 = .ok (.i2l, 1) := ky_dc db_X6_requireWithin_13 43 rfl
theorem dc_X6_quarters_6 : decode prog_1_method_4_code 6 = .ok (.invokestatic 43, 3) := ky_dc db_X6_requireWithin_13 44 rfl
theorem dc_X6_quarters_9 : decode prog_1_method_4_code 9 = .ok (.lstore_n 3, 1) := ky_dc db_X6_requireWithin_13 45 rfl
theorem dc_X6_quarters_10 : decode prog_1_method_4_code 10 = .ok (.aload_n 0, 1) := ky_dc db_X6_requireWithin_13 46 rfl
theorem dc_X6_quarters_11 : decode prog_1_method_4_code 11 = .ok (.iload_n 1, 1) := ky_dc db_X6_requireWithin_13 47 rfl
theorem dc_X6_quarters_12 : decode prog_1_method_4_code 12 = .ok (.lload_n 3, 1) := ky_dc db_X6_requireWithin_13 48 rfl
theorem dc_X6_quarters_13 : decode prog_1_method_4_code 13 = .ok (.bipush (-2), 2) := ky_dc db_X6_requireWithin_13 49 rfl
theorem dc_X6_quarters_15 : decode prog_1_method_4_code 15 = .ok (.invokestatic 49, 3) := ky_dc db_X6_requireWithin_13 50 rfl
theorem dc_X6_quarters_18 : decode prog_1_method_4_code 18 = .ok (.iload_n 2, 1) := ky_dc db_X6_requireWithin_13 51 rfl
theorem dc_X6_quarters_19 : decode prog_1_method_4_code 19 = .ok (.ifCond .ge 7, 3) := ky_dc db_X6_requireWithin_13 52 rfl
theorem dc_X6_quarters_26 : decode prog_1_method_4_code 26 = .ok (.iconst 0, 1) := ky_dc db_X6_requireWithin_13 53 rfl
theorem dc_X6_quarters_27 : decode prog_1_method_4_code 27 = .ok (.invokestatic 31, 3) := ky_dc db_X6_requireWithin_13 54 rfl
theorem dc_X6_quarters_30 : decode prog_1_method_4_code 30 = .ok (.invokevirtual 37, 3) := ky_dc db_X6_requireWithin_13 55 rfl
theorem dc_X6_quarters_33 : decode prog_1_method_4_code 33 = .ok (.ireturn, 1) := ky_dc db_X6_requireWithin_13 56 rfl
theorem dc_X6_quarters_22 : decode prog_1_method_4_code 22 = .ok (.iconst 1, 1) := ky_dc db_X6_requireWithin_13 57 rfl
theorem dc_X6_quarters_23 : decode prog_1_method_4_code 23 = .ok (.goto 4, 3) := ky_dc db_X6_requireWithin_13 58 rfl
theorem dc_X6_power_0 : decode prog_1_method_5_code 0 = .ok (.iload_n 1, 1) := ky_dc db_X6_requireWithin_13 59 rfl
def dl_X6_power_1 : List (ByteArray × Nat × Jvm.ClassFile.Instr × Nat) := [(prog_1_method_5_code, 1, .invokestatic 27, 3), (prog_1_method_5_code, 4, .iload_n 2, 1), (prog_1_method_5_code, 5, .sipush (-1100), 3), (prog_1_method_5_code, 8, .sipush 1100, 3), (prog_1_method_5_code, 11, .invokestatic 55, 3), (prog_1_method_5_code, 14, .aload_n 0, 1), (prog_1_method_5_code, 15, .iload_n 1, 1), (prog_1_method_5_code, 16, .ldc2_w 59, 3), (prog_1_method_5_code, 19, .iload_n 2, 1), (prog_1_method_5_code, 20, .invokestatic 61, 3), (prog_1_method_5_code, 23, .iload_n 3, 1), (prog_1_method_5_code, 24, .invokestatic 31, 3), (prog_1_method_5_code, 27, .invokevirtual 37, 3), (prog_1_method_5_code, 30, .ireturn, 1), (prog_1_method_6_code, 0, .iload_n 1, 1), (prog_1_method_6_code, 1, .invokestatic 27, 3), (prog_1_method_6_code, 4, .iload_n 2, 1), (prog_1_method_6_code, 5, .i2l, 1), (prog_1_method_6_code, 6, .bipush 32, 2), (prog_1_method_6_code, 8, .lshl, 1), (prog_1_method_6_code, 9, .iload_n 3, 1), (prog_1_method_6_code, 10, .i2l, 1), (prog_1_method_6_code, 11, .ldc2_w 64, 3), (prog_1_method_6_code, 14, .land, 1), (prog_1_method_6_code, 15, .lor, 1), (prog_1_method_6_code, 16, .lstore 4, 2), (prog_1_method_6_code, 18, .lload 4, 2), (prog_1_method_6_code, 20, .invokestatic 66, 3), (prog_1_method_6_code, 23, .ifCond .ne 16, 3), (prog_1_method_6_code, 39, .aload_n 0, 1), (prog_1_method_6_code, 40, .iload_n 1, 1), (prog_1_method_6_code, 41, .lload 4, 2), (prog_1_method_6_code, 43, .invokevirtual 37, 3), (prog_1_method_6_code, 46, .ireturn, 1), (prog_1_method_6_code, 26, .aload_n 0, 1), (prog_1_method_6_code, 27, .dup, 1), (prog_1_method_6_code, 28, .getfield 70, 3), (prog_1_method_6_code, 31, .iconst 1, 1), (prog_1_method_6_code, 32, .iadd, 1), (prog_1_method_6_code, 33, .putfield 70, 3), (prog_1_method_6_code, 36, .bipush (-9), 2), (prog_1_method_6_code, 38, .ireturn, 1), (prog_1_method_7_code, 0, .iload_n 1, 1), (prog_1_method_7_code, 1, .invokestatic 27, 3), (prog_1_method_7_code, 4, .iload_n 2, 1), (prog_1_method_7_code, 5, .iconst 0, 1), (prog_1_method_7_code, 6, .getstatic 74, 3), (prog_1_method_7_code, 9, .arraylength, 1), (prog_1_method_7_code, 10, .iconst 1, 1), (prog_1_method_7_code, 11, .isub, 1), (prog_1_method_7_code, 12, .invokestatic 55, 3), (prog_1_method_7_code, 15, .getstatic 74, 3), (prog_1_method_7_code, 18, .iload_n 2, 1), (prog_1_method_7_code, 19, .laload, 1), (prog_1_method_7_code, 20, .getstatic 77, 3), (prog_1_method_7_code, 23, .iload_n 2, 1), (prog_1_method_7_code, 24, .iaload, 1), (prog_1_method_7_code, 25, .invokestatic 49, 3), (prog_1_method_7_code, 28, .lstore 4, 2), (prog_1_method_7_code, 30, .aload_n 0, 1)]
theorem db_X6_power_1 : dl_X6_power_1.all (fun x => decide (decode x.1 x.2.1 = .ok x.2.2)) = true := by decide +kernel
theorem dc_X6_power_1 : decode prog_1_method_5_code 1 = .ok (.invokestatic 27, 3) := ky_dc db_X6_power_1 0 rfl
theorem dc_X6_power_4 : decode prog_1_method_5_code 4 = .ok (.iload_n 2, 1) := ky_dc db_X6_power_1 1 rfl
theorem dc_X6_power_5 : decode prog_1_method_5_code 5 = .ok (.sipush (-1100), 3) := ky_dc db_X6_power_1 2 rfl
theorem dc_X6_power_8 : decode prog_1_method_5_code 8 = .ok (.sipush 1100, 3) := ky_dc db_X6_power_1 3 rfl
theorem dc_X6_power_11 : decode prog_1_method_5_code 11 = .ok (.invokestatic 55, 3) := ky_dc db_X6_power_1 4 rfl
theorem dc_X6_power_14 : decode prog_1_method_5_code 14 = .ok (.aload_n 0, 1) := ky_dc db_X6_power_1 5 rfl
theorem dc_X6_power_15 : decode prog_1_method_5_code 15 = .ok (.iload_n 1, 1) := ky_dc db_X6_power_1 6 rfl
theorem dc_X6_power_16 : decode prog_1_method_5_code 16 = .ok (.ldc2_w 59, 3) := ky_dc db_X6_power_1 7 rfl
theorem dc_X6_power_19 : decode prog_1_method_5_code 19 = .ok (.iload_n 2, 1) := ky_dc db_X6_power_1 8 rfl
theorem dc_X6_power_20 : decode prog_1_method_5_code 20 = .ok (.invokestatic 61, 3) := ky_dc db_X6_power_1 9 rfl
theorem dc_X6_power_23 : decode prog_1_method_5_code 23 = .ok (.iload_n 3, 1) := ky_dc db_X6_power_1 10 rfl
theorem dc_X6_power_24 : decode prog_1_method_5_code 24 = .ok (.invokestatic 31, 3) := ky_dc db_X6_power_1 11 rfl
theorem dc_X6_power_27 : decode prog_1_method_5_code 27 = .ok (.invokevirtual 37, 3) := ky_dc db_X6_power_1 12 rfl
theorem dc_X6_power_30 : decode prog_1_method_5_code 30 = .ok (.ireturn, 1) := ky_dc db_X6_power_1 13 rfl
theorem dc_X6_bits_0 : decode prog_1_method_6_code 0 = .ok (.iload_n 1, 1) := ky_dc db_X6_power_1 14 rfl
theorem dc_X6_bits_1 : decode prog_1_method_6_code 1 = .ok (.invokestatic 27, 3) := ky_dc db_X6_power_1 15 rfl
theorem dc_X6_bits_4 : decode prog_1_method_6_code 4 = .ok (.iload_n 2, 1) := ky_dc db_X6_power_1 16 rfl
theorem dc_X6_bits_5 : decode prog_1_method_6_code 5 = .ok (.i2l, 1) := ky_dc db_X6_power_1 17 rfl
theorem dc_X6_bits_6 : decode prog_1_method_6_code 6 = .ok (.bipush 32, 2) := ky_dc db_X6_power_1 18 rfl
theorem dc_X6_bits_8 : decode prog_1_method_6_code 8 = .ok (.lshl, 1) := ky_dc db_X6_power_1 19 rfl
theorem dc_X6_bits_9 : decode prog_1_method_6_code 9 = .ok (.iload_n 3, 1) := ky_dc db_X6_power_1 20 rfl
theorem dc_X6_bits_10 : decode prog_1_method_6_code 10 = .ok (.i2l, 1) := ky_dc db_X6_power_1 21 rfl
theorem dc_X6_bits_11 : decode prog_1_method_6_code 11 = .ok (.ldc2_w 64, 3) := ky_dc db_X6_power_1 22 rfl
theorem dc_X6_bits_14 : decode prog_1_method_6_code 14 = .ok (.land, 1) := ky_dc db_X6_power_1 23 rfl
theorem dc_X6_bits_15 : decode prog_1_method_6_code 15 = .ok (.lor, 1) := ky_dc db_X6_power_1 24 rfl
theorem dc_X6_bits_16 : decode prog_1_method_6_code 16 = .ok (.lstore 4, 2) := ky_dc db_X6_power_1 25 rfl
theorem dc_X6_bits_18 : decode prog_1_method_6_code 18 = .ok (.lload 4, 2) := ky_dc db_X6_power_1 26 rfl
theorem dc_X6_bits_20 : decode prog_1_method_6_code 20 = .ok (.invokestatic 66, 3) := ky_dc db_X6_power_1 27 rfl
theorem dc_X6_bits_23 : decode prog_1_method_6_code 23 = .ok (.ifCond .ne 16, 3) := ky_dc db_X6_power_1 28 rfl
theorem dc_X6_bits_39 : decode prog_1_method_6_code 39 = .ok (.aload_n 0, 1) := ky_dc db_X6_power_1 29 rfl
theorem dc_X6_bits_40 : decode prog_1_method_6_code 40 = .ok (.iload_n 1, 1) := ky_dc db_X6_power_1 30 rfl
theorem dc_X6_bits_41 : decode prog_1_method_6_code 41 = .ok (.lload 4, 2) := ky_dc db_X6_power_1 31 rfl
theorem dc_X6_bits_43 : decode prog_1_method_6_code 43 = .ok (.invokevirtual 37, 3) := ky_dc db_X6_power_1 32 rfl
theorem dc_X6_bits_46 : decode prog_1_method_6_code 46 = .ok (.ireturn, 1) := ky_dc db_X6_power_1 33 rfl
theorem dc_X6_bits_26 : decode prog_1_method_6_code 26 = .ok (.aload_n 0, 1) := ky_dc db_X6_power_1 34 rfl
theorem dc_X6_bits_27 : decode prog_1_method_6_code 27 = .ok (.dup, 1) := ky_dc db_X6_power_1 35 rfl
theorem dc_X6_bits_28 : decode prog_1_method_6_code 28 = .ok (.getfield 70, 3) := ky_dc db_X6_power_1 36 rfl
theorem dc_X6_bits_31 : decode prog_1_method_6_code 31 = .ok (.iconst 1, 1) := ky_dc db_X6_power_1 37 rfl
theorem dc_X6_bits_32 : decode prog_1_method_6_code 32 = .ok (.iadd, 1) := ky_dc db_X6_power_1 38 rfl
theorem dc_X6_bits_33 : decode prog_1_method_6_code 33 = .ok (.putfield 70, 3) := ky_dc db_X6_power_1 39 rfl
theorem dc_X6_bits_36 : decode prog_1_method_6_code 36 = .ok (.bipush (-9), 2) := ky_dc db_X6_power_1 40 rfl
theorem dc_X6_bits_38 : decode prog_1_method_6_code 38 = .ok (.ireturn, 1) := ky_dc db_X6_power_1 41 rfl
theorem dc_X6_sample_0 : decode prog_1_method_7_code 0 = .ok (.iload_n 1, 1) := ky_dc db_X6_power_1 42 rfl
theorem dc_X6_sample_1 : decode prog_1_method_7_code 1 = .ok (.invokestatic 27, 3) := ky_dc db_X6_power_1 43 rfl
theorem dc_X6_sample_4 : decode prog_1_method_7_code 4 = .ok (.iload_n 2, 1) := ky_dc db_X6_power_1 44 rfl
theorem dc_X6_sample_5 : decode prog_1_method_7_code 5 = .ok (.iconst 0, 1) := ky_dc db_X6_power_1 45 rfl
theorem dc_X6_sample_6 : decode prog_1_method_7_code 6 = .ok (.getstatic 74, 3) := ky_dc db_X6_power_1 46 rfl
theorem dc_X6_sample_9 : decode prog_1_method_7_code 9 = .ok (.arraylength, 1) := ky_dc db_X6_power_1 47 rfl
theorem dc_X6_sample_10 : decode prog_1_method_7_code 10 = .ok (.iconst 1, 1) := ky_dc db_X6_power_1 48 rfl
theorem dc_X6_sample_11 : decode prog_1_method_7_code 11 = .ok (.isub, 1) := ky_dc db_X6_power_1 49 rfl
theorem dc_X6_sample_12 : decode prog_1_method_7_code 12 = .ok (.invokestatic 55, 3) := ky_dc db_X6_power_1 50 rfl
theorem dc_X6_sample_15 : decode prog_1_method_7_code 15 = .ok (.getstatic 74, 3) := ky_dc db_X6_power_1 51 rfl
theorem dc_X6_sample_18 : decode prog_1_method_7_code 18 = .ok (.iload_n 2, 1) := ky_dc db_X6_power_1 52 rfl
theorem dc_X6_sample_19 : decode prog_1_method_7_code 19 = .ok (.laload, 1) := ky_dc db_X6_power_1 53 rfl
theorem dc_X6_sample_20 : decode prog_1_method_7_code 20 = .ok (.getstatic 77, 3) := ky_dc db_X6_power_1 54 rfl
theorem dc_X6_sample_23 : decode prog_1_method_7_code 23 = .ok (.iload_n 2, 1) := ky_dc db_X6_power_1 55 rfl
theorem dc_X6_sample_24 : decode prog_1_method_7_code 24 = .ok (.iaload, 1) := ky_dc db_X6_power_1 56 rfl
theorem dc_X6_sample_25 : decode prog_1_method_7_code 25 = .ok (.invokestatic 49, 3) := ky_dc db_X6_power_1 57 rfl
theorem dc_X6_sample_28 : decode prog_1_method_7_code 28 = .ok (.lstore 4, 2) := ky_dc db_X6_power_1 58 rfl
theorem dc_X6_sample_30 : decode prog_1_method_7_code 30 = .ok (.aload_n 0, 1) := ky_dc db_X6_power_1 59 rfl
def dl_X6_sample_31 : List (ByteArray × Nat × Jvm.ClassFile.Instr × Nat) := [(prog_1_method_7_code, 31, .iload_n 1, 1), (prog_1_method_7_code, 32, .lload 4, 2), (prog_1_method_7_code, 34, .iload_n 3, 1), (prog_1_method_7_code, 35, .invokestatic 31, 3), (prog_1_method_7_code, 38, .invokevirtual 37, 3), (prog_1_method_7_code, 41, .ireturn, 1), (prog_1_method_8_code, 0, .iload_n 1, 1), (prog_1_method_8_code, 1, .iload_n 2, 1), (prog_1_method_8_code, 2, .invokestatic 81, 3), (prog_1_method_8_code, 5, .aload_n 0, 1), (prog_1_method_8_code, 6, .iload_n 2, 1), (prog_1_method_8_code, 7, .aload_n 0, 1), (prog_1_method_8_code, 8, .getfield 9, 3), (prog_1_method_8_code, 11, .iload_n 1, 1), (prog_1_method_8_code, 12, .laload, 1), (prog_1_method_8_code, 13, .invokevirtual 37, 3), (prog_1_method_8_code, 16, .ireturn, 1), (prog_1_method_9_code, 0, .iload_n 1, 1), (prog_1_method_9_code, 1, .iload_n 2, 1), (prog_1_method_9_code, 2, .invokestatic 81, 3), (prog_1_method_9_code, 5, .aload_n 0, 1), (prog_1_method_9_code, 6, .getfield 9, 3), (prog_1_method_9_code, 9, .iload_n 1, 1), (prog_1_method_9_code, 10, .laload, 1), (prog_1_method_9_code, 11, .lstore_n 3, 1), (prog_1_method_9_code, 12, .aload_n 0, 1), (prog_1_method_9_code, 13, .iload_n 1, 1), (prog_1_method_9_code, 14, .aload_n 0, 1), (prog_1_method_9_code, 15, .getfield 9, 3), (prog_1_method_9_code, 18, .iload_n 2, 1), (prog_1_method_9_code, 19, .laload, 1), (prog_1_method_9_code, 20, .invokevirtual 37, 3), (prog_1_method_9_code, 23, .istore 5, 2), (prog_1_method_9_code, 25, .aload_n 0, 1), (prog_1_method_9_code, 26, .iload_n 2, 1), (prog_1_method_9_code, 27, .lload_n 3, 1), (prog_1_method_9_code, 28, .invokevirtual 37, 3), (prog_1_method_9_code, 31, .pop, 1), (prog_1_method_9_code, 32, .iload 5, 2), (prog_1_method_9_code, 34, .ireturn, 1), (prog_1_method_10_code, 0, .iload_n 1, 1), (prog_1_method_10_code, 1, .iload_n 2, 1), (prog_1_method_10_code, 2, .invokestatic 81, 3), (prog_1_method_10_code, 5, .aload_n 0, 1), (prog_1_method_10_code, 6, .iload_n 2, 1), (prog_1_method_10_code, 7, .aload_n 0, 1), (prog_1_method_10_code, 8, .getfield 9, 3), (prog_1_method_10_code, 11, .iload_n 1, 1), (prog_1_method_10_code, 12, .laload, 1), (prog_1_method_10_code, 13, .invokestatic 85, 3), (prog_1_method_10_code, 16, .invokevirtual 37, 3), (prog_1_method_10_code, 19, .ireturn, 1), (prog_1_method_11_code, 0, .iload_n 1, 1), (prog_1_method_11_code, 1, .iload_n 2, 1), (prog_1_method_11_code, 2, .invokestatic 81, 3), (prog_1_method_11_code, 5, .aload_n 0, 1), (prog_1_method_11_code, 6, .iload_n 2, 1), (prog_1_method_11_code, 7, .aload_n 0, 1), (prog_1_method_11_code, 8, .getfield 9, 3), (prog_1_method_11_code, 11, .iload_n 1, 1)]
theorem db_X6_sample_31 : dl_X6_sample_31.all (fun x => decide (decode x.1 x.2.1 = .ok x.2.2)) = true := by decide +kernel
theorem dc_X6_sample_31 : decode prog_1_method_7_code 31 = .ok (.iload_n 1, 1) := ky_dc db_X6_sample_31 0 rfl
theorem dc_X6_sample_32 : decode prog_1_method_7_code 32 = .ok (.lload 4, 2) := ky_dc db_X6_sample_31 1 rfl
theorem dc_X6_sample_34 : decode prog_1_method_7_code 34 = .ok (.iload_n 3, 1) := ky_dc db_X6_sample_31 2 rfl
theorem dc_X6_sample_35 : decode prog_1_method_7_code 35 = .ok (.invokestatic 31, 3) := ky_dc db_X6_sample_31 3 rfl
theorem dc_X6_sample_38 : decode prog_1_method_7_code 38 = .ok (.invokevirtual 37, 3) := ky_dc db_X6_sample_31 4 rfl
theorem dc_X6_sample_41 : decode prog_1_method_7_code 41 = .ok (.ireturn, 1) := ky_dc db_X6_sample_31 5 rfl
theorem dc_X6_copy_0 : decode prog_1_method_8_code 0 = .ok (.iload_n 1, 1) := ky_dc db_X6_sample_31 6 rfl
theorem dc_X6_copy_1 : decode prog_1_method_8_code 1 = .ok (.iload_n 2, 1) := ky_dc db_X6_sample_31 7 rfl
theorem dc_X6_copy_2 : decode prog_1_method_8_code 2 = .ok (.invokestatic 81, 3) := ky_dc db_X6_sample_31 8 rfl
theorem dc_X6_copy_5 : decode prog_1_method_8_code 5 = .ok (.aload_n 0, 1) := ky_dc db_X6_sample_31 9 rfl
theorem dc_X6_copy_6 : decode prog_1_method_8_code 6 = .ok (.iload_n 2, 1) := ky_dc db_X6_sample_31 10 rfl
theorem dc_X6_copy_7 : decode prog_1_method_8_code 7 = .ok (.aload_n 0, 1) := ky_dc db_X6_sample_31 11 rfl
theorem dc_X6_copy_8 : decode prog_1_method_8_code 8 = .ok (.getfield 9, 3) := ky_dc db_X6_sample_31 12 rfl
theorem dc_X6_copy_11 : decode prog_1_method_8_code 11 = .ok (.iload_n 1, 1) := ky_dc db_X6_sample_31 13 rfl
theorem dc_X6_copy_12 : decode prog_1_method_8_code 12 = .ok (.laload, 1) := ky_dc db_X6_sample_31 14 rfl
theorem dc_X6_copy_13 : decode prog_1_method_8_code 13 = .ok (.invokevirtual 37, 3) := ky_dc db_X6_sample_31 15 rfl
theorem dc_X6_copy_16 : decode prog_1_method_8_code 16 = .ok (.ireturn, 1) := ky_dc db_X6_sample_31 16 rfl
theorem dc_X6_swap_0 : decode prog_1_method_9_code 0 = .ok (.iload_n 1, 1) := ky_dc db_X6_sample_31 17 rfl
theorem dc_X6_swap_1 : decode prog_1_method_9_code 1 = .ok (.iload_n 2, 1) := ky_dc db_X6_sample_31 18 rfl
theorem dc_X6_swap_2 : decode prog_1_method_9_code 2 = .ok (.invokestatic 81, 3) := ky_dc db_X6_sample_31 19 rfl
theorem dc_X6_swap_5 : decode prog_1_method_9_code 5 = .ok (.aload_n 0, 1) := ky_dc db_X6_sample_31 20 rfl
theorem dc_X6_swap_6 : decode prog_1_method_9_code 6 = .ok (.getfield 9, 3) := ky_dc db_X6_sample_31 21 rfl
theorem dc_X6_swap_9 : decode prog_1_method_9_code 9 = .ok (.iload_n 1, 1) := ky_dc db_X6_sample_31 22 rfl
theorem dc_X6_swap_10 : decode prog_1_method_9_code 10 = .ok (.laload, 1) := ky_dc db_X6_sample_31 23 rfl
theorem dc_X6_swap_11 : decode prog_1_method_9_code 11 = .ok (.lstore_n 3, 1) := ky_dc db_X6_sample_31 24 rfl
theorem dc_X6_swap_12 : decode prog_1_method_9_code 12 = .ok (.aload_n 0, 1) := ky_dc db_X6_sample_31 25 rfl
theorem dc_X6_swap_13 : decode prog_1_method_9_code 13 = .ok (.iload_n 1, 1) := ky_dc db_X6_sample_31 26 rfl
theorem dc_X6_swap_14 : decode prog_1_method_9_code 14 = .ok (.aload_n 0, 1) := ky_dc db_X6_sample_31 27 rfl
theorem dc_X6_swap_15 : decode prog_1_method_9_code 15 = .ok (.getfield 9, 3) := ky_dc db_X6_sample_31 28 rfl
theorem dc_X6_swap_18 : decode prog_1_method_9_code 18 = .ok (.iload_n 2, 1) := ky_dc db_X6_sample_31 29 rfl
theorem dc_X6_swap_19 : decode prog_1_method_9_code 19 = .ok (.laload, 1) := ky_dc db_X6_sample_31 30 rfl
theorem dc_X6_swap_20 : decode prog_1_method_9_code 20 = .ok (.invokevirtual 37, 3) := ky_dc db_X6_sample_31 31 rfl
theorem dc_X6_swap_23 : decode prog_1_method_9_code 23 = .ok (.istore 5, 2) := ky_dc db_X6_sample_31 32 rfl
theorem dc_X6_swap_25 : decode prog_1_method_9_code 25 = .ok (.aload_n 0, 1) := ky_dc db_X6_sample_31 33 rfl
theorem dc_X6_swap_26 : decode prog_1_method_9_code 26 = .ok (.iload_n 2, 1) := ky_dc db_X6_sample_31 34 rfl
theorem dc_X6_swap_27 : decode prog_1_method_9_code 27 = .ok (.lload_n 3, 1) := ky_dc db_X6_sample_31 35 rfl
theorem dc_X6_swap_28 : decode prog_1_method_9_code 28 = .ok (.invokevirtual 37, 3) := ky_dc db_X6_sample_31 36 rfl
theorem dc_X6_swap_31 : decode prog_1_method_9_code 31 = .ok (.pop, 1) := ky_dc db_X6_sample_31 37 rfl
theorem dc_X6_swap_32 : decode prog_1_method_9_code 32 = .ok (.iload 5, 2) := ky_dc db_X6_sample_31 38 rfl
theorem dc_X6_swap_34 : decode prog_1_method_9_code 34 = .ok (.ireturn, 1) := ky_dc db_X6_sample_31 39 rfl
theorem dc_X6_floor_0 : decode prog_1_method_10_code 0 = .ok (.iload_n 1, 1) := ky_dc db_X6_sample_31 40 rfl
theorem dc_X6_floor_1 : decode prog_1_method_10_code 1 = .ok (.iload_n 2, 1) := ky_dc db_X6_sample_31 41 rfl
theorem dc_X6_floor_2 : decode prog_1_method_10_code 2 = .ok (.invokestatic 81, 3) := ky_dc db_X6_sample_31 42 rfl
theorem dc_X6_floor_5 : decode prog_1_method_10_code 5 = .ok (.aload_n 0, 1) := ky_dc db_X6_sample_31 43 rfl
theorem dc_X6_floor_6 : decode prog_1_method_10_code 6 = .ok (.iload_n 2, 1) := ky_dc db_X6_sample_31 44 rfl
theorem dc_X6_floor_7 : decode prog_1_method_10_code 7 = .ok (.aload_n 0, 1) := ky_dc db_X6_sample_31 45 rfl
theorem dc_X6_floor_8 : decode prog_1_method_10_code 8 = .ok (.getfield 9, 3) := ky_dc db_X6_sample_31 46 rfl
theorem dc_X6_floor_11 : decode prog_1_method_10_code 11 = .ok (.iload_n 1, 1) := ky_dc db_X6_sample_31 47 rfl
theorem dc_X6_floor_12 : decode prog_1_method_10_code 12 = .ok (.laload, 1) := ky_dc db_X6_sample_31 48 rfl
theorem dc_X6_floor_13 : decode prog_1_method_10_code 13 = .ok (.invokestatic 85, 3) := ky_dc db_X6_sample_31 49 rfl
theorem dc_X6_floor_16 : decode prog_1_method_10_code 16 = .ok (.invokevirtual 37, 3) := ky_dc db_X6_sample_31 50 rfl
theorem dc_X6_floor_19 : decode prog_1_method_10_code 19 = .ok (.ireturn, 1) := ky_dc db_X6_sample_31 51 rfl
theorem dc_X6_ceil_0 : decode prog_1_method_11_code 0 = .ok (.iload_n 1, 1) := ky_dc db_X6_sample_31 52 rfl
theorem dc_X6_ceil_1 : decode prog_1_method_11_code 1 = .ok (.iload_n 2, 1) := ky_dc db_X6_sample_31 53 rfl
theorem dc_X6_ceil_2 : decode prog_1_method_11_code 2 = .ok (.invokestatic 81, 3) := ky_dc db_X6_sample_31 54 rfl
theorem dc_X6_ceil_5 : decode prog_1_method_11_code 5 = .ok (.aload_n 0, 1) := ky_dc db_X6_sample_31 55 rfl
theorem dc_X6_ceil_6 : decode prog_1_method_11_code 6 = .ok (.iload_n 2, 1) := ky_dc db_X6_sample_31 56 rfl
theorem dc_X6_ceil_7 : decode prog_1_method_11_code 7 = .ok (.aload_n 0, 1) := ky_dc db_X6_sample_31 57 rfl
theorem dc_X6_ceil_8 : decode prog_1_method_11_code 8 = .ok (.getfield 9, 3) := ky_dc db_X6_sample_31 58 rfl
theorem dc_X6_ceil_11 : decode prog_1_method_11_code 11 = .ok (.iload_n 1, 1) := ky_dc db_X6_sample_31 59 rfl
def dl_X6_ceil_12 : List (ByteArray × Nat × Jvm.ClassFile.Instr × Nat) := [(prog_1_method_11_code, 12, .laload, 1), (prog_1_method_11_code, 13, .invokestatic 90, 3), (prog_1_method_11_code, 16, .invokevirtual 37, 3), (prog_1_method_11_code, 19, .ireturn, 1), (prog_1_method_12_code, 0, .iload_n 1, 1), (prog_1_method_12_code, 1, .iload_n 2, 1), (prog_1_method_12_code, 2, .invokestatic 81, 3), (prog_1_method_12_code, 5, .aload_n 0, 1), (prog_1_method_12_code, 6, .iload_n 2, 1), (prog_1_method_12_code, 7, .aload_n 0, 1), (prog_1_method_12_code, 8, .getfield 9, 3), (prog_1_method_12_code, 11, .iload_n 1, 1), (prog_1_method_12_code, 12, .laload, 1), (prog_1_method_12_code, 13, .invokestatic 93, 3), (prog_1_method_12_code, 16, .invokevirtual 37, 3), (prog_1_method_12_code, 19, .ireturn, 1), (prog_1_method_13_code, 0, .iload_n 1, 1), (prog_1_method_13_code, 1, .iload_n 2, 1), (prog_1_method_13_code, 2, .invokestatic 81, 3), (prog_1_method_13_code, 5, .aload_n 0, 1), (prog_1_method_13_code, 6, .iload_n 2, 1), (prog_1_method_13_code, 7, .aload_n 0, 1), (prog_1_method_13_code, 8, .getfield 9, 3), (prog_1_method_13_code, 11, .iload_n 1, 1), (prog_1_method_13_code, 12, .laload, 1), (prog_1_method_13_code, 13, .invokestatic 96, 3), (prog_1_method_13_code, 16, .invokevirtual 37, 3), (prog_1_method_13_code, 19, .ireturn, 1), (prog_1_method_14_code, 0, .iload_n 1, 1), (prog_1_method_14_code, 1, .iload_n 2, 1), (prog_1_method_14_code, 2, .invokestatic 81, 3), (prog_1_method_14_code, 5, .aload_n 0, 1), (prog_1_method_14_code, 6, .iload_n 2, 1), (prog_1_method_14_code, 7, .aload_n 0, 1), (prog_1_method_14_code, 8, .getfield 9, 3), (prog_1_method_14_code, 11, .iload_n 1, 1), (prog_1_method_14_code, 12, .laload, 1), (prog_1_method_14_code, 13, .invokestatic 99, 3), (prog_1_method_14_code, 16, .invokevirtual 37, 3), (prog_1_method_14_code, 19, .ireturn, 1), (prog_1_method_15_code, 0, .iload_n 1, 1), (prog_1_method_15_code, 1, .iload_n 2, 1), (prog_1_method_15_code, 2, .invokestatic 81, 3), (prog_1_method_15_code, 5, .aload_n 0, 1), (prog_1_method_15_code, 6, .iload_n 2, 1), (prog_1_method_15_code, 7, .aload_n 0, 1), (prog_1_method_15_code, 8, .getfield 9, 3), (prog_1_method_15_code, 11, .iload_n 1, 1), (prog_1_method_15_code, 12, .laload, 1), (prog_1_method_15_code, 13, .invokestatic 102, 3), (prog_1_method_15_code, 16, .invokevirtual 37, 3), (prog_1_method_15_code, 19, .ireturn, 1), (prog_1_method_16_code, 0, .iload_n 1, 1), (prog_1_method_16_code, 1, .iload_n 2, 1), (prog_1_method_16_code, 2, .invokestatic 81, 3), (prog_1_method_16_code, 5, .aload_n 0, 1), (prog_1_method_16_code, 6, .iload_n 2, 1), (prog_1_method_16_code, 7, .aload_n 0, 1), (prog_1_method_16_code, 8, .getfield 9, 3), (prog_1_method_16_code, 11, .iload_n 1, 1)]
theorem db_X6_ceil_12 : dl_X6_ceil_12.all (fun x => decide (decode x.1 x.2.1 = .ok x.2.2)) = true := by decide +kernel
theorem dc_X6_ceil_12 : decode prog_1_method_11_code 12 = .ok (.laload, 1) := ky_dc db_X6_ceil_12 0 rfl
theorem dc_X6_ceil_13 : decode prog_1_method_11_code 13 = .ok (.invokestatic 90, 3) := ky_dc db_X6_ceil_12 1 rfl
theorem dc_X6_ceil_16 : decode prog_1_method_11_code 16 = .ok (.invokevirtual 37, 3) := ky_dc db_X6_ceil_12 2 rfl
theorem dc_X6_ceil_19 : decode prog_1_method_11_code 19 = .ok (.ireturn, 1) := ky_dc db_X6_ceil_12 3 rfl
theorem dc_X6_rint_0 : decode prog_1_method_12_code 0 = .ok (.iload_n 1, 1) := ky_dc db_X6_ceil_12 4 rfl
theorem dc_X6_rint_1 : decode prog_1_method_12_code 1 = .ok (.iload_n 2, 1) := ky_dc db_X6_ceil_12 5 rfl
theorem dc_X6_rint_2 : decode prog_1_method_12_code 2 = .ok (.invokestatic 81, 3) := ky_dc db_X6_ceil_12 6 rfl
theorem dc_X6_rint_5 : decode prog_1_method_12_code 5 = .ok (.aload_n 0, 1) := ky_dc db_X6_ceil_12 7 rfl
theorem dc_X6_rint_6 : decode prog_1_method_12_code 6 = .ok (.iload_n 2, 1) := ky_dc db_X6_ceil_12 8 rfl
theorem dc_X6_rint_7 : decode prog_1_method_12_code 7 = .ok (.aload_n 0, 1) := ky_dc db_X6_ceil_12 9 rfl
theorem dc_X6_rint_8 : decode prog_1_method_12_code 8 = .ok (.getfield 9, 3) := ky_dc db_X6_ceil_12 10 rfl
theorem dc_X6_rint_11 : decode prog_1_method_12_code 11 = .ok (.iload_n 1, 1) := ky_dc db_X6_ceil_12 11 rfl
theorem dc_X6_rint_12 : decode prog_1_method_12_code 12 = .ok (.laload, 1) := ky_dc db_X6_ceil_12 12 rfl
theorem dc_X6_rint_13 : decode prog_1_method_12_code 13 = .ok (.invokestatic 93, 3) := ky_dc db_X6_ceil_12 13 rfl
theorem dc_X6_rint_16 : decode prog_1_method_12_code 16 = .ok (.invokevirtual 37, 3) := ky_dc db_X6_ceil_12 14 rfl
theorem dc_X6_rint_19 : decode prog_1_method_12_code 19 = .ok (.ireturn, 1) := ky_dc db_X6_ceil_12 15 rfl
theorem dc_X6_size_0 : decode prog_1_method_13_code 0 = .ok (.iload_n 1, 1) := ky_dc db_X6_ceil_12 16 rfl
theorem dc_X6_size_1 : decode prog_1_method_13_code 1 = .ok (.iload_n 2, 1) := ky_dc db_X6_ceil_12 17 rfl
theorem dc_X6_size_2 : decode prog_1_method_13_code 2 = .ok (.invokestatic 81, 3) := ky_dc db_X6_ceil_12 18 rfl
theorem dc_X6_size_5 : decode prog_1_method_13_code 5 = .ok (.aload_n 0, 1) := ky_dc db_X6_ceil_12 19 rfl
theorem dc_X6_size_6 : decode prog_1_method_13_code 6 = .ok (.iload_n 2, 1) := ky_dc db_X6_ceil_12 20 rfl
theorem dc_X6_size_7 : decode prog_1_method_13_code 7 = .ok (.aload_n 0, 1) := ky_dc db_X6_ceil_12 21 rfl
theorem dc_X6_size_8 : decode prog_1_method_13_code 8 = .ok (.getfield 9, 3) := ky_dc db_X6_ceil_12 22 rfl
theorem dc_X6_size_11 : decode prog_1_method_13_code 11 = .ok (.iload_n 1, 1) := ky_dc db_X6_ceil_12 23 rfl
theorem dc_X6_size_12 : decode prog_1_method_13_code 12 = .ok (.laload, 1) := ky_dc db_X6_ceil_12 24 rfl
theorem dc_X6_size_13 : decode prog_1_method_13_code 13 = .ok (.invokestatic 96, 3) := ky_dc db_X6_ceil_12 25 rfl
theorem dc_X6_size_16 : decode prog_1_method_13_code 16 = .ok (.invokevirtual 37, 3) := ky_dc db_X6_ceil_12 26 rfl
theorem dc_X6_size_19 : decode prog_1_method_13_code 19 = .ok (.ireturn, 1) := ky_dc db_X6_ceil_12 27 rfl
theorem dc_X6_turn_0 : decode prog_1_method_14_code 0 = .ok (.iload_n 1, 1) := ky_dc db_X6_ceil_12 28 rfl
theorem dc_X6_turn_1 : decode prog_1_method_14_code 1 = .ok (.iload_n 2, 1) := ky_dc db_X6_ceil_12 29 rfl
theorem dc_X6_turn_2 : decode prog_1_method_14_code 2 = .ok (.invokestatic 81, 3) := ky_dc db_X6_ceil_12 30 rfl
theorem dc_X6_turn_5 : decode prog_1_method_14_code 5 = .ok (.aload_n 0, 1) := ky_dc db_X6_ceil_12 31 rfl
theorem dc_X6_turn_6 : decode prog_1_method_14_code 6 = .ok (.iload_n 2, 1) := ky_dc db_X6_ceil_12 32 rfl
theorem dc_X6_turn_7 : decode prog_1_method_14_code 7 = .ok (.aload_n 0, 1) := ky_dc db_X6_ceil_12 33 rfl
theorem dc_X6_turn_8 : decode prog_1_method_14_code 8 = .ok (.getfield 9, 3) := ky_dc db_X6_ceil_12 34 rfl
theorem dc_X6_turn_11 : decode prog_1_method_14_code 11 = .ok (.iload_n 1, 1) := ky_dc db_X6_ceil_12 35 rfl
theorem dc_X6_turn_12 : decode prog_1_method_14_code 12 = .ok (.laload, 1) := ky_dc db_X6_ceil_12 36 rfl
theorem dc_X6_turn_13 : decode prog_1_method_14_code 13 = .ok (.invokestatic 99, 3) := ky_dc db_X6_ceil_12 37 rfl
theorem dc_X6_turn_16 : decode prog_1_method_14_code 16 = .ok (.invokevirtual 37, 3) := ky_dc db_X6_ceil_12 38 rfl
theorem dc_X6_turn_19 : decode prog_1_method_14_code 19 = .ok (.ireturn, 1) := ky_dc db_X6_ceil_12 39 rfl
theorem dc_X6_sign_0 : decode prog_1_method_15_code 0 = .ok (.iload_n 1, 1) := ky_dc db_X6_ceil_12 40 rfl
theorem dc_X6_sign_1 : decode prog_1_method_15_code 1 = .ok (.iload_n 2, 1) := ky_dc db_X6_ceil_12 41 rfl
theorem dc_X6_sign_2 : decode prog_1_method_15_code 2 = .ok (.invokestatic 81, 3) := ky_dc db_X6_ceil_12 42 rfl
theorem dc_X6_sign_5 : decode prog_1_method_15_code 5 = .ok (.aload_n 0, 1) := ky_dc db_X6_ceil_12 43 rfl
theorem dc_X6_sign_6 : decode prog_1_method_15_code 6 = .ok (.iload_n 2, 1) := ky_dc db_X6_ceil_12 44 rfl
theorem dc_X6_sign_7 : decode prog_1_method_15_code 7 = .ok (.aload_n 0, 1) := ky_dc db_X6_ceil_12 45 rfl
theorem dc_X6_sign_8 : decode prog_1_method_15_code 8 = .ok (.getfield 9, 3) := ky_dc db_X6_ceil_12 46 rfl
theorem dc_X6_sign_11 : decode prog_1_method_15_code 11 = .ok (.iload_n 1, 1) := ky_dc db_X6_ceil_12 47 rfl
theorem dc_X6_sign_12 : decode prog_1_method_15_code 12 = .ok (.laload, 1) := ky_dc db_X6_ceil_12 48 rfl
theorem dc_X6_sign_13 : decode prog_1_method_15_code 13 = .ok (.invokestatic 102, 3) := ky_dc db_X6_ceil_12 49 rfl
theorem dc_X6_sign_16 : decode prog_1_method_15_code 16 = .ok (.invokevirtual 37, 3) := ky_dc db_X6_ceil_12 50 rfl
theorem dc_X6_sign_19 : decode prog_1_method_15_code 19 = .ok (.ireturn, 1) := ky_dc db_X6_ceil_12 51 rfl
theorem dc_X6_up_0 : decode prog_1_method_16_code 0 = .ok (.iload_n 1, 1) := ky_dc db_X6_ceil_12 52 rfl
theorem dc_X6_up_1 : decode prog_1_method_16_code 1 = .ok (.iload_n 2, 1) := ky_dc db_X6_ceil_12 53 rfl
theorem dc_X6_up_2 : decode prog_1_method_16_code 2 = .ok (.invokestatic 81, 3) := ky_dc db_X6_ceil_12 54 rfl
theorem dc_X6_up_5 : decode prog_1_method_16_code 5 = .ok (.aload_n 0, 1) := ky_dc db_X6_ceil_12 55 rfl
theorem dc_X6_up_6 : decode prog_1_method_16_code 6 = .ok (.iload_n 2, 1) := ky_dc db_X6_ceil_12 56 rfl
theorem dc_X6_up_7 : decode prog_1_method_16_code 7 = .ok (.aload_n 0, 1) := ky_dc db_X6_ceil_12 57 rfl
theorem dc_X6_up_8 : decode prog_1_method_16_code 8 = .ok (.getfield 9, 3) := ky_dc db_X6_ceil_12 58 rfl
theorem dc_X6_up_11 : decode prog_1_method_16_code 11 = .ok (.iload_n 1, 1) := ky_dc db_X6_ceil_12 59 rfl
def dl_X6_up_12 : List (ByteArray × Nat × Jvm.ClassFile.Instr × Nat) := [(prog_1_method_16_code, 12, .laload, 1), (prog_1_method_16_code, 13, .invokestatic 105, 3), (prog_1_method_16_code, 16, .invokevirtual 37, 3), (prog_1_method_16_code, 19, .ireturn, 1), (prog_1_method_17_code, 0, .iload_n 1, 1), (prog_1_method_17_code, 1, .iload_n 2, 1), (prog_1_method_17_code, 2, .invokestatic 81, 3), (prog_1_method_17_code, 5, .aload_n 0, 1), (prog_1_method_17_code, 6, .iload_n 2, 1), (prog_1_method_17_code, 7, .aload_n 0, 1), (prog_1_method_17_code, 8, .getfield 9, 3), (prog_1_method_17_code, 11, .iload_n 1, 1), (prog_1_method_17_code, 12, .laload, 1), (prog_1_method_17_code, 13, .invokestatic 108, 3), (prog_1_method_17_code, 16, .invokevirtual 37, 3), (prog_1_method_17_code, 19, .ireturn, 1), (prog_1_method_18_code, 0, .iload_n 1, 1), (prog_1_method_18_code, 1, .iload_n 2, 1), (prog_1_method_18_code, 2, .invokestatic 81, 3), (prog_1_method_18_code, 5, .aload_n 0, 1), (prog_1_method_18_code, 6, .iload_n 2, 1), (prog_1_method_18_code, 7, .aload_n 0, 1), (prog_1_method_18_code, 8, .getfield 9, 3), (prog_1_method_18_code, 11, .iload_n 1, 1), (prog_1_method_18_code, 12, .laload, 1), (prog_1_method_18_code, 13, .invokestatic 111, 3), (prog_1_method_18_code, 16, .invokevirtual 37, 3), (prog_1_method_18_code, 19, .ireturn, 1), (prog_1_method_19_code, 0, .iload_n 1, 1), (prog_1_method_19_code, 1, .iload_n 2, 1), (prog_1_method_19_code, 2, .invokestatic 81, 3), (prog_1_method_19_code, 5, .aload_n 0, 1), (prog_1_method_19_code, 6, .iload_n 2, 1), (prog_1_method_19_code, 7, .aload_n 0, 1), (prog_1_method_19_code, 8, .getfield 9, 3), (prog_1_method_19_code, 11, .iload_n 1, 1), (prog_1_method_19_code, 12, .laload, 1), (prog_1_method_19_code, 13, .aload_n 0, 1), (prog_1_method_19_code, 14, .getfield 9, 3), (prog_1_method_19_code, 17, .iload_n 1, 1), (prog_1_method_19_code, 18, .laload, 1), (prog_1_method_19_code, 19, .invokestatic 114, 3), (prog_1_method_19_code, 22, .ineg, 1), (prog_1_method_19_code, 23, .invokestatic 61, 3), (prog_1_method_19_code, 26, .invokevirtual 37, 3), (prog_1_method_19_code, 29, .ireturn, 1), (prog_1_method_20_code, 0, .iload_n 1, 1), (prog_1_method_20_code, 1, .iload_n 3, 1), (prog_1_method_20_code, 2, .invokestatic 81, 3), (prog_1_method_20_code, 5, .aload_n 0, 1), (prog_1_method_20_code, 6, .iload_n 3, 1), (prog_1_method_20_code, 7, .aload_n 0, 1), (prog_1_method_20_code, 8, .getfield 9, 3), (prog_1_method_20_code, 11, .iload_n 1, 1), (prog_1_method_20_code, 12, .laload, 1), (prog_1_method_20_code, 13, .iload_n 2, 1), (prog_1_method_20_code, 14, .invokestatic 61, 3), (prog_1_method_20_code, 17, .invokevirtual 37, 3), (prog_1_method_20_code, 20, .ireturn, 1), (prog_1_method_21_code, 0, .iload_n 1, 1)]
theorem db_X6_up_12 : dl_X6_up_12.all (fun x => decide (decode x.1 x.2.1 = .ok x.2.2)) = true := by decide +kernel
theorem dc_X6_up_12 : decode prog_1_method_16_code 12 = .ok (.laload, 1) := ky_dc db_X6_up_12 0 rfl
theorem dc_X6_up_13 : decode prog_1_method_16_code 13 = .ok (.invokestatic 105, 3) := ky_dc db_X6_up_12 1 rfl
theorem dc_X6_up_16 : decode prog_1_method_16_code 16 = .ok (.invokevirtual 37, 3) := ky_dc db_X6_up_12 2 rfl
theorem dc_X6_up_19 : decode prog_1_method_16_code 19 = .ok (.ireturn, 1) := ky_dc db_X6_up_12 3 rfl
theorem dc_X6_down_0 : decode prog_1_method_17_code 0 = .ok (.iload_n 1, 1) := ky_dc db_X6_up_12 4 rfl
theorem dc_X6_down_1 : decode prog_1_method_17_code 1 = .ok (.iload_n 2, 1) := ky_dc db_X6_up_12 5 rfl
theorem dc_X6_down_2 : decode prog_1_method_17_code 2 = .ok (.invokestatic 81, 3) := ky_dc db_X6_up_12 6 rfl
theorem dc_X6_down_5 : decode prog_1_method_17_code 5 = .ok (.aload_n 0, 1) := ky_dc db_X6_up_12 7 rfl
theorem dc_X6_down_6 : decode prog_1_method_17_code 6 = .ok (.iload_n 2, 1) := ky_dc db_X6_up_12 8 rfl
theorem dc_X6_down_7 : decode prog_1_method_17_code 7 = .ok (.aload_n 0, 1) := ky_dc db_X6_up_12 9 rfl
theorem dc_X6_down_8 : decode prog_1_method_17_code 8 = .ok (.getfield 9, 3) := ky_dc db_X6_up_12 10 rfl
theorem dc_X6_down_11 : decode prog_1_method_17_code 11 = .ok (.iload_n 1, 1) := ky_dc db_X6_up_12 11 rfl
theorem dc_X6_down_12 : decode prog_1_method_17_code 12 = .ok (.laload, 1) := ky_dc db_X6_up_12 12 rfl
theorem dc_X6_down_13 : decode prog_1_method_17_code 13 = .ok (.invokestatic 108, 3) := ky_dc db_X6_up_12 13 rfl
theorem dc_X6_down_16 : decode prog_1_method_17_code 16 = .ok (.invokevirtual 37, 3) := ky_dc db_X6_up_12 14 rfl
theorem dc_X6_down_19 : decode prog_1_method_17_code 19 = .ok (.ireturn, 1) := ky_dc db_X6_up_12 15 rfl
theorem dc_X6_step_0 : decode prog_1_method_18_code 0 = .ok (.iload_n 1, 1) := ky_dc db_X6_up_12 16 rfl
theorem dc_X6_step_1 : decode prog_1_method_18_code 1 = .ok (.iload_n 2, 1) := ky_dc db_X6_up_12 17 rfl
theorem dc_X6_step_2 : decode prog_1_method_18_code 2 = .ok (.invokestatic 81, 3) := ky_dc db_X6_up_12 18 rfl
theorem dc_X6_step_5 : decode prog_1_method_18_code 5 = .ok (.aload_n 0, 1) := ky_dc db_X6_up_12 19 rfl
theorem dc_X6_step_6 : decode prog_1_method_18_code 6 = .ok (.iload_n 2, 1) := ky_dc db_X6_up_12 20 rfl
theorem dc_X6_step_7 : decode prog_1_method_18_code 7 = .ok (.aload_n 0, 1) := ky_dc db_X6_up_12 21 rfl
theorem dc_X6_step_8 : decode prog_1_method_18_code 8 = .ok (.getfield 9, 3) := ky_dc db_X6_up_12 22 rfl
theorem dc_X6_step_11 : decode prog_1_method_18_code 11 = .ok (.iload_n 1, 1) := ky_dc db_X6_up_12 23 rfl
theorem dc_X6_step_12 : decode prog_1_method_18_code 12 = .ok (.laload, 1) := ky_dc db_X6_up_12 24 rfl
theorem dc_X6_step_13 : decode prog_1_method_18_code 13 = .ok (.invokestatic 111, 3) := ky_dc db_X6_up_12 25 rfl
theorem dc_X6_step_16 : decode prog_1_method_18_code 16 = .ok (.invokevirtual 37, 3) := ky_dc db_X6_up_12 26 rfl
theorem dc_X6_step_19 : decode prog_1_method_18_code 19 = .ok (.ireturn, 1) := ky_dc db_X6_up_12 27 rfl
theorem dc_X6_unit_0 : decode prog_1_method_19_code 0 = .ok (.iload_n 1, 1) := ky_dc db_X6_up_12 28 rfl
theorem dc_X6_unit_1 : decode prog_1_method_19_code 1 = .ok (.iload_n 2, 1) := ky_dc db_X6_up_12 29 rfl
theorem dc_X6_unit_2 : decode prog_1_method_19_code 2 = .ok (.invokestatic 81, 3) := ky_dc db_X6_up_12 30 rfl
theorem dc_X6_unit_5 : decode prog_1_method_19_code 5 = .ok (.aload_n 0, 1) := ky_dc db_X6_up_12 31 rfl
theorem dc_X6_unit_6 : decode prog_1_method_19_code 6 = .ok (.iload_n 2, 1) := ky_dc db_X6_up_12 32 rfl
theorem dc_X6_unit_7 : decode prog_1_method_19_code 7 = .ok (.aload_n 0, 1) := ky_dc db_X6_up_12 33 rfl
theorem dc_X6_unit_8 : decode prog_1_method_19_code 8 = .ok (.getfield 9, 3) := ky_dc db_X6_up_12 34 rfl
theorem dc_X6_unit_11 : decode prog_1_method_19_code 11 = .ok (.iload_n 1, 1) := ky_dc db_X6_up_12 35 rfl
theorem dc_X6_unit_12 : decode prog_1_method_19_code 12 = .ok (.laload, 1) := ky_dc db_X6_up_12 36 rfl
theorem dc_X6_unit_13 : decode prog_1_method_19_code 13 = .ok (.aload_n 0, 1) := ky_dc db_X6_up_12 37 rfl
theorem dc_X6_unit_14 : decode prog_1_method_19_code 14 = .ok (.getfield 9, 3) := ky_dc db_X6_up_12 38 rfl
theorem dc_X6_unit_17 : decode prog_1_method_19_code 17 = .ok (.iload_n 1, 1) := ky_dc db_X6_up_12 39 rfl
theorem dc_X6_unit_18 : decode prog_1_method_19_code 18 = .ok (.laload, 1) := ky_dc db_X6_up_12 40 rfl
theorem dc_X6_unit_19 : decode prog_1_method_19_code 19 = .ok (.invokestatic 114, 3) := ky_dc db_X6_up_12 41 rfl
theorem dc_X6_unit_22 : decode prog_1_method_19_code 22 = .ok (.ineg, 1) := ky_dc db_X6_up_12 42 rfl
theorem dc_X6_unit_23 : decode prog_1_method_19_code 23 = .ok (.invokestatic 61, 3) := ky_dc db_X6_up_12 43 rfl
theorem dc_X6_unit_26 : decode prog_1_method_19_code 26 = .ok (.invokevirtual 37, 3) := ky_dc db_X6_up_12 44 rfl
theorem dc_X6_unit_29 : decode prog_1_method_19_code 29 = .ok (.ireturn, 1) := ky_dc db_X6_up_12 45 rfl
theorem dc_X6_times_0 : decode prog_1_method_20_code 0 = .ok (.iload_n 1, 1) := ky_dc db_X6_up_12 46 rfl
theorem dc_X6_times_1 : decode prog_1_method_20_code 1 = .ok (.iload_n 3, 1) := ky_dc db_X6_up_12 47 rfl
theorem dc_X6_times_2 : decode prog_1_method_20_code 2 = .ok (.invokestatic 81, 3) := ky_dc db_X6_up_12 48 rfl
theorem dc_X6_times_5 : decode prog_1_method_20_code 5 = .ok (.aload_n 0, 1) := ky_dc db_X6_up_12 49 rfl
theorem dc_X6_times_6 : decode prog_1_method_20_code 6 = .ok (.iload_n 3, 1) := ky_dc db_X6_up_12 50 rfl
theorem dc_X6_times_7 : decode prog_1_method_20_code 7 = .ok (.aload_n 0, 1) := ky_dc db_X6_up_12 51 rfl
theorem dc_X6_times_8 : decode prog_1_method_20_code 8 = .ok (.getfield 9, 3) := ky_dc db_X6_up_12 52 rfl
theorem dc_X6_times_11 : decode prog_1_method_20_code 11 = .ok (.iload_n 1, 1) := ky_dc db_X6_up_12 53 rfl
theorem dc_X6_times_12 : decode prog_1_method_20_code 12 = .ok (.laload, 1) := ky_dc db_X6_up_12 54 rfl
theorem dc_X6_times_13 : decode prog_1_method_20_code 13 = .ok (.iload_n 2, 1) := ky_dc db_X6_up_12 55 rfl
theorem dc_X6_times_14 : decode prog_1_method_20_code 14 = .ok (.invokestatic 61, 3) := ky_dc db_X6_up_12 56 rfl
theorem dc_X6_times_17 : decode prog_1_method_20_code 17 = .ok (.invokevirtual 37, 3) := ky_dc db_X6_up_12 57 rfl
theorem dc_X6_times_20 : decode prog_1_method_20_code 20 = .ok (.ireturn, 1) := ky_dc db_X6_up_12 58 rfl
theorem dc_X6_side_0 : decode prog_1_method_21_code 0 = .ok (.iload_n 1, 1) := ky_dc db_X6_up_12 59 rfl
def dl_X6_side_1 : List (ByteArray × Nat × Jvm.ClassFile.Instr × Nat) := [(prog_1_method_21_code, 1, .iload_n 2, 1), (prog_1_method_21_code, 2, .invokestatic 81, 3), (prog_1_method_21_code, 5, .iload_n 3, 1), (prog_1_method_21_code, 6, .invokestatic 27, 3), (prog_1_method_21_code, 9, .aload_n 0, 1), (prog_1_method_21_code, 10, .iload_n 3, 1), (prog_1_method_21_code, 11, .aload_n 0, 1), (prog_1_method_21_code, 12, .getfield 9, 3), (prog_1_method_21_code, 15, .iload_n 1, 1), (prog_1_method_21_code, 16, .laload, 1), (prog_1_method_21_code, 17, .aload_n 0, 1), (prog_1_method_21_code, 18, .getfield 9, 3), (prog_1_method_21_code, 21, .iload_n 2, 1), (prog_1_method_21_code, 22, .laload, 1), (prog_1_method_21_code, 23, .invokestatic 118, 3), (prog_1_method_21_code, 26, .invokevirtual 37, 3), (prog_1_method_21_code, 29, .ireturn, 1), (prog_1_method_22_code, 0, .iload_n 1, 1), (prog_1_method_22_code, 1, .iload_n 2, 1), (prog_1_method_22_code, 2, .invokestatic 81, 3), (prog_1_method_22_code, 5, .iload_n 3, 1), (prog_1_method_22_code, 6, .invokestatic 27, 3), (prog_1_method_22_code, 9, .aload_n 0, 1), (prog_1_method_22_code, 10, .iload_n 3, 1), (prog_1_method_22_code, 11, .aload_n 0, 1), (prog_1_method_22_code, 12, .getfield 9, 3), (prog_1_method_22_code, 15, .iload_n 1, 1), (prog_1_method_22_code, 16, .laload, 1), (prog_1_method_22_code, 17, .aload_n 0, 1), (prog_1_method_22_code, 18, .getfield 9, 3), (prog_1_method_22_code, 21, .iload_n 2, 1), (prog_1_method_22_code, 22, .laload, 1), (prog_1_method_22_code, 23, .invokestatic 122, 3), (prog_1_method_22_code, 26, .invokevirtual 37, 3), (prog_1_method_22_code, 29, .ireturn, 1), (prog_1_method_23_code, 0, .iload_n 1, 1), (prog_1_method_23_code, 1, .iload_n 2, 1), (prog_1_method_23_code, 2, .invokestatic 81, 3), (prog_1_method_23_code, 5, .iload_n 3, 1), (prog_1_method_23_code, 6, .invokestatic 27, 3), (prog_1_method_23_code, 9, .aload_n 0, 1), (prog_1_method_23_code, 10, .iload_n 3, 1), (prog_1_method_23_code, 11, .aload_n 0, 1), (prog_1_method_23_code, 12, .getfield 9, 3), (prog_1_method_23_code, 15, .iload_n 1, 1), (prog_1_method_23_code, 16, .laload, 1), (prog_1_method_23_code, 17, .aload_n 0, 1), (prog_1_method_23_code, 18, .getfield 9, 3), (prog_1_method_23_code, 21, .iload_n 2, 1), (prog_1_method_23_code, 22, .laload, 1), (prog_1_method_23_code, 23, .invokestatic 125, 3), (prog_1_method_23_code, 26, .invokevirtual 37, 3), (prog_1_method_23_code, 29, .ireturn, 1), (prog_1_method_24_code, 0, .iload_n 1, 1), (prog_1_method_24_code, 1, .invokestatic 27, 3), (prog_1_method_24_code, 4, .iload_n 2, 1), (prog_1_method_24_code, 5, .bipush (-40), 2), (prog_1_method_24_code, 7, .bipush 40, 2), (prog_1_method_24_code, 9, .invokestatic 55, 3), (prog_1_method_24_code, 12, .aload_n 0, 1)]
theorem db_X6_side_1 : dl_X6_side_1.all (fun x => decide (decode x.1 x.2.1 = .ok x.2.2)) = true := by decide +kernel
theorem dc_X6_side_1 : decode prog_1_method_21_code 1 = .ok (.iload_n 2, 1) := ky_dc db_X6_side_1 0 rfl
theorem dc_X6_side_2 : decode prog_1_method_21_code 2 = .ok (.invokestatic 81, 3) := ky_dc db_X6_side_1 1 rfl
theorem dc_X6_side_5 : decode prog_1_method_21_code 5 = .ok (.iload_n 3, 1) := ky_dc db_X6_side_1 2 rfl
theorem dc_X6_side_6 : decode prog_1_method_21_code 6 = .ok (.invokestatic 27, 3) := ky_dc db_X6_side_1 3 rfl
theorem dc_X6_side_9 : decode prog_1_method_21_code 9 = .ok (.aload_n 0, 1) := ky_dc db_X6_side_1 4 rfl
theorem dc_X6_side_10 : decode prog_1_method_21_code 10 = .ok (.iload_n 3, 1) := ky_dc db_X6_side_1 5 rfl
theorem dc_X6_side_11 : decode prog_1_method_21_code 11 = .ok (.aload_n 0, 1) := ky_dc db_X6_side_1 6 rfl
theorem dc_X6_side_12 : decode prog_1_method_21_code 12 = .ok (.getfield 9, 3) := ky_dc db_X6_side_1 7 rfl
theorem dc_X6_side_15 : decode prog_1_method_21_code 15 = .ok (.iload_n 1, 1) := ky_dc db_X6_side_1 8 rfl
theorem dc_X6_side_16 : decode prog_1_method_21_code 16 = .ok (.laload, 1) := ky_dc db_X6_side_1 9 rfl
theorem dc_X6_side_17 : decode prog_1_method_21_code 17 = .ok (.aload_n 0, 1) := ky_dc db_X6_side_1 10 rfl
theorem dc_X6_side_18 : decode prog_1_method_21_code 18 = .ok (.getfield 9, 3) := ky_dc db_X6_side_1 11 rfl
theorem dc_X6_side_21 : decode prog_1_method_21_code 21 = .ok (.iload_n 2, 1) := ky_dc db_X6_side_1 12 rfl
theorem dc_X6_side_22 : decode prog_1_method_21_code 22 = .ok (.laload, 1) := ky_dc db_X6_side_1 13 rfl
theorem dc_X6_side_23 : decode prog_1_method_21_code 23 = .ok (.invokestatic 118, 3) := ky_dc db_X6_side_1 14 rfl
theorem dc_X6_side_26 : decode prog_1_method_21_code 26 = .ok (.invokevirtual 37, 3) := ky_dc db_X6_side_1 15 rfl
theorem dc_X6_side_29 : decode prog_1_method_21_code 29 = .ok (.ireturn, 1) := ky_dc db_X6_side_1 16 rfl
theorem dc_X6_max_0 : decode prog_1_method_22_code 0 = .ok (.iload_n 1, 1) := ky_dc db_X6_side_1 17 rfl
theorem dc_X6_max_1 : decode prog_1_method_22_code 1 = .ok (.iload_n 2, 1) := ky_dc db_X6_side_1 18 rfl
theorem dc_X6_max_2 : decode prog_1_method_22_code 2 = .ok (.invokestatic 81, 3) := ky_dc db_X6_side_1 19 rfl
theorem dc_X6_max_5 : decode prog_1_method_22_code 5 = .ok (.iload_n 3, 1) := ky_dc db_X6_side_1 20 rfl
theorem dc_X6_max_6 : decode prog_1_method_22_code 6 = .ok (.invokestatic 27, 3) := ky_dc db_X6_side_1 21 rfl
theorem dc_X6_max_9 : decode prog_1_method_22_code 9 = .ok (.aload_n 0, 1) := ky_dc db_X6_side_1 22 rfl
theorem dc_X6_max_10 : decode prog_1_method_22_code 10 = .ok (.iload_n 3, 1) := ky_dc db_X6_side_1 23 rfl
theorem dc_X6_max_11 : decode prog_1_method_22_code 11 = .ok (.aload_n 0, 1) := ky_dc db_X6_side_1 24 rfl
theorem dc_X6_max_12 : decode prog_1_method_22_code 12 = .ok (.getfield 9, 3) := ky_dc db_X6_side_1 25 rfl
theorem dc_X6_max_15 : decode prog_1_method_22_code 15 = .ok (.iload_n 1, 1) := ky_dc db_X6_side_1 26 rfl
theorem dc_X6_max_16 : decode prog_1_method_22_code 16 = .ok (.laload, 1) := ky_dc db_X6_side_1 27 rfl
theorem dc_X6_max_17 : decode prog_1_method_22_code 17 = .ok (.aload_n 0, 1) := ky_dc db_X6_side_1 28 rfl
theorem dc_X6_max_18 : decode prog_1_method_22_code 18 = .ok (.getfield 9, 3) := ky_dc db_X6_side_1 29 rfl
theorem dc_X6_max_21 : decode prog_1_method_22_code 21 = .ok (.iload_n 2, 1) := ky_dc db_X6_side_1 30 rfl
theorem dc_X6_max_22 : decode prog_1_method_22_code 22 = .ok (.laload, 1) := ky_dc db_X6_side_1 31 rfl
theorem dc_X6_max_23 : decode prog_1_method_22_code 23 = .ok (.invokestatic 122, 3) := ky_dc db_X6_side_1 32 rfl
theorem dc_X6_max_26 : decode prog_1_method_22_code 26 = .ok (.invokevirtual 37, 3) := ky_dc db_X6_side_1 33 rfl
theorem dc_X6_max_29 : decode prog_1_method_22_code 29 = .ok (.ireturn, 1) := ky_dc db_X6_side_1 34 rfl
theorem dc_X6_min_0 : decode prog_1_method_23_code 0 = .ok (.iload_n 1, 1) := ky_dc db_X6_side_1 35 rfl
theorem dc_X6_min_1 : decode prog_1_method_23_code 1 = .ok (.iload_n 2, 1) := ky_dc db_X6_side_1 36 rfl
theorem dc_X6_min_2 : decode prog_1_method_23_code 2 = .ok (.invokestatic 81, 3) := ky_dc db_X6_side_1 37 rfl
theorem dc_X6_min_5 : decode prog_1_method_23_code 5 = .ok (.iload_n 3, 1) := ky_dc db_X6_side_1 38 rfl
theorem dc_X6_min_6 : decode prog_1_method_23_code 6 = .ok (.invokestatic 27, 3) := ky_dc db_X6_side_1 39 rfl
theorem dc_X6_min_9 : decode prog_1_method_23_code 9 = .ok (.aload_n 0, 1) := ky_dc db_X6_side_1 40 rfl
theorem dc_X6_min_10 : decode prog_1_method_23_code 10 = .ok (.iload_n 3, 1) := ky_dc db_X6_side_1 41 rfl
theorem dc_X6_min_11 : decode prog_1_method_23_code 11 = .ok (.aload_n 0, 1) := ky_dc db_X6_side_1 42 rfl
theorem dc_X6_min_12 : decode prog_1_method_23_code 12 = .ok (.getfield 9, 3) := ky_dc db_X6_side_1 43 rfl
theorem dc_X6_min_15 : decode prog_1_method_23_code 15 = .ok (.iload_n 1, 1) := ky_dc db_X6_side_1 44 rfl
theorem dc_X6_min_16 : decode prog_1_method_23_code 16 = .ok (.laload, 1) := ky_dc db_X6_side_1 45 rfl
theorem dc_X6_min_17 : decode prog_1_method_23_code 17 = .ok (.aload_n 0, 1) := ky_dc db_X6_side_1 46 rfl
theorem dc_X6_min_18 : decode prog_1_method_23_code 18 = .ok (.getfield 9, 3) := ky_dc db_X6_side_1 47 rfl
theorem dc_X6_min_21 : decode prog_1_method_23_code 21 = .ok (.iload_n 2, 1) := ky_dc db_X6_side_1 48 rfl
theorem dc_X6_min_22 : decode prog_1_method_23_code 22 = .ok (.laload, 1) := ky_dc db_X6_side_1 49 rfl
theorem dc_X6_min_23 : decode prog_1_method_23_code 23 = .ok (.invokestatic 125, 3) := ky_dc db_X6_side_1 50 rfl
theorem dc_X6_min_26 : decode prog_1_method_23_code 26 = .ok (.invokevirtual 37, 3) := ky_dc db_X6_side_1 51 rfl
theorem dc_X6_min_29 : decode prog_1_method_23_code 29 = .ok (.ireturn, 1) := ky_dc db_X6_side_1 52 rfl
theorem dc_X6_walk_0 : decode prog_1_method_24_code 0 = .ok (.iload_n 1, 1) := ky_dc db_X6_side_1 53 rfl
theorem dc_X6_walk_1 : decode prog_1_method_24_code 1 = .ok (.invokestatic 27, 3) := ky_dc db_X6_side_1 54 rfl
theorem dc_X6_walk_4 : decode prog_1_method_24_code 4 = .ok (.iload_n 2, 1) := ky_dc db_X6_side_1 55 rfl
theorem dc_X6_walk_5 : decode prog_1_method_24_code 5 = .ok (.bipush (-40), 2) := ky_dc db_X6_side_1 56 rfl
theorem dc_X6_walk_7 : decode prog_1_method_24_code 7 = .ok (.bipush 40, 2) := ky_dc db_X6_side_1 57 rfl
theorem dc_X6_walk_9 : decode prog_1_method_24_code 9 = .ok (.invokestatic 55, 3) := ky_dc db_X6_side_1 58 rfl
theorem dc_X6_walk_12 : decode prog_1_method_24_code 12 = .ok (.aload_n 0, 1) := ky_dc db_X6_side_1 59 rfl
def dl_X6_walk_13 : List (ByteArray × Nat × Jvm.ClassFile.Instr × Nat) := [(prog_1_method_24_code, 13, .iload_n 1, 1), (prog_1_method_24_code, 14, .aload_n 0, 1), (prog_1_method_24_code, 15, .getfield 9, 3), (prog_1_method_24_code, 18, .iload_n 1, 1), (prog_1_method_24_code, 19, .laload, 1), (prog_1_method_24_code, 20, .iload_n 2, 1), (prog_1_method_24_code, 21, .invokestatic 128, 3), (prog_1_method_24_code, 24, .invokevirtual 37, 3), (prog_1_method_24_code, 27, .ireturn, 1), (prog_1_method_25_code, 0, .iload_n 1, 1), (prog_1_method_25_code, 1, .invokestatic 27, 3), (prog_1_method_25_code, 4, .aload_n 0, 1), (prog_1_method_25_code, 5, .getfield 9, 3), (prog_1_method_25_code, 8, .iload_n 1, 1), (prog_1_method_25_code, 9, .laload, 1), (prog_1_method_25_code, 10, .invokestatic 131, 3), (prog_1_method_25_code, 13, .ireturn, 1), (prog_1_method_26_code, 0, .iload_n 1, 1), (prog_1_method_26_code, 1, .invokestatic 27, 3), (prog_1_method_26_code, 4, .iload_n 2, 1), (prog_1_method_26_code, 5, .iconst 0, 1), (prog_1_method_26_code, 6, .iconst 3, 1), (prog_1_method_26_code, 7, .invokestatic 55, 3), (prog_1_method_26_code, 10, .aload_n 0, 1), (prog_1_method_26_code, 11, .getfield 9, 3), (prog_1_method_26_code, 14, .iload_n 1, 1), (prog_1_method_26_code, 15, .laload, 1), (prog_1_method_26_code, 16, .iload_n 2, 1), (prog_1_method_26_code, 17, .invokestatic 134, 3), (prog_1_method_26_code, 20, .ireturn, 1), (prog_1_method_28_code, 0, .iload_n 1, 1), (prog_1_method_28_code, 1, .invokestatic 27, 3), (prog_1_method_28_code, 4, .aload_n 0, 1), (prog_1_method_28_code, 5, .getfield 9, 3), (prog_1_method_28_code, 8, .iload_n 1, 1), (prog_1_method_28_code, 9, .laload, 1), (prog_1_method_28_code, 10, .invokestatic 114, 3), (prog_1_method_28_code, 13, .ireturn, 1), (prog_1_method_29_code, 0, .iload_n 1, 1), (prog_1_method_29_code, 1, .invokestatic 27, 3), (prog_1_method_29_code, 4, .aload_n 0, 1), (prog_1_method_29_code, 5, .getfield 9, 3), (prog_1_method_29_code, 8, .iload_n 1, 1), (prog_1_method_29_code, 9, .laload, 1), (prog_1_method_29_code, 10, .invokestatic 142, 3), (prog_1_method_29_code, 13, .iload_n 2, 1), (prog_1_method_29_code, 14, .invokestatic 147, 3), (prog_1_method_29_code, 17, .ireturn, 1), (prog_1_method_32_code, 0, .iload_n 1, 1), (prog_1_method_32_code, 1, .invokestatic 27, 3), (prog_1_method_32_code, 4, .aload_n 0, 1), (prog_1_method_32_code, 5, .getfield 9, 3), (prog_1_method_32_code, 8, .iload_n 1, 1), (prog_1_method_32_code, 9, .laload, 1), (prog_1_method_32_code, 10, .invokestatic 157, 3), (prog_1_method_32_code, 13, .ireturn, 1), (prog_1_method_33_code, 0, .iload_n 1, 1), (prog_1_method_33_code, 1, .invokestatic 27, 3), (prog_1_method_33_code, 4, .aload_n 0, 1), (prog_1_method_33_code, 5, .getfield 9, 3)]
theorem db_X6_walk_13 : dl_X6_walk_13.all (fun x => decide (decode x.1 x.2.1 = .ok x.2.2)) = true := by decide +kernel
theorem dc_X6_walk_13 : decode prog_1_method_24_code 13 = .ok (.iload_n 1, 1) := ky_dc db_X6_walk_13 0 rfl
theorem dc_X6_walk_14 : decode prog_1_method_24_code 14 = .ok (.aload_n 0, 1) := ky_dc db_X6_walk_13 1 rfl
theorem dc_X6_walk_15 : decode prog_1_method_24_code 15 = .ok (.getfield 9, 3) := ky_dc db_X6_walk_13 2 rfl
theorem dc_X6_walk_18 : decode prog_1_method_24_code 18 = .ok (.iload_n 1, 1) := ky_dc db_X6_walk_13 3 rfl
theorem dc_X6_walk_19 : decode prog_1_method_24_code 19 = .ok (.laload, 1) := ky_dc db_X6_walk_13 4 rfl
theorem dc_X6_walk_20 : decode prog_1_method_24_code 20 = .ok (.iload_n 2, 1) := ky_dc db_X6_walk_13 5 rfl
theorem dc_X6_walk_21 : decode prog_1_method_24_code 21 = .ok (.invokestatic 128, 3) := ky_dc db_X6_walk_13 6 rfl
theorem dc_X6_walk_24 : decode prog_1_method_24_code 24 = .ok (.invokevirtual 37, 3) := ky_dc db_X6_walk_13 7 rfl
theorem dc_X6_walk_27 : decode prog_1_method_24_code 27 = .ok (.ireturn, 1) := ky_dc db_X6_walk_13 8 rfl
theorem dc_X6_kind_0 : decode prog_1_method_25_code 0 = .ok (.iload_n 1, 1) := ky_dc db_X6_walk_13 9 rfl
theorem dc_X6_kind_1 : decode prog_1_method_25_code 1 = .ok (.invokestatic 27, 3) := ky_dc db_X6_walk_13 10 rfl
theorem dc_X6_kind_4 : decode prog_1_method_25_code 4 = .ok (.aload_n 0, 1) := ky_dc db_X6_walk_13 11 rfl
theorem dc_X6_kind_5 : decode prog_1_method_25_code 5 = .ok (.getfield 9, 3) := ky_dc db_X6_walk_13 12 rfl
theorem dc_X6_kind_8 : decode prog_1_method_25_code 8 = .ok (.iload_n 1, 1) := ky_dc db_X6_walk_13 13 rfl
theorem dc_X6_kind_9 : decode prog_1_method_25_code 9 = .ok (.laload, 1) := ky_dc db_X6_walk_13 14 rfl
theorem dc_X6_kind_10 : decode prog_1_method_25_code 10 = .ok (.invokestatic 131, 3) := ky_dc db_X6_walk_13 15 rfl
theorem dc_X6_kind_13 : decode prog_1_method_25_code 13 = .ok (.ireturn, 1) := ky_dc db_X6_walk_13 16 rfl
theorem dc_X6_digits_0 : decode prog_1_method_26_code 0 = .ok (.iload_n 1, 1) := ky_dc db_X6_walk_13 17 rfl
theorem dc_X6_digits_1 : decode prog_1_method_26_code 1 = .ok (.invokestatic 27, 3) := ky_dc db_X6_walk_13 18 rfl
theorem dc_X6_digits_4 : decode prog_1_method_26_code 4 = .ok (.iload_n 2, 1) := ky_dc db_X6_walk_13 19 rfl
theorem dc_X6_digits_5 : decode prog_1_method_26_code 5 = .ok (.iconst 0, 1) := ky_dc db_X6_walk_13 20 rfl
theorem dc_X6_digits_6 : decode prog_1_method_26_code 6 = .ok (.iconst 3, 1) := ky_dc db_X6_walk_13 21 rfl
theorem dc_X6_digits_7 : decode prog_1_method_26_code 7 = .ok (.invokestatic 55, 3) := ky_dc db_X6_walk_13 22 rfl
theorem dc_X6_digits_10 : decode prog_1_method_26_code 10 = .ok (.aload_n 0, 1) := ky_dc db_X6_walk_13 23 rfl
theorem dc_X6_digits_11 : decode prog_1_method_26_code 11 = .ok (.getfield 9, 3) := ky_dc db_X6_walk_13 24 rfl
theorem dc_X6_digits_14 : decode prog_1_method_26_code 14 = .ok (.iload_n 1, 1) := ky_dc db_X6_walk_13 25 rfl
theorem dc_X6_digits_15 : decode prog_1_method_26_code 15 = .ok (.laload, 1) := ky_dc db_X6_walk_13 26 rfl
theorem dc_X6_digits_16 : decode prog_1_method_26_code 16 = .ok (.iload_n 2, 1) := ky_dc db_X6_walk_13 27 rfl
theorem dc_X6_digits_17 : decode prog_1_method_26_code 17 = .ok (.invokestatic 134, 3) := ky_dc db_X6_walk_13 28 rfl
theorem dc_X6_digits_20 : decode prog_1_method_26_code 20 = .ok (.ireturn, 1) := ky_dc db_X6_walk_13 29 rfl
theorem dc_X6_exponent_0 : decode prog_1_method_28_code 0 = .ok (.iload_n 1, 1) := ky_dc db_X6_walk_13 30 rfl
theorem dc_X6_exponent_1 : decode prog_1_method_28_code 1 = .ok (.invokestatic 27, 3) := ky_dc db_X6_walk_13 31 rfl
theorem dc_X6_exponent_4 : decode prog_1_method_28_code 4 = .ok (.aload_n 0, 1) := ky_dc db_X6_walk_13 32 rfl
theorem dc_X6_exponent_5 : decode prog_1_method_28_code 5 = .ok (.getfield 9, 3) := ky_dc db_X6_walk_13 33 rfl
theorem dc_X6_exponent_8 : decode prog_1_method_28_code 8 = .ok (.iload_n 1, 1) := ky_dc db_X6_walk_13 34 rfl
theorem dc_X6_exponent_9 : decode prog_1_method_28_code 9 = .ok (.laload, 1) := ky_dc db_X6_walk_13 35 rfl
theorem dc_X6_exponent_10 : decode prog_1_method_28_code 10 = .ok (.invokestatic 114, 3) := ky_dc db_X6_walk_13 36 rfl
theorem dc_X6_exponent_13 : decode prog_1_method_28_code 13 = .ok (.ireturn, 1) := ky_dc db_X6_walk_13 37 rfl
theorem dc_X6_round_0 : decode prog_1_method_29_code 0 = .ok (.iload_n 1, 1) := ky_dc db_X6_walk_13 38 rfl
theorem dc_X6_round_1 : decode prog_1_method_29_code 1 = .ok (.invokestatic 27, 3) := ky_dc db_X6_walk_13 39 rfl
theorem dc_X6_round_4 : decode prog_1_method_29_code 4 = .ok (.aload_n 0, 1) := ky_dc db_X6_walk_13 40 rfl
theorem dc_X6_round_5 : decode prog_1_method_29_code 5 = .ok (.getfield 9, 3) := ky_dc db_X6_walk_13 41 rfl
theorem dc_X6_round_8 : decode prog_1_method_29_code 8 = .ok (.iload_n 1, 1) := ky_dc db_X6_walk_13 42 rfl
theorem dc_X6_round_9 : decode prog_1_method_29_code 9 = .ok (.laload, 1) := ky_dc db_X6_walk_13 43 rfl
theorem dc_X6_round_10 : decode prog_1_method_29_code 10 = .ok (.invokestatic 142, 3) := ky_dc db_X6_walk_13 44 rfl
theorem dc_X6_round_13 : decode prog_1_method_29_code 13 = .ok (.iload_n 2, 1) := ky_dc db_X6_walk_13 45 rfl
theorem dc_X6_round_14 : decode prog_1_method_29_code 14 = .ok (.invokestatic 147, 3) := ky_dc db_X6_walk_13 46 rfl
theorem dc_X6_round_17 : decode prog_1_method_29_code 17 = .ok (.ireturn, 1) := ky_dc db_X6_walk_13 47 rfl
theorem dc_X6_shortened_0 : decode prog_1_method_32_code 0 = .ok (.iload_n 1, 1) := ky_dc db_X6_walk_13 48 rfl
theorem dc_X6_shortened_1 : decode prog_1_method_32_code 1 = .ok (.invokestatic 27, 3) := ky_dc db_X6_walk_13 49 rfl
theorem dc_X6_shortened_4 : decode prog_1_method_32_code 4 = .ok (.aload_n 0, 1) := ky_dc db_X6_walk_13 50 rfl
theorem dc_X6_shortened_5 : decode prog_1_method_32_code 5 = .ok (.getfield 9, 3) := ky_dc db_X6_walk_13 51 rfl
theorem dc_X6_shortened_8 : decode prog_1_method_32_code 8 = .ok (.iload_n 1, 1) := ky_dc db_X6_walk_13 52 rfl
theorem dc_X6_shortened_9 : decode prog_1_method_32_code 9 = .ok (.laload, 1) := ky_dc db_X6_walk_13 53 rfl
theorem dc_X6_shortened_10 : decode prog_1_method_32_code 10 = .ok (.invokestatic 157, 3) := ky_dc db_X6_walk_13 54 rfl
theorem dc_X6_shortened_13 : decode prog_1_method_32_code 13 = .ok (.ireturn, 1) := ky_dc db_X6_walk_13 55 rfl
theorem dc_X6_signed_0 : decode prog_1_method_33_code 0 = .ok (.iload_n 1, 1) := ky_dc db_X6_walk_13 56 rfl
theorem dc_X6_signed_1 : decode prog_1_method_33_code 1 = .ok (.invokestatic 27, 3) := ky_dc db_X6_walk_13 57 rfl
theorem dc_X6_signed_4 : decode prog_1_method_33_code 4 = .ok (.aload_n 0, 1) := ky_dc db_X6_walk_13 58 rfl
theorem dc_X6_signed_5 : decode prog_1_method_33_code 5 = .ok (.getfield 9, 3) := ky_dc db_X6_walk_13 59 rfl
def dl_X6_signed_8 : List (ByteArray × Nat × Jvm.ClassFile.Instr × Nat) := [(prog_1_method_33_code, 8, .iload_n 1, 1), (prog_1_method_33_code, 9, .laload, 1), (prog_1_method_33_code, 10, .invokestatic 160, 3), (prog_1_method_33_code, 13, .ireturn, 1), (prog_1_method_34_code, 0, .iload_n 1, 1), (prog_1_method_34_code, 1, .invokestatic 27, 3), (prog_1_method_34_code, 4, .aload_n 0, 1), (prog_1_method_34_code, 5, .getfield 9, 3), (prog_1_method_34_code, 8, .iload_n 1, 1), (prog_1_method_34_code, 9, .laload, 1), (prog_1_method_34_code, 10, .invokestatic 163, 3), (prog_1_method_34_code, 13, .ireturn, 1), (prog_1_method_35_code, 0, .iload_n 1, 1), (prog_1_method_35_code, 1, .iload_n 2, 1), (prog_1_method_35_code, 2, .invokestatic 81, 3), (prog_1_method_35_code, 5, .aload_n 0, 1), (prog_1_method_35_code, 6, .getfield 9, 3), (prog_1_method_35_code, 9, .iload_n 1, 1), (prog_1_method_35_code, 10, .laload, 1), (prog_1_method_35_code, 11, .aload_n 0, 1), (prog_1_method_35_code, 12, .getfield 9, 3), (prog_1_method_35_code, 15, .iload_n 2, 1), (prog_1_method_35_code, 16, .laload, 1), (prog_1_method_35_code, 17, .invokestatic 166, 3), (prog_1_method_35_code, 20, .ireturn, 1), (prog_1_method_36_code, 0, .iload_n 1, 1), (prog_1_method_36_code, 1, .iload_n 2, 1), (prog_1_method_36_code, 2, .invokestatic 81, 3), (prog_1_method_36_code, 5, .aload_n 0, 1), (prog_1_method_36_code, 6, .getfield 9, 3), (prog_1_method_36_code, 9, .iload_n 1, 1), (prog_1_method_36_code, 10, .laload, 1), (prog_1_method_36_code, 11, .invokestatic 170, 3), (prog_1_method_36_code, 14, .aload_n 0, 1), (prog_1_method_36_code, 15, .getfield 9, 3), (prog_1_method_36_code, 18, .iload_n 2, 1), (prog_1_method_36_code, 19, .laload, 1), (prog_1_method_36_code, 20, .invokestatic 170, 3), (prog_1_method_36_code, 23, .lcmp, 1), (prog_1_method_36_code, 24, .ifCond .ne 7, 3), (prog_1_method_36_code, 31, .iconst 0, 1), (prog_1_method_36_code, 32, .ireturn, 1), (prog_1_method_36_code, 27, .iconst 1, 1), (prog_1_method_36_code, 28, .goto 4, 3), (prog_1_method_37_code, 0, .iload_n 1, 1), (prog_1_method_37_code, 1, .iload_n 2, 1), (prog_1_method_37_code, 2, .invokestatic 81, 3), (prog_1_method_37_code, 5, .aload_n 0, 1), (prog_1_method_37_code, 6, .getfield 9, 3), (prog_1_method_37_code, 9, .iload_n 1, 1), (prog_1_method_37_code, 10, .laload, 1), (prog_1_method_37_code, 11, .invokestatic 170, 3), (prog_1_method_37_code, 14, .aload_n 0, 1), (prog_1_method_37_code, 15, .getfield 9, 3), (prog_1_method_37_code, 18, .iload_n 2, 1), (prog_1_method_37_code, 19, .laload, 1), (prog_1_method_37_code, 20, .invokestatic 170, 3), (prog_1_method_37_code, 23, .lcmp, 1), (prog_1_method_37_code, 24, .ifCond .ge 7, 3), (prog_1_method_37_code, 31, .iconst 0, 1)]
theorem db_X6_signed_8 : dl_X6_signed_8.all (fun x => decide (decode x.1 x.2.1 = .ok x.2.2)) = true := by decide +kernel
theorem dc_X6_signed_8 : decode prog_1_method_33_code 8 = .ok (.iload_n 1, 1) := ky_dc db_X6_signed_8 0 rfl
theorem dc_X6_signed_9 : decode prog_1_method_33_code 9 = .ok (.laload, 1) := ky_dc db_X6_signed_8 1 rfl
theorem dc_X6_signed_10 : decode prog_1_method_33_code 10 = .ok (.invokestatic 160, 3) := ky_dc db_X6_signed_8 2 rfl
theorem dc_X6_signed_13 : decode prog_1_method_33_code 13 = .ok (.ireturn, 1) := ky_dc db_X6_signed_8 3 rfl
theorem dc_X6_isWhole_0 : decode prog_1_method_34_code 0 = .ok (.iload_n 1, 1) := ky_dc db_X6_signed_8 4 rfl
theorem dc_X6_isWhole_1 : decode prog_1_method_34_code 1 = .ok (.invokestatic 27, 3) := ky_dc db_X6_signed_8 5 rfl
theorem dc_X6_isWhole_4 : decode prog_1_method_34_code 4 = .ok (.aload_n 0, 1) := ky_dc db_X6_signed_8 6 rfl
theorem dc_X6_isWhole_5 : decode prog_1_method_34_code 5 = .ok (.getfield 9, 3) := ky_dc db_X6_signed_8 7 rfl
theorem dc_X6_isWhole_8 : decode prog_1_method_34_code 8 = .ok (.iload_n 1, 1) := ky_dc db_X6_signed_8 8 rfl
theorem dc_X6_isWhole_9 : decode prog_1_method_34_code 9 = .ok (.laload, 1) := ky_dc db_X6_signed_8 9 rfl
theorem dc_X6_isWhole_10 : decode prog_1_method_34_code 10 = .ok (.invokestatic 163, 3) := ky_dc db_X6_signed_8 10 rfl
theorem dc_X6_isWhole_13 : decode prog_1_method_34_code 13 = .ok (.ireturn, 1) := ky_dc db_X6_signed_8 11 rfl
theorem dc_X6_compare_0 : decode prog_1_method_35_code 0 = .ok (.iload_n 1, 1) := ky_dc db_X6_signed_8 12 rfl
theorem dc_X6_compare_1 : decode prog_1_method_35_code 1 = .ok (.iload_n 2, 1) := ky_dc db_X6_signed_8 13 rfl
theorem dc_X6_compare_2 : decode prog_1_method_35_code 2 = .ok (.invokestatic 81, 3) := ky_dc db_X6_signed_8 14 rfl
theorem dc_X6_compare_5 : decode prog_1_method_35_code 5 = .ok (.aload_n 0, 1) := ky_dc db_X6_signed_8 15 rfl
theorem dc_X6_compare_6 : decode prog_1_method_35_code 6 = .ok (.getfield 9, 3) := ky_dc db_X6_signed_8 16 rfl
theorem dc_X6_compare_9 : decode prog_1_method_35_code 9 = .ok (.iload_n 1, 1) := ky_dc db_X6_signed_8 17 rfl
theorem dc_X6_compare_10 : decode prog_1_method_35_code 10 = .ok (.laload, 1) := ky_dc db_X6_signed_8 18 rfl
theorem dc_X6_compare_11 : decode prog_1_method_35_code 11 = .ok (.aload_n 0, 1) := ky_dc db_X6_signed_8 19 rfl
theorem dc_X6_compare_12 : decode prog_1_method_35_code 12 = .ok (.getfield 9, 3) := ky_dc db_X6_signed_8 20 rfl
theorem dc_X6_compare_15 : decode prog_1_method_35_code 15 = .ok (.iload_n 2, 1) := ky_dc db_X6_signed_8 21 rfl
theorem dc_X6_compare_16 : decode prog_1_method_35_code 16 = .ok (.laload, 1) := ky_dc db_X6_signed_8 22 rfl
theorem dc_X6_compare_17 : decode prog_1_method_35_code 17 = .ok (.invokestatic 166, 3) := ky_dc db_X6_signed_8 23 rfl
theorem dc_X6_compare_20 : decode prog_1_method_35_code 20 = .ok (.ireturn, 1) := ky_dc db_X6_signed_8 24 rfl
theorem dc_X6_areLike_0 : decode prog_1_method_36_code 0 = .ok (.iload_n 1, 1) := ky_dc db_X6_signed_8 25 rfl
theorem dc_X6_areLike_1 : decode prog_1_method_36_code 1 = .ok (.iload_n 2, 1) := ky_dc db_X6_signed_8 26 rfl
theorem dc_X6_areLike_2 : decode prog_1_method_36_code 2 = .ok (.invokestatic 81, 3) := ky_dc db_X6_signed_8 27 rfl
theorem dc_X6_areLike_5 : decode prog_1_method_36_code 5 = .ok (.aload_n 0, 1) := ky_dc db_X6_signed_8 28 rfl
theorem dc_X6_areLike_6 : decode prog_1_method_36_code 6 = .ok (.getfield 9, 3) := ky_dc db_X6_signed_8 29 rfl
theorem dc_X6_areLike_9 : decode prog_1_method_36_code 9 = .ok (.iload_n 1, 1) := ky_dc db_X6_signed_8 30 rfl
theorem dc_X6_areLike_10 : decode prog_1_method_36_code 10 = .ok (.laload, 1) := ky_dc db_X6_signed_8 31 rfl
theorem dc_X6_areLike_11 : decode prog_1_method_36_code 11 = .ok (.invokestatic 170, 3) := ky_dc db_X6_signed_8 32 rfl
theorem dc_X6_areLike_14 : decode prog_1_method_36_code 14 = .ok (.aload_n 0, 1) := ky_dc db_X6_signed_8 33 rfl
theorem dc_X6_areLike_15 : decode prog_1_method_36_code 15 = .ok (.getfield 9, 3) := ky_dc db_X6_signed_8 34 rfl
theorem dc_X6_areLike_18 : decode prog_1_method_36_code 18 = .ok (.iload_n 2, 1) := ky_dc db_X6_signed_8 35 rfl
theorem dc_X6_areLike_19 : decode prog_1_method_36_code 19 = .ok (.laload, 1) := ky_dc db_X6_signed_8 36 rfl
theorem dc_X6_areLike_20 : decode prog_1_method_36_code 20 = .ok (.invokestatic 170, 3) := ky_dc db_X6_signed_8 37 rfl
theorem dc_X6_areLike_23 : decode prog_1_method_36_code 23 = .ok (.lcmp, 1) := ky_dc db_X6_signed_8 38 rfl
theorem dc_X6_areLike_24 : decode prog_1_method_36_code 24 = .ok (.ifCond .ne 7, 3) := ky_dc db_X6_signed_8 39 rfl
theorem dc_X6_areLike_31 : decode prog_1_method_36_code 31 = .ok (.iconst 0, 1) := ky_dc db_X6_signed_8 40 rfl
theorem dc_X6_areLike_32 : decode prog_1_method_36_code 32 = .ok (.ireturn, 1) := ky_dc db_X6_signed_8 41 rfl
theorem dc_X6_areLike_27 : decode prog_1_method_36_code 27 = .ok (.iconst 1, 1) := ky_dc db_X6_signed_8 42 rfl
theorem dc_X6_areLike_28 : decode prog_1_method_36_code 28 = .ok (.goto 4, 3) := ky_dc db_X6_signed_8 43 rfl
theorem dc_X6_isBelow_0 : decode prog_1_method_37_code 0 = .ok (.iload_n 1, 1) := ky_dc db_X6_signed_8 44 rfl
theorem dc_X6_isBelow_1 : decode prog_1_method_37_code 1 = .ok (.iload_n 2, 1) := ky_dc db_X6_signed_8 45 rfl
theorem dc_X6_isBelow_2 : decode prog_1_method_37_code 2 = .ok (.invokestatic 81, 3) := ky_dc db_X6_signed_8 46 rfl
theorem dc_X6_isBelow_5 : decode prog_1_method_37_code 5 = .ok (.aload_n 0, 1) := ky_dc db_X6_signed_8 47 rfl
theorem dc_X6_isBelow_6 : decode prog_1_method_37_code 6 = .ok (.getfield 9, 3) := ky_dc db_X6_signed_8 48 rfl
theorem dc_X6_isBelow_9 : decode prog_1_method_37_code 9 = .ok (.iload_n 1, 1) := ky_dc db_X6_signed_8 49 rfl
theorem dc_X6_isBelow_10 : decode prog_1_method_37_code 10 = .ok (.laload, 1) := ky_dc db_X6_signed_8 50 rfl
theorem dc_X6_isBelow_11 : decode prog_1_method_37_code 11 = .ok (.invokestatic 170, 3) := ky_dc db_X6_signed_8 51 rfl
theorem dc_X6_isBelow_14 : decode prog_1_method_37_code 14 = .ok (.aload_n 0, 1) := ky_dc db_X6_signed_8 52 rfl
theorem dc_X6_isBelow_15 : decode prog_1_method_37_code 15 = .ok (.getfield 9, 3) := ky_dc db_X6_signed_8 53 rfl
theorem dc_X6_isBelow_18 : decode prog_1_method_37_code 18 = .ok (.iload_n 2, 1) := ky_dc db_X6_signed_8 54 rfl
theorem dc_X6_isBelow_19 : decode prog_1_method_37_code 19 = .ok (.laload, 1) := ky_dc db_X6_signed_8 55 rfl
theorem dc_X6_isBelow_20 : decode prog_1_method_37_code 20 = .ok (.invokestatic 170, 3) := ky_dc db_X6_signed_8 56 rfl
theorem dc_X6_isBelow_23 : decode prog_1_method_37_code 23 = .ok (.lcmp, 1) := ky_dc db_X6_signed_8 57 rfl
theorem dc_X6_isBelow_24 : decode prog_1_method_37_code 24 = .ok (.ifCond .ge 7, 3) := ky_dc db_X6_signed_8 58 rfl
theorem dc_X6_isBelow_31 : decode prog_1_method_37_code 31 = .ok (.iconst 0, 1) := ky_dc db_X6_signed_8 59 rfl
def dl_X6_isBelow_32 : List (ByteArray × Nat × Jvm.ClassFile.Instr × Nat) := [(prog_1_method_37_code, 32, .ireturn, 1), (prog_1_method_37_code, 27, .iconst 1, 1), (prog_1_method_37_code, 28, .goto 4, 3), (prog_1_method_38_code, 0, .iload_n 1, 1), (prog_1_method_38_code, 1, .iload_n 2, 1), (prog_1_method_38_code, 2, .invokestatic 81, 3), (prog_1_method_38_code, 5, .aload_n 0, 1), (prog_1_method_38_code, 6, .getfield 9, 3), (prog_1_method_38_code, 9, .iload_n 1, 1), (prog_1_method_38_code, 10, .laload, 1), (prog_1_method_38_code, 11, .aload_n 0, 1), (prog_1_method_38_code, 12, .getfield 9, 3), (prog_1_method_38_code, 15, .iload_n 2, 1), (prog_1_method_38_code, 16, .laload, 1), (prog_1_method_38_code, 17, .lcmp, 1), (prog_1_method_38_code, 18, .ifCond .ne 7, 3), (prog_1_method_38_code, 25, .iconst 0, 1), (prog_1_method_38_code, 26, .ireturn, 1), (prog_1_method_38_code, 21, .iconst 1, 1), (prog_1_method_38_code, 22, .goto 4, 3), (prog_1_method_39_code, 0, .iload_n 1, 1), (prog_1_method_39_code, 1, .iload_n 2, 1), (prog_1_method_39_code, 2, .invokestatic 81, 3), (prog_1_method_39_code, 5, .aload_n 0, 1), (prog_1_method_39_code, 6, .getfield 9, 3), (prog_1_method_39_code, 9, .iload_n 1, 1), (prog_1_method_39_code, 10, .laload, 1), (prog_1_method_39_code, 11, .invokestatic 105, 3), (prog_1_method_39_code, 14, .aload_n 0, 1), (prog_1_method_39_code, 15, .getfield 9, 3), (prog_1_method_39_code, 18, .iload_n 2, 1), (prog_1_method_39_code, 19, .laload, 1), (prog_1_method_39_code, 20, .lcmp, 1), (prog_1_method_39_code, 21, .ifCond .ne 7, 3), (prog_1_method_39_code, 28, .iconst 0, 1), (prog_1_method_39_code, 29, .ireturn, 1), (prog_1_method_39_code, 24, .iconst 1, 1), (prog_1_method_39_code, 25, .goto 4, 3), (prog_1_method_40_code, 0, .iload_n 1, 1), (prog_1_method_40_code, 1, .iload_n 2, 1), (prog_1_method_40_code, 2, .invokestatic 81, 3), (prog_1_method_40_code, 5, .aload_n 0, 1), (prog_1_method_40_code, 6, .getfield 9, 3), (prog_1_method_40_code, 9, .iload_n 1, 1), (prog_1_method_40_code, 10, .laload, 1), (prog_1_method_40_code, 11, .aload_n 0, 1), (prog_1_method_40_code, 12, .getfield 9, 3), (prog_1_method_40_code, 15, .iload_n 2, 1), (prog_1_method_40_code, 16, .laload, 1), (prog_1_method_40_code, 17, .invokestatic 173, 3), (prog_1_method_40_code, 20, .ireturn, 1), (prog_1_method_48_code, 0, .iload_n 1, 1), (prog_1_method_48_code, 1, .invokestatic 27, 3), (prog_1_method_48_code, 4, .iload_n 2, 1), (prog_1_method_48_code, 5, .sipush (-2200), 3), (prog_1_method_48_code, 8, .sipush 2200, 3), (prog_1_method_48_code, 11, .invokestatic 55, 3), (prog_1_method_48_code, 14, .aload_n 0, 1), (prog_1_method_48_code, 15, .getfield 9, 3), (prog_1_method_48_code, 18, .iload_n 1, 1)]
theorem db_X6_isBelow_32 : dl_X6_isBelow_32.all (fun x => decide (decode x.1 x.2.1 = .ok x.2.2)) = true := by decide +kernel
theorem dc_X6_isBelow_32 : decode prog_1_method_37_code 32 = .ok (.ireturn, 1) := ky_dc db_X6_isBelow_32 0 rfl
theorem dc_X6_isBelow_27 : decode prog_1_method_37_code 27 = .ok (.iconst 1, 1) := ky_dc db_X6_isBelow_32 1 rfl
theorem dc_X6_isBelow_28 : decode prog_1_method_37_code 28 = .ok (.goto 4, 3) := ky_dc db_X6_isBelow_32 2 rfl
theorem dc_X6_areSame_0 : decode prog_1_method_38_code 0 = .ok (.iload_n 1, 1) := ky_dc db_X6_isBelow_32 3 rfl
theorem dc_X6_areSame_1 : decode prog_1_method_38_code 1 = .ok (.iload_n 2, 1) := ky_dc db_X6_isBelow_32 4 rfl
theorem dc_X6_areSame_2 : decode prog_1_method_38_code 2 = .ok (.invokestatic 81, 3) := ky_dc db_X6_isBelow_32 5 rfl
theorem dc_X6_areSame_5 : decode prog_1_method_38_code 5 = .ok (.aload_n 0, 1) := ky_dc db_X6_isBelow_32 6 rfl
theorem dc_X6_areSame_6 : decode prog_1_method_38_code 6 = .ok (.getfield 9, 3) := ky_dc db_X6_isBelow_32 7 rfl
theorem dc_X6_areSame_9 : decode prog_1_method_38_code 9 = .ok (.iload_n 1, 1) := ky_dc db_X6_isBelow_32 8 rfl
theorem dc_X6_areSame_10 : decode prog_1_method_38_code 10 = .ok (.laload, 1) := ky_dc db_X6_isBelow_32 9 rfl
theorem dc_X6_areSame_11 : decode prog_1_method_38_code 11 = .ok (.aload_n 0, 1) := ky_dc db_X6_isBelow_32 10 rfl
theorem dc_X6_areSame_12 : decode prog_1_method_38_code 12 = .ok (.getfield 9, 3) := ky_dc db_X6_isBelow_32 11 rfl
theorem dc_X6_areSame_15 : decode prog_1_method_38_code 15 = .ok (.iload_n 2, 1) := ky_dc db_X6_isBelow_32 12 rfl
theorem dc_X6_areSame_16 : decode prog_1_method_38_code 16 = .ok (.laload, 1) := ky_dc db_X6_isBelow_32 13 rfl
theorem dc_X6_areSame_17 : decode prog_1_method_38_code 17 = .ok (.lcmp, 1) := ky_dc db_X6_isBelow_32 14 rfl
theorem dc_X6_areSame_18 : decode prog_1_method_38_code 18 = .ok (.ifCond .ne 7, 3) := ky_dc db_X6_isBelow_32 15 rfl
theorem dc_X6_areSame_25 : decode prog_1_method_38_code 25 = .ok (.iconst 0, 1) := ky_dc db_X6_isBelow_32 16 rfl
theorem dc_X6_areSame_26 : decode prog_1_method_38_code 26 = .ok (.ireturn, 1) := ky_dc db_X6_isBelow_32 17 rfl
theorem dc_X6_areSame_21 : decode prog_1_method_38_code 21 = .ok (.iconst 1, 1) := ky_dc db_X6_isBelow_32 18 rfl
theorem dc_X6_areSame_22 : decode prog_1_method_38_code 22 = .ok (.goto 4, 3) := ky_dc db_X6_isBelow_32 19 rfl
theorem dc_X6_isNext_0 : decode prog_1_method_39_code 0 = .ok (.iload_n 1, 1) := ky_dc db_X6_isBelow_32 20 rfl
theorem dc_X6_isNext_1 : decode prog_1_method_39_code 1 = .ok (.iload_n 2, 1) := ky_dc db_X6_isBelow_32 21 rfl
theorem dc_X6_isNext_2 : decode prog_1_method_39_code 2 = .ok (.invokestatic 81, 3) := ky_dc db_X6_isBelow_32 22 rfl
theorem dc_X6_isNext_5 : decode prog_1_method_39_code 5 = .ok (.aload_n 0, 1) := ky_dc db_X6_isBelow_32 23 rfl
theorem dc_X6_isNext_6 : decode prog_1_method_39_code 6 = .ok (.getfield 9, 3) := ky_dc db_X6_isBelow_32 24 rfl
theorem dc_X6_isNext_9 : decode prog_1_method_39_code 9 = .ok (.iload_n 1, 1) := ky_dc db_X6_isBelow_32 25 rfl
theorem dc_X6_isNext_10 : decode prog_1_method_39_code 10 = .ok (.laload, 1) := ky_dc db_X6_isBelow_32 26 rfl
theorem dc_X6_isNext_11 : decode prog_1_method_39_code 11 = .ok (.invokestatic 105, 3) := ky_dc db_X6_isBelow_32 27 rfl
theorem dc_X6_isNext_14 : decode prog_1_method_39_code 14 = .ok (.aload_n 0, 1) := ky_dc db_X6_isBelow_32 28 rfl
theorem dc_X6_isNext_15 : decode prog_1_method_39_code 15 = .ok (.getfield 9, 3) := ky_dc db_X6_isBelow_32 29 rfl
theorem dc_X6_isNext_18 : decode prog_1_method_39_code 18 = .ok (.iload_n 2, 1) := ky_dc db_X6_isBelow_32 30 rfl
theorem dc_X6_isNext_19 : decode prog_1_method_39_code 19 = .ok (.laload, 1) := ky_dc db_X6_isBelow_32 31 rfl
theorem dc_X6_isNext_20 : decode prog_1_method_39_code 20 = .ok (.lcmp, 1) := ky_dc db_X6_isBelow_32 32 rfl
theorem dc_X6_isNext_21 : decode prog_1_method_39_code 21 = .ok (.ifCond .ne 7, 3) := ky_dc db_X6_isBelow_32 33 rfl
theorem dc_X6_isNext_28 : decode prog_1_method_39_code 28 = .ok (.iconst 0, 1) := ky_dc db_X6_isBelow_32 34 rfl
theorem dc_X6_isNext_29 : decode prog_1_method_39_code 29 = .ok (.ireturn, 1) := ky_dc db_X6_isBelow_32 35 rfl
theorem dc_X6_isNext_24 : decode prog_1_method_39_code 24 = .ok (.iconst 1, 1) := ky_dc db_X6_isBelow_32 36 rfl
theorem dc_X6_isNext_25 : decode prog_1_method_39_code 25 = .ok (.goto 4, 3) := ky_dc db_X6_isBelow_32 37 rfl
theorem dc_X6_apart_0 : decode prog_1_method_40_code 0 = .ok (.iload_n 1, 1) := ky_dc db_X6_isBelow_32 38 rfl
theorem dc_X6_apart_1 : decode prog_1_method_40_code 1 = .ok (.iload_n 2, 1) := ky_dc db_X6_isBelow_32 39 rfl
theorem dc_X6_apart_2 : decode prog_1_method_40_code 2 = .ok (.invokestatic 81, 3) := ky_dc db_X6_isBelow_32 40 rfl
theorem dc_X6_apart_5 : decode prog_1_method_40_code 5 = .ok (.aload_n 0, 1) := ky_dc db_X6_isBelow_32 41 rfl
theorem dc_X6_apart_6 : decode prog_1_method_40_code 6 = .ok (.getfield 9, 3) := ky_dc db_X6_isBelow_32 42 rfl
theorem dc_X6_apart_9 : decode prog_1_method_40_code 9 = .ok (.iload_n 1, 1) := ky_dc db_X6_isBelow_32 43 rfl
theorem dc_X6_apart_10 : decode prog_1_method_40_code 10 = .ok (.laload, 1) := ky_dc db_X6_isBelow_32 44 rfl
theorem dc_X6_apart_11 : decode prog_1_method_40_code 11 = .ok (.aload_n 0, 1) := ky_dc db_X6_isBelow_32 45 rfl
theorem dc_X6_apart_12 : decode prog_1_method_40_code 12 = .ok (.getfield 9, 3) := ky_dc db_X6_isBelow_32 46 rfl
theorem dc_X6_apart_15 : decode prog_1_method_40_code 15 = .ok (.iload_n 2, 1) := ky_dc db_X6_isBelow_32 47 rfl
theorem dc_X6_apart_16 : decode prog_1_method_40_code 16 = .ok (.laload, 1) := ky_dc db_X6_isBelow_32 48 rfl
theorem dc_X6_apart_17 : decode prog_1_method_40_code 17 = .ok (.invokestatic 173, 3) := ky_dc db_X6_isBelow_32 49 rfl
theorem dc_X6_apart_20 : decode prog_1_method_40_code 20 = .ok (.ireturn, 1) := ky_dc db_X6_isBelow_32 50 rfl
theorem dc_X6_isBack_0 : decode prog_1_method_48_code 0 = .ok (.iload_n 1, 1) := ky_dc db_X6_isBelow_32 51 rfl
theorem dc_X6_isBack_1 : decode prog_1_method_48_code 1 = .ok (.invokestatic 27, 3) := ky_dc db_X6_isBelow_32 52 rfl
theorem dc_X6_isBack_4 : decode prog_1_method_48_code 4 = .ok (.iload_n 2, 1) := ky_dc db_X6_isBelow_32 53 rfl
theorem dc_X6_isBack_5 : decode prog_1_method_48_code 5 = .ok (.sipush (-2200), 3) := ky_dc db_X6_isBelow_32 54 rfl
theorem dc_X6_isBack_8 : decode prog_1_method_48_code 8 = .ok (.sipush 2200, 3) := ky_dc db_X6_isBelow_32 55 rfl
theorem dc_X6_isBack_11 : decode prog_1_method_48_code 11 = .ok (.invokestatic 55, 3) := ky_dc db_X6_isBelow_32 56 rfl
theorem dc_X6_isBack_14 : decode prog_1_method_48_code 14 = .ok (.aload_n 0, 1) := ky_dc db_X6_isBelow_32 57 rfl
theorem dc_X6_isBack_15 : decode prog_1_method_48_code 15 = .ok (.getfield 9, 3) := ky_dc db_X6_isBelow_32 58 rfl
theorem dc_X6_isBack_18 : decode prog_1_method_48_code 18 = .ok (.iload_n 1, 1) := ky_dc db_X6_isBelow_32 59 rfl
def dl_X6_isBack_19 : List (ByteArray × Nat × Jvm.ClassFile.Instr × Nat) := [(prog_1_method_48_code, 19, .laload, 1), (prog_1_method_48_code, 20, .iload_n 2, 1), (prog_1_method_48_code, 21, .invokestatic 61, 3), (prog_1_method_48_code, 24, .iload_n 2, 1), (prog_1_method_48_code, 25, .ineg, 1), (prog_1_method_48_code, 26, .invokestatic 61, 3), (prog_1_method_48_code, 29, .aload_n 0, 1), (prog_1_method_48_code, 30, .getfield 9, 3), (prog_1_method_48_code, 33, .iload_n 1, 1), (prog_1_method_48_code, 34, .laload, 1), (prog_1_method_48_code, 35, .lcmp, 1), (prog_1_method_48_code, 36, .ifCond .ne 7, 3), (prog_1_method_48_code, 43, .iconst 0, 1), (prog_1_method_48_code, 44, .ireturn, 1), (prog_1_method_48_code, 39, .iconst 1, 1), (prog_1_method_48_code, 40, .goto 4, 3), (prog_1_method_51_code, 0, .aload_n 0, 1), (prog_1_method_51_code, 1, .dup, 1), (prog_1_method_51_code, 2, .getfield 186, 3), (prog_1_method_51_code, 5, .iconst 1, 1), (prog_1_method_51_code, 6, .iadd, 1), (prog_1_method_51_code, 7, .putfield 186, 3), (prog_1_method_51_code, 10, .aload_n 0, 1), (prog_1_method_51_code, 11, .getfield 186, 3), (prog_1_method_51_code, 14, .ireturn, 1)]
theorem db_X6_isBack_19 : dl_X6_isBack_19.all (fun x => decide (decode x.1 x.2.1 = .ok x.2.2)) = true := by decide +kernel
theorem dc_X6_isBack_19 : decode prog_1_method_48_code 19 = .ok (.laload, 1) := ky_dc db_X6_isBack_19 0 rfl
theorem dc_X6_isBack_20 : decode prog_1_method_48_code 20 = .ok (.iload_n 2, 1) := ky_dc db_X6_isBack_19 1 rfl
theorem dc_X6_isBack_21 : decode prog_1_method_48_code 21 = .ok (.invokestatic 61, 3) := ky_dc db_X6_isBack_19 2 rfl
theorem dc_X6_isBack_24 : decode prog_1_method_48_code 24 = .ok (.iload_n 2, 1) := ky_dc db_X6_isBack_19 3 rfl
theorem dc_X6_isBack_25 : decode prog_1_method_48_code 25 = .ok (.ineg, 1) := ky_dc db_X6_isBack_19 4 rfl
theorem dc_X6_isBack_26 : decode prog_1_method_48_code 26 = .ok (.invokestatic 61, 3) := ky_dc db_X6_isBack_19 5 rfl
theorem dc_X6_isBack_29 : decode prog_1_method_48_code 29 = .ok (.aload_n 0, 1) := ky_dc db_X6_isBack_19 6 rfl
theorem dc_X6_isBack_30 : decode prog_1_method_48_code 30 = .ok (.getfield 9, 3) := ky_dc db_X6_isBack_19 7 rfl
theorem dc_X6_isBack_33 : decode prog_1_method_48_code 33 = .ok (.iload_n 1, 1) := ky_dc db_X6_isBack_19 8 rfl
theorem dc_X6_isBack_34 : decode prog_1_method_48_code 34 = .ok (.laload, 1) := ky_dc db_X6_isBack_19 9 rfl
theorem dc_X6_isBack_35 : decode prog_1_method_48_code 35 = .ok (.lcmp, 1) := ky_dc db_X6_isBack_19 10 rfl
theorem dc_X6_isBack_36 : decode prog_1_method_48_code 36 = .ok (.ifCond .ne 7, 3) := ky_dc db_X6_isBack_19 11 rfl
theorem dc_X6_isBack_43 : decode prog_1_method_48_code 43 = .ok (.iconst 0, 1) := ky_dc db_X6_isBack_19 12 rfl
theorem dc_X6_isBack_44 : decode prog_1_method_48_code 44 = .ok (.ireturn, 1) := ky_dc db_X6_isBack_19 13 rfl
theorem dc_X6_isBack_39 : decode prog_1_method_48_code 39 = .ok (.iconst 1, 1) := ky_dc db_X6_isBack_19 14 rfl
theorem dc_X6_isBack_40 : decode prog_1_method_48_code 40 = .ok (.goto 4, 3) := ky_dc db_X6_isBack_19 15 rfl
theorem dc_X6_knock_0 : decode prog_1_method_51_code 0 = .ok (.aload_n 0, 1) := ky_dc db_X6_isBack_19 16 rfl
theorem dc_X6_knock_1 : decode prog_1_method_51_code 1 = .ok (.dup, 1) := ky_dc db_X6_isBack_19 17 rfl
theorem dc_X6_knock_2 : decode prog_1_method_51_code 2 = .ok (.getfield 186, 3) := ky_dc db_X6_isBack_19 18 rfl
theorem dc_X6_knock_5 : decode prog_1_method_51_code 5 = .ok (.iconst 1, 1) := ky_dc db_X6_isBack_19 19 rfl
theorem dc_X6_knock_6 : decode prog_1_method_51_code 6 = .ok (.iadd, 1) := ky_dc db_X6_isBack_19 20 rfl
theorem dc_X6_knock_7 : decode prog_1_method_51_code 7 = .ok (.putfield 186, 3) := ky_dc db_X6_isBack_19 21 rfl
theorem dc_X6_knock_10 : decode prog_1_method_51_code 10 = .ok (.aload_n 0, 1) := ky_dc db_X6_isBack_19 22 rfl
theorem dc_X6_knock_11 : decode prog_1_method_51_code 11 = .ok (.getfield 186, 3) := ky_dc db_X6_isBack_19 23 rfl
theorem dc_X6_knock_14 : decode prog_1_method_51_code 14 = .ok (.ireturn, 1) := ky_dc db_X6_isBack_19 24 rfl
