theorem kc_1 : ∀ w ∈ tables_1_1, w ∈ lw_tbl := fun w h => List.mem_append_right _ (List.mem_append_left _ (h))
theorem kc_2 : ∀ w ∈ tables_1_2, w ∈ lw_tbl := fun w h => List.mem_append_right _ (List.mem_append_right _ (List.mem_append_left _ (h)))
theorem kc_3 : ∀ w ∈ tables_1_3, w ∈ lw_tbl := fun w h => List.mem_append_right _ (List.mem_append_right _ (List.mem_append_right _ (List.mem_append_left _ (h))))
theorem kc_4 : ∀ w ∈ tables_1_4, w ∈ lw_tbl := fun w h => List.mem_append_right _ (List.mem_append_right _ (List.mem_append_right _ (List.mem_append_right _ (List.mem_append_left _ (h)))))
theorem kc_5 : ∀ w ∈ tables_1_5, w ∈ lw_tbl := fun w h => List.mem_append_right _ (List.mem_append_right _ (List.mem_append_right _ (List.mem_append_right _ (List.mem_append_right _ (List.mem_append_left _ (h))))))
theorem kc_6 : ∀ w ∈ tables_1_6, w ∈ lw_tbl := fun w h => List.mem_append_right _ (List.mem_append_right _ (List.mem_append_right _ (List.mem_append_right _ (List.mem_append_right _ (List.mem_append_right _ (List.mem_append_left _ (h)))))))
theorem kc_7 : ∀ w ∈ tables_1_7, w ∈ lw_tbl := fun w h => List.mem_append_right _ (List.mem_append_right _ (List.mem_append_right _ (List.mem_append_right _ (List.mem_append_right _ (List.mem_append_right _ (List.mem_append_right _ (List.mem_append_left _ (h))))))))
theorem kc_8 : ∀ w ∈ tables_1_8, w ∈ lw_tbl := fun w h => List.mem_append_right _ (List.mem_append_right _ (List.mem_append_right _ (List.mem_append_right _ (List.mem_append_right _ (List.mem_append_right _ (List.mem_append_right _ (List.mem_append_right _ (h))))))))
abbrev my_X0_sizeIn : MethodName := ⟨"Exactdoubles$Form", "sizeIn", "(J)J"⟩
abbrev my_X0_withSide : MethodName := ⟨"Exactdoubles$Form", "withSide", "(JZ)J"⟩
abbrev my_X0_joined : MethodName := ⟨"Exactdoubles$Form", "joined", "(JJ)J"⟩
abbrev my_X0_turned : MethodName := ⟨"Exactdoubles$Form", "turned", "(J)J"⟩
abbrev my_X0_isDownOne : MethodName := ⟨"Exactdoubles$Form", "isDownOne", "(J)Z"⟩
abbrev my_X0_highIn : MethodName := ⟨"Exactdoubles$Form", "highIn", "(J)I"⟩
abbrev my_X0_lowIn : MethodName := ⟨"Exactdoubles$Form", "lowIn", "(J)J"⟩
abbrev my_X0_digitsIn : MethodName := ⟨"Exactdoubles$Form", "digitsIn", "(JI)I"⟩
abbrev my_X0_exponentIn : MethodName := ⟨"Exactdoubles$Form", "exponentIn", "(J)I"⟩
abbrev my_X0_isNumber : MethodName := ⟨"Exactdoubles$Form", "isNumber", "(J)Z"⟩
abbrev my_X0_isEndlessOne : MethodName := ⟨"Exactdoubles$Form", "isEndlessOne", "(J)Z"⟩
abbrev my_X0_factorIn : MethodName := ⟨"Exactdoubles$Form", "factorIn", "(J)J"⟩
abbrev my_X0_powerIn : MethodName := ⟨"Exactdoubles$Form", "powerIn", "(J)I"⟩
abbrev my_X0_behindIn : MethodName := ⟨"Exactdoubles$Form", "behindIn", "(J)I"⟩
abbrev my_X0_aheadIn : MethodName := ⟨"Exactdoubles$Form", "aheadIn", "(J)J"⟩
abbrev my_X0_restIn : MethodName := ⟨"Exactdoubles$Form", "restIn", "(J)J"⟩
abbrev my_X0_isWholeOne : MethodName := ⟨"Exactdoubles$Form", "isWholeOne", "(J)Z"⟩
abbrev my_X0_kindIn : MethodName := ⟨"Exactdoubles$Form", "kindIn", "(J)I"⟩
abbrev my_X0_rungIn : MethodName := ⟨"Exactdoubles$Form", "rungIn", "(J)J"⟩
abbrev my_X0_rankIn : MethodName := ⟨"Exactdoubles$Form", "rankIn", "(J)J"⟩
abbrev my_X0_lastOf : MethodName := ⟨"Exactdoubles$Form", "lastOf", "(JJ)J"⟩
abbrev my_X0_firstOf : MethodName := ⟨"Exactdoubles$Form", "firstOf", "(JJ)J"⟩
abbrev my_X2_halvedOften : MethodName := ⟨"Exactdoubles$Scale", "halvedOften", "(JI)J"⟩
abbrev my_X2_nearestTo : MethodName := ⟨"Exactdoubles$Scale", "nearestTo", "(JI)J"⟩
abbrev my_X2_timesPower : MethodName := ⟨"Exactdoubles$Scale", "timesPower", "(JI)J"⟩
abbrev my_X4_wholeLike : MethodName := ⟨"Exactdoubles$Take", "wholeLike", "(JJ)J"⟩
abbrev my_X4_floorFrom : MethodName := ⟨"Exactdoubles$Take", "floorFrom", "(J)J"⟩
abbrev my_X4_ceilFrom : MethodName := ⟨"Exactdoubles$Take", "ceilFrom", "(J)J"⟩
abbrev my_X4_rintFrom : MethodName := ⟨"Exactdoubles$Take", "rintFrom", "(J)J"⟩
abbrev my_X4_signFrom : MethodName := ⟨"Exactdoubles$Take", "signFrom", "(J)J"⟩
abbrev my_X4_upFrom : MethodName := ⟨"Exactdoubles$Take", "upFrom", "(J)J"⟩
abbrev my_X4_downFrom : MethodName := ⟨"Exactdoubles$Take", "downFrom", "(J)J"⟩
abbrev my_X4_stepFrom : MethodName := ⟨"Exactdoubles$Take", "stepFrom", "(J)J"⟩
abbrev my_X4_walkFrom : MethodName := ⟨"Exactdoubles$Take", "walkFrom", "(JI)J"⟩
abbrev my_X5_cutFrom : MethodName := ⟨"Exactdoubles$Whole", "cutFrom", "(J)J"⟩
abbrev my_X5_roundFrom : MethodName := ⟨"Exactdoubles$Whole", "roundFrom", "(J)J"⟩
abbrev my_X5_shortFrom : MethodName := ⟨"Exactdoubles$Whole", "shortFrom", "(J)I"⟩
theorem kw_1_138 : (Jvm.Cond.constantLong "Exactdoubles$Form" (15 : Nat) (9223372036854775807 : Int64)) ∈ ky_B := ky_mem (kc_1 _ (List.mem_of_getElem? (i := 138) rfl)) (by decide +kernel)
theorem kw_3_123 : (Jvm.Cond.constantLong "Exactdoubles$Form" (9 : Nat) (-9223372036854775808 : Int64)) ∈ ky_B := ky_mem (kc_3 _ (List.mem_of_getElem? (i := 123) rfl)) (by decide +kernel)
theorem kw_1_135 : (Jvm.Cond.methodLink "Exactdoubles$Form" (11 : Nat) ({ cls := "Exactdoubles$Form", name := "sizeIn", desc := "(J)J" } : Jvm.MethodName)) ∈ ky_B := ky_mem (kc_1 _ (List.mem_of_getElem? (i := 135) rfl)) (by decide +kernel)
theorem kw_1_136 : (Jvm.Cond.static ({ cls := "Exactdoubles$Form", name := "sizeIn", desc := "(J)J" } : Jvm.MethodName)) ∈ ky_B := ky_mem (kc_1 _ (List.mem_of_getElem? (i := 136) rfl)) (by decide +kernel)
theorem kw_1_15 : (Jvm.Cond.initialized "Exactdoubles$Form") ∈ ky_B := ky_mem (kc_1 _ (List.mem_of_getElem? (i := 15) rfl)) (by decide +kernel)
theorem kw_1_137 : (Jvm.Cond.code ({ cls := "Exactdoubles$Form", name := "sizeIn", desc := "(J)J" } : Jvm.MethodName) prog_2_method_5_code (2 : Nat) (Option.some Jvm.ClassFile.FieldType.long)) ∈ ky_B := ky_mem (kc_1 _ (List.mem_of_getElem? (i := 137) rfl)) (by decide +kernel)
theorem kw_3_47 : (Jvm.Cond.constantLong "Exactdoubles$Form" (17 : Nat) (4503599627370495 : Int64)) ∈ ky_B := ky_mem (kc_3 _ (List.mem_of_getElem? (i := 47) rfl)) (by decide +kernel)
theorem kw_1_131 : (Jvm.Cond.methodLink "Exactdoubles$Form" (19 : Nat) ({ cls := "Exactdoubles$Form", name := "isDownOne", desc := "(J)Z" } : Jvm.MethodName)) ∈ ky_B := ky_mem (kc_1 _ (List.mem_of_getElem? (i := 131) rfl)) (by decide +kernel)
theorem kw_1_132 : (Jvm.Cond.static ({ cls := "Exactdoubles$Form", name := "isDownOne", desc := "(J)Z" } : Jvm.MethodName)) ∈ ky_B := ky_mem (kc_1 _ (List.mem_of_getElem? (i := 132) rfl)) (by decide +kernel)
theorem kw_1_133 : (Jvm.Cond.code ({ cls := "Exactdoubles$Form", name := "isDownOne", desc := "(J)Z" } : Jvm.MethodName) prog_2_method_6_code (2 : Nat) (Option.some Jvm.ClassFile.FieldType.boolean)) ∈ ky_B := ky_mem (kc_1 _ (List.mem_of_getElem? (i := 133) rfl)) (by decide +kernel)
theorem kw_3_41 : (Jvm.Cond.methodLink "Exactdoubles$Form" (23 : Nat) ({ cls := "Exactdoubles$Form", name := "highIn", desc := "(J)I" } : Jvm.MethodName)) ∈ ky_B := ky_mem (kc_3 _ (List.mem_of_getElem? (i := 41) rfl)) (by decide +kernel)
theorem kw_3_42 : (Jvm.Cond.static ({ cls := "Exactdoubles$Form", name := "highIn", desc := "(J)I" } : Jvm.MethodName)) ∈ ky_B := ky_mem (kc_3 _ (List.mem_of_getElem? (i := 42) rfl)) (by decide +kernel)
theorem kw_3_43 : (Jvm.Cond.code ({ cls := "Exactdoubles$Form", name := "highIn", desc := "(J)I" } : Jvm.MethodName) prog_2_method_7_code (2 : Nat) (Option.some Jvm.ClassFile.FieldType.int)) ∈ ky_B := ky_mem (kc_3 _ (List.mem_of_getElem? (i := 43) rfl)) (by decide +kernel)
theorem kw_3_44 : (Jvm.Cond.methodLink "Exactdoubles$Form" (27 : Nat) ({ cls := "Exactdoubles$Form", name := "lowIn", desc := "(J)J" } : Jvm.MethodName)) ∈ ky_B := ky_mem (kc_3 _ (List.mem_of_getElem? (i := 44) rfl)) (by decide +kernel)
theorem kw_3_45 : (Jvm.Cond.static ({ cls := "Exactdoubles$Form", name := "lowIn", desc := "(J)J" } : Jvm.MethodName)) ∈ ky_B := ky_mem (kc_3 _ (List.mem_of_getElem? (i := 45) rfl)) (by decide +kernel)
theorem kw_3_46 : (Jvm.Cond.code ({ cls := "Exactdoubles$Form", name := "lowIn", desc := "(J)J" } : Jvm.MethodName) prog_2_method_8_code (2 : Nat) (Option.some Jvm.ClassFile.FieldType.long)) ∈ ky_B := ky_mem (kc_3 _ (List.mem_of_getElem? (i := 46) rfl)) (by decide +kernel)
theorem kw_3_37 : (Jvm.Cond.constantLong "Exactdoubles$Form" (30 : Nat) (9218868437227405312 : Int64)) ∈ ky_B := ky_mem (kc_3 _ (List.mem_of_getElem? (i := 37) rfl)) (by decide +kernel)
theorem kw_3_48 : (Jvm.Cond.constantLong "Exactdoubles$Form" (43 : Nat) (4503599627370496 : Int64)) ∈ ky_B := ky_mem (kc_3 _ (List.mem_of_getElem? (i := 48) rfl)) (by decide +kernel)
theorem kw_3_52 : (Jvm.Cond.methodLink "Exactdoubles$Form" (45 : Nat) ({ cls := "java/lang/Math", name := "max", desc := "(II)I" } : Jvm.MethodName)) ∈ ky_B := ky_mem (kc_3 _ (List.mem_of_getElem? (i := 52) rfl)) (by decide +kernel)
theorem kw_1_185 : (Jvm.Cond.static ({ cls := "java/lang/Math", name := "max", desc := "(II)I" } : Jvm.MethodName)) ∈ ky_B := ky_mem (kc_1 _ (List.mem_of_getElem? (i := 185) rfl)) (by decide +kernel)
theorem kw_1_16 : (Jvm.Cond.initialized "java/lang/Math") ∈ ky_B := ky_mem (kc_1 _ (List.mem_of_getElem? (i := 16) rfl)) (by decide +kernel)
theorem kw_1_186 : (Jvm.Cond.code ({ cls := "java/lang/Math", name := "max", desc := "(II)I" } : Jvm.MethodName) prog_20_method_65_code (2 : Nat) (Option.some Jvm.ClassFile.FieldType.int)) ∈ ky_B := ky_mem (kc_1 _ (List.mem_of_getElem? (i := 186) rfl)) (by decide +kernel)
theorem kw_3_103 : (Jvm.Cond.methodLink "Exactdoubles$Form" (51 : Nat) ({ cls := "java/lang/Math", name := "min", desc := "(II)I" } : Jvm.MethodName)) ∈ ky_B := ky_mem (kc_3 _ (List.mem_of_getElem? (i := 103) rfl)) (by decide +kernel)
theorem kw_1_203 : (Jvm.Cond.static ({ cls := "java/lang/Math", name := "min", desc := "(II)I" } : Jvm.MethodName)) ∈ ky_B := ky_mem (kc_1 _ (List.mem_of_getElem? (i := 203) rfl)) (by decide +kernel)
theorem kw_1_204 : (Jvm.Cond.code ({ cls := "java/lang/Math", name := "min", desc := "(II)I" } : Jvm.MethodName) prog_20_method_69_code (2 : Nat) (Option.some Jvm.ClassFile.FieldType.int)) ∈ ky_B := ky_mem (kc_1 _ (List.mem_of_getElem? (i := 204) rfl)) (by decide +kernel)
theorem kw_3_99 : (Jvm.Cond.methodLink "Exactdoubles$Form" (54 : Nat) ({ cls := "Exactdoubles$Form", name := "factorIn", desc := "(J)J" } : Jvm.MethodName)) ∈ ky_B := ky_mem (kc_3 _ (List.mem_of_getElem? (i := 99) rfl)) (by decide +kernel)
theorem kw_3_39 : (Jvm.Cond.static ({ cls := "Exactdoubles$Form", name := "factorIn", desc := "(J)J" } : Jvm.MethodName)) ∈ ky_B := ky_mem (kc_3 _ (List.mem_of_getElem? (i := 39) rfl)) (by decide +kernel)
theorem kw_3_40 : (Jvm.Cond.code ({ cls := "Exactdoubles$Form", name := "factorIn", desc := "(J)J" } : Jvm.MethodName) prog_2_method_19_code (2 : Nat) (Option.some Jvm.ClassFile.FieldType.long)) ∈ ky_B := ky_mem (kc_3 _ (List.mem_of_getElem? (i := 40) rfl)) (by decide +kernel)
theorem kw_3_100 : (Jvm.Cond.methodLink "Exactdoubles$Form" (57 : Nat) ({ cls := "Exactdoubles$Form", name := "behindIn", desc := "(J)I" } : Jvm.MethodName)) ∈ ky_B := ky_mem (kc_3 _ (List.mem_of_getElem? (i := 100) rfl)) (by decide +kernel)
theorem kw_3_101 : (Jvm.Cond.static ({ cls := "Exactdoubles$Form", name := "behindIn", desc := "(J)I" } : Jvm.MethodName)) ∈ ky_B := ky_mem (kc_3 _ (List.mem_of_getElem? (i := 101) rfl)) (by decide +kernel)
theorem kw_3_102 : (Jvm.Cond.code ({ cls := "Exactdoubles$Form", name := "behindIn", desc := "(J)I" } : Jvm.MethodName) prog_2_method_21_code (2 : Nat) (Option.some Jvm.ClassFile.FieldType.int)) ∈ ky_B := ky_mem (kc_3 _ (List.mem_of_getElem? (i := 102) rfl)) (by decide +kernel)
theorem kw_3_231 : (Jvm.Cond.methodLink "Exactdoubles$Form" (32 : Nat) ({ cls := "Exactdoubles$Form", name := "restIn", desc := "(J)J" } : Jvm.MethodName)) ∈ ky_B := ky_mem (kc_3 _ (List.mem_of_getElem? (i := 231) rfl)) (by decide +kernel)
theorem kw_3_97 : (Jvm.Cond.static ({ cls := "Exactdoubles$Form", name := "restIn", desc := "(J)J" } : Jvm.MethodName)) ∈ ky_B := ky_mem (kc_3 _ (List.mem_of_getElem? (i := 97) rfl)) (by decide +kernel)
theorem kw_3_98 : (Jvm.Cond.code ({ cls := "Exactdoubles$Form", name := "restIn", desc := "(J)J" } : Jvm.MethodName) prog_2_method_23_code (2 : Nat) (Option.some Jvm.ClassFile.FieldType.long)) ∈ ky_B := ky_mem (kc_3 _ (List.mem_of_getElem? (i := 98) rfl)) (by decide +kernel)
theorem kw_3_232 : (Jvm.Cond.methodLink "Exactdoubles$Form" (35 : Nat) ({ cls := "Exactdoubles$Form", name := "isEndlessOne", desc := "(J)Z" } : Jvm.MethodName)) ∈ ky_B := ky_mem (kc_3 _ (List.mem_of_getElem? (i := 232) rfl)) (by decide +kernel)
theorem kw_3_35 : (Jvm.Cond.static ({ cls := "Exactdoubles$Form", name := "isEndlessOne", desc := "(J)Z" } : Jvm.MethodName)) ∈ ky_B := ky_mem (kc_3 _ (List.mem_of_getElem? (i := 35) rfl)) (by decide +kernel)
theorem kw_3_36 : (Jvm.Cond.code ({ cls := "Exactdoubles$Form", name := "isEndlessOne", desc := "(J)Z" } : Jvm.MethodName) prog_2_method_12_code (2 : Nat) (Option.some Jvm.ClassFile.FieldType.boolean)) ∈ ky_B := ky_mem (kc_3 _ (List.mem_of_getElem? (i := 36) rfl)) (by decide +kernel)
theorem kw_1_134 : (Jvm.Cond.constantLong "Exactdoubles$Form" (38 : Nat) (-1 : Int64)) ∈ ky_B := ky_mem (kc_1 _ (List.mem_of_getElem? (i := 134) rfl)) (by decide +kernel)
theorem kw_1_128 : (Jvm.Cond.methodLink "Exactdoubles$Form" (40 : Nat) ({ cls := "Exactdoubles$Form", name := "rankIn", desc := "(J)J" } : Jvm.MethodName)) ∈ ky_B := ky_mem (kc_1 _ (List.mem_of_getElem? (i := 128) rfl)) (by decide +kernel)
theorem kw_1_129 : (Jvm.Cond.static ({ cls := "Exactdoubles$Form", name := "rankIn", desc := "(J)J" } : Jvm.MethodName)) ∈ ky_B := ky_mem (kc_1 _ (List.mem_of_getElem? (i := 129) rfl)) (by decide +kernel)
theorem kw_1_130 : (Jvm.Cond.code ({ cls := "Exactdoubles$Form", name := "rankIn", desc := "(J)J" } : Jvm.MethodName) prog_2_method_16_code (2 : Nat) (Option.some Jvm.ClassFile.FieldType.long)) ∈ ky_B := ky_mem (kc_1 _ (List.mem_of_getElem? (i := 130) rfl)) (by decide +kernel)
theorem kw_3_119 : (Jvm.Cond.constantLong "Exactdoubles$Scale" (48 : Nat) (4503599627370496 : Int64)) ∈ ky_B := ky_mem (kc_3 _ (List.mem_of_getElem? (i := 119) rfl)) (by decide +kernel)
theorem kw_3_118 : (Jvm.Cond.constantLong "Exactdoubles$Scale" (46 : Nat) (9218868437227405312 : Int64)) ∈ ky_B := ky_mem (kc_3 _ (List.mem_of_getElem? (i := 118) rfl)) (by decide +kernel)
theorem kw_3_114 : (Jvm.Cond.methodLink "Exactdoubles$Scale" (19 : Nat) ({ cls := "java/lang/Math", name := "min", desc := "(II)I" } : Jvm.MethodName)) ∈ ky_B := ky_mem (kc_3 _ (List.mem_of_getElem? (i := 114) rfl)) (by decide +kernel)
theorem kw_3_115 : (Jvm.Cond.methodLink "Exactdoubles$Scale" (43 : Nat) ({ cls := "Exactdoubles$Scale", name := "halvedOften", desc := "(JI)J" } : Jvm.MethodName)) ∈ ky_B := ky_mem (kc_3 _ (List.mem_of_getElem? (i := 115) rfl)) (by decide +kernel)
theorem kw_3_116 : (Jvm.Cond.static ({ cls := "Exactdoubles$Scale", name := "halvedOften", desc := "(JI)J" } : Jvm.MethodName)) ∈ ky_B := ky_mem (kc_3 _ (List.mem_of_getElem? (i := 116) rfl)) (by decide +kernel)
theorem kw_1_17 : (Jvm.Cond.initialized "Exactdoubles$Scale") ∈ ky_B := ky_mem (kc_1 _ (List.mem_of_getElem? (i := 17) rfl)) (by decide +kernel)
theorem kw_3_117 : (Jvm.Cond.code ({ cls := "Exactdoubles$Scale", name := "halvedOften", desc := "(JI)J" } : Jvm.MethodName) prog_4_method_4_code (10 : Nat) (Option.some Jvm.ClassFile.FieldType.long)) ∈ ky_B := ky_mem (kc_3 _ (List.mem_of_getElem? (i := 117) rfl)) (by decide +kernel)
theorem kw_3_184 : (Jvm.Cond.methodLink "Exactdoubles$Scale" (7 : Nat) ({ cls := "Exactdoubles$Form", name := "sizeIn", desc := "(J)J" } : Jvm.MethodName)) ∈ ky_B := ky_mem (kc_3 _ (List.mem_of_getElem? (i := 184) rfl)) (by decide +kernel)
theorem kw_3_185 : (Jvm.Cond.methodLink "Exactdoubles$Scale" (13 : Nat) ({ cls := "Exactdoubles$Form", name := "isEndlessOne", desc := "(J)Z" } : Jvm.MethodName)) ∈ ky_B := ky_mem (kc_3 _ (List.mem_of_getElem? (i := 185) rfl)) (by decide +kernel)
theorem kw_3_186 : (Jvm.Cond.methodLink "Exactdoubles$Scale" (25 : Nat) ({ cls := "java/lang/Math", name := "max", desc := "(II)I" } : Jvm.MethodName)) ∈ ky_B := ky_mem (kc_3 _ (List.mem_of_getElem? (i := 186) rfl)) (by decide +kernel)
theorem kw_3_187 : (Jvm.Cond.methodLink "Exactdoubles$Scale" (28 : Nat) ({ cls := "Exactdoubles$Form", name := "factorIn", desc := "(J)J" } : Jvm.MethodName)) ∈ ky_B := ky_mem (kc_3 _ (List.mem_of_getElem? (i := 187) rfl)) (by decide +kernel)
theorem kw_3_188 : (Jvm.Cond.methodLink "Exactdoubles$Scale" (31 : Nat) ({ cls := "Exactdoubles$Form", name := "powerIn", desc := "(J)I" } : Jvm.MethodName)) ∈ ky_B := ky_mem (kc_3 _ (List.mem_of_getElem? (i := 188) rfl)) (by decide +kernel)
theorem kw_3_50 : (Jvm.Cond.static ({ cls := "Exactdoubles$Form", name := "powerIn", desc := "(J)I" } : Jvm.MethodName)) ∈ ky_B := ky_mem (kc_3 _ (List.mem_of_getElem? (i := 50) rfl)) (by decide +kernel)
theorem kw_3_51 : (Jvm.Cond.code ({ cls := "Exactdoubles$Form", name := "powerIn", desc := "(J)I" } : Jvm.MethodName) prog_2_method_20_code (2 : Nat) (Option.some Jvm.ClassFile.FieldType.int)) ∈ ky_B := ky_mem (kc_3 _ (List.mem_of_getElem? (i := 51) rfl)) (by decide +kernel)
theorem kw_3_189 : (Jvm.Cond.methodLink "Exactdoubles$Scale" (35 : Nat) ({ cls := "Exactdoubles$Scale", name := "nearestTo", desc := "(JI)J" } : Jvm.MethodName)) ∈ ky_B := ky_mem (kc_3 _ (List.mem_of_getElem? (i := 189) rfl)) (by decide +kernel)
theorem kw_3_112 : (Jvm.Cond.static ({ cls := "Exactdoubles$Scale", name := "nearestTo", desc := "(JI)J" } : Jvm.MethodName)) ∈ ky_B := ky_mem (kc_3 _ (List.mem_of_getElem? (i := 112) rfl)) (by decide +kernel)
theorem kw_3_113 : (Jvm.Cond.code ({ cls := "Exactdoubles$Scale", name := "nearestTo", desc := "(JI)J" } : Jvm.MethodName) prog_4_method_3_code (7 : Nat) (Option.some Jvm.ClassFile.FieldType.long)) ∈ ky_B := ky_mem (kc_3 _ (List.mem_of_getElem? (i := 113) rfl)) (by decide +kernel)
theorem kw_3_190 : (Jvm.Cond.methodLink "Exactdoubles$Scale" (39 : Nat) ({ cls := "Exactdoubles$Form", name := "joined", desc := "(JJ)J" } : Jvm.MethodName)) ∈ ky_B := ky_mem (kc_3 _ (List.mem_of_getElem? (i := 190) rfl)) (by decide +kernel)
theorem kw_3_121 : (Jvm.Cond.static ({ cls := "Exactdoubles$Form", name := "joined", desc := "(JJ)J" } : Jvm.MethodName)) ∈ ky_B := ky_mem (kc_3 _ (List.mem_of_getElem? (i := 121) rfl)) (by decide +kernel)
theorem kw_3_122 : (Jvm.Cond.code ({ cls := "Exactdoubles$Form", name := "joined", desc := "(JJ)J" } : Jvm.MethodName) prog_2_method_3_code (4 : Nat) (Option.some Jvm.ClassFile.FieldType.long)) ∈ ky_B := ky_mem (kc_3 _ (List.mem_of_getElem? (i := 122) rfl)) (by decide +kernel)
theorem kw_3_111 : (Jvm.Cond.methodLink "Exactdoubles$Take" (39 : Nat) ({ cls := "Exactdoubles$Scale", name := "nearestTo", desc := "(JI)J" } : Jvm.MethodName)) ∈ ky_B := ky_mem (kc_3 _ (List.mem_of_getElem? (i := 111) rfl)) (by decide +kernel)
theorem kw_3_120 : (Jvm.Cond.methodLink "Exactdoubles$Take" (42 : Nat) ({ cls := "Exactdoubles$Form", name := "joined", desc := "(JJ)J" } : Jvm.MethodName)) ∈ ky_B := ky_mem (kc_3 _ (List.mem_of_getElem? (i := 120) rfl)) (by decide +kernel)
theorem kw_3_96 : (Jvm.Cond.methodLink "Exactdoubles$Take" (7 : Nat) ({ cls := "Exactdoubles$Form", name := "restIn", desc := "(J)J" } : Jvm.MethodName)) ∈ ky_B := ky_mem (kc_3 _ (List.mem_of_getElem? (i := 96) rfl)) (by decide +kernel)
theorem kw_3_104 : (Jvm.Cond.methodLink "Exactdoubles$Take" (13 : Nat) ({ cls := "Exactdoubles$Form", name := "aheadIn", desc := "(J)J" } : Jvm.MethodName)) ∈ ky_B := ky_mem (kc_3 _ (List.mem_of_getElem? (i := 104) rfl)) (by decide +kernel)
theorem kw_3_105 : (Jvm.Cond.static ({ cls := "Exactdoubles$Form", name := "aheadIn", desc := "(J)J" } : Jvm.MethodName)) ∈ ky_B := ky_mem (kc_3 _ (List.mem_of_getElem? (i := 105) rfl)) (by decide +kernel)
theorem kw_3_106 : (Jvm.Cond.code ({ cls := "Exactdoubles$Form", name := "aheadIn", desc := "(J)J" } : Jvm.MethodName) prog_2_method_22_code (2 : Nat) (Option.some Jvm.ClassFile.FieldType.long)) ∈ ky_B := ky_mem (kc_3 _ (List.mem_of_getElem? (i := 106) rfl)) (by decide +kernel)
theorem kw_3_107 : (Jvm.Cond.methodLink "Exactdoubles$Take" (16 : Nat) ({ cls := "Exactdoubles$Form", name := "isDownOne", desc := "(J)Z" } : Jvm.MethodName)) ∈ ky_B := ky_mem (kc_3 _ (List.mem_of_getElem? (i := 107) rfl)) (by decide +kernel)
theorem kw_3_108 : (Jvm.Cond.methodLink "Exactdoubles$Take" (20 : Nat) ({ cls := "Exactdoubles$Take", name := "wholeLike", desc := "(JJ)J" } : Jvm.MethodName)) ∈ ky_B := ky_mem (kc_3 _ (List.mem_of_getElem? (i := 108) rfl)) (by decide +kernel)
theorem kw_3_109 : (Jvm.Cond.static ({ cls := "Exactdoubles$Take", name := "wholeLike", desc := "(JJ)J" } : Jvm.MethodName)) ∈ ky_B := ky_mem (kc_3 _ (List.mem_of_getElem? (i := 109) rfl)) (by decide +kernel)
theorem kw_1_19 : (Jvm.Cond.initialized "Exactdoubles$Take") ∈ ky_B := ky_mem (kc_1 _ (List.mem_of_getElem? (i := 19) rfl)) (by decide +kernel)
theorem kw_3_110 : (Jvm.Cond.code ({ cls := "Exactdoubles$Take", name := "wholeLike", desc := "(JJ)J" } : Jvm.MethodName) prog_6_method_5_code (4 : Nat) (Option.some Jvm.ClassFile.FieldType.long)) ∈ ky_B := ky_mem (kc_3 _ (List.mem_of_getElem? (i := 110) rfl)) (by decide +kernel)
theorem kw_3_139 : (Jvm.Cond.methodLink "Exactdoubles$Take" (26 : Nat) ({ cls := "Exactdoubles$Form", name := "factorIn", desc := "(J)J" } : Jvm.MethodName)) ∈ ky_B := ky_mem (kc_3 _ (List.mem_of_getElem? (i := 139) rfl)) (by decide +kernel)
theorem kw_3_140 : (Jvm.Cond.methodLink "Exactdoubles$Take" (29 : Nat) ({ cls := "Exactdoubles$Form", name := "behindIn", desc := "(J)I" } : Jvm.MethodName)) ∈ ky_B := ky_mem (kc_3 _ (List.mem_of_getElem? (i := 140) rfl)) (by decide +kernel)
theorem kw_3_141 : (Jvm.Cond.methodLink "Exactdoubles$Take" (33 : Nat) ({ cls := "Exactdoubles$Scale", name := "halvedOften", desc := "(JI)J" } : Jvm.MethodName)) ∈ ky_B := ky_mem (kc_3 _ (List.mem_of_getElem? (i := 141) rfl)) (by decide +kernel)
theorem kw_3_152 : (Jvm.Cond.methodLink "Exactdoubles$Take" (45 : Nat) ({ cls := "Exactdoubles$Form", name := "sizeIn", desc := "(J)J" } : Jvm.MethodName)) ∈ ky_B := ky_mem (kc_3 _ (List.mem_of_getElem? (i := 152) rfl)) (by decide +kernel)
theorem kw_3_180 : (Jvm.Cond.constantLong "Exactdoubles$Take" (48 : Nat) (4607182418800017408 : Int64)) ∈ ky_B := ky_mem (kc_3 _ (List.mem_of_getElem? (i := 180) rfl)) (by decide +kernel)
theorem kw_3_151 : (Jvm.Cond.constantLong "Exactdoubles$Take" (50 : Nat) (9218868437227405312 : Int64)) ∈ ky_B := ky_mem (kc_3 _ (List.mem_of_getElem? (i := 151) rfl)) (by decide +kernel)
theorem kw_3_156 : (Jvm.Cond.constantLong "Exactdoubles$Take" (52 : Nat) (-4503599627370496 : Int64)) ∈ ky_B := ky_mem (kc_3 _ (List.mem_of_getElem? (i := 156) rfl)) (by decide +kernel)
theorem kw_3_157 : (Jvm.Cond.constantLong "Exactdoubles$Take" (54 : Nat) (-9223372036854775807 : Int64)) ∈ ky_B := ky_mem (kc_3 _ (List.mem_of_getElem? (i := 157) rfl)) (by decide +kernel)
theorem kw_3_171 : (Jvm.Cond.methodLink "Exactdoubles$Take" (62 : Nat) ({ cls := "Exactdoubles$Form", name := "isEndlessOne", desc := "(J)Z" } : Jvm.MethodName)) ∈ ky_B := ky_mem (kc_3 _ (List.mem_of_getElem? (i := 171) rfl)) (by decide +kernel)
theorem kw_3_172 : (Jvm.Cond.methodLink "Exactdoubles$Take" (65 : Nat) ({ cls := "Exactdoubles$Form", name := "powerIn", desc := "(J)I" } : Jvm.MethodName)) ∈ ky_B := ky_mem (kc_3 _ (List.mem_of_getElem? (i := 172) rfl)) (by decide +kernel)
theorem kw_5_57 : (Jvm.Cond.methodLink "Exactdoubles$Take" (59 : Nat) ({ cls := "Exactdoubles$Take", name := "downFrom", desc := "(J)J" } : Jvm.MethodName)) ∈ ky_B := ky_mem (kc_5 _ (List.mem_of_getElem? (i := 57) rfl)) (by decide +kernel)
theorem kw_3_154 : (Jvm.Cond.static ({ cls := "Exactdoubles$Take", name := "downFrom", desc := "(J)J" } : Jvm.MethodName)) ∈ ky_B := ky_mem (kc_3 _ (List.mem_of_getElem? (i := 154) rfl)) (by decide +kernel)
theorem kw_3_155 : (Jvm.Cond.code ({ cls := "Exactdoubles$Take", name := "downFrom", desc := "(J)J" } : Jvm.MethodName) prog_6_method_8_code (2 : Nat) (Option.some Jvm.ClassFile.FieldType.long)) ∈ ky_B := ky_mem (kc_3 _ (List.mem_of_getElem? (i := 155) rfl)) (by decide +kernel)
theorem kw_5_56 : (Jvm.Cond.methodLink "Exactdoubles$Take" (56 : Nat) ({ cls := "Exactdoubles$Take", name := "upFrom", desc := "(J)J" } : Jvm.MethodName)) ∈ ky_B := ky_mem (kc_5 _ (List.mem_of_getElem? (i := 56) rfl)) (by decide +kernel)
theorem kw_3_149 : (Jvm.Cond.static ({ cls := "Exactdoubles$Take", name := "upFrom", desc := "(J)J" } : Jvm.MethodName)) ∈ ky_B := ky_mem (kc_3 _ (List.mem_of_getElem? (i := 149) rfl)) (by decide +kernel)
theorem kw_3_150 : (Jvm.Cond.code ({ cls := "Exactdoubles$Take", name := "upFrom", desc := "(J)J" } : Jvm.MethodName) prog_6_method_7_code (2 : Nat) (Option.some Jvm.ClassFile.FieldType.long)) ∈ ky_B := ky_mem (kc_3 _ (List.mem_of_getElem? (i := 150) rfl)) (by decide +kernel)
theorem kw_3_198 : (Jvm.Cond.methodLink "Exactdoubles$Whole" (7 : Nat) ({ cls := "Exactdoubles$Form", name := "powerIn", desc := "(J)I" } : Jvm.MethodName)) ∈ ky_B := ky_mem (kc_3 _ (List.mem_of_getElem? (i := 198) rfl)) (by decide +kernel)
theorem kw_3_202 : (Jvm.Cond.methodLink "Exactdoubles$Whole" (23 : Nat) ({ cls := "Exactdoubles$Form", name := "factorIn", desc := "(J)J" } : Jvm.MethodName)) ∈ ky_B := ky_mem (kc_3 _ (List.mem_of_getElem? (i := 202) rfl)) (by decide +kernel)
theorem kw_3_194 : (Jvm.Cond.methodLink "Exactdoubles$Whole" (27 : Nat) ({ cls := "Exactdoubles$Form", name := "behindIn", desc := "(J)I" } : Jvm.MethodName)) ∈ ky_B := ky_mem (kc_3 _ (List.mem_of_getElem? (i := 194) rfl)) (by decide +kernel)
theorem kw_3_199 : (Jvm.Cond.methodLink "Exactdoubles$Whole" (15 : Nat) ({ cls := "Exactdoubles$Form", name := "isDownOne", desc := "(J)Z" } : Jvm.MethodName)) ∈ ky_B := ky_mem (kc_3 _ (List.mem_of_getElem? (i := 199) rfl)) (by decide +kernel)
theorem kw_3_201 : (Jvm.Cond.constantLong "Exactdoubles$Whole" (21 : Nat) (9223372036854775807 : Int64)) ∈ ky_B := ky_mem (kc_3 _ (List.mem_of_getElem? (i := 201) rfl)) (by decide +kernel)
theorem kw_3_200 : (Jvm.Cond.constantLong "Exactdoubles$Whole" (19 : Nat) (-9223372036854775808 : Int64)) ∈ ky_B := ky_mem (kc_3 _ (List.mem_of_getElem? (i := 200) rfl)) (by decide +kernel)
theorem kw_3_203 : (Jvm.Cond.methodLink "Exactdoubles$Whole" (33 : Nat) ({ cls := "Exactdoubles$Form", name := "restIn", desc := "(J)J" } : Jvm.MethodName)) ∈ ky_B := ky_mem (kc_3 _ (List.mem_of_getElem? (i := 203) rfl)) (by decide +kernel)
theorem kw_3_195 : (Jvm.Cond.methodLink "Exactdoubles$Whole" (30 : Nat) ({ cls := "Exactdoubles$Whole", name := "cutFrom", desc := "(J)J" } : Jvm.MethodName)) ∈ ky_B := ky_mem (kc_3 _ (List.mem_of_getElem? (i := 195) rfl)) (by decide +kernel)
theorem kw_3_196 : (Jvm.Cond.static ({ cls := "Exactdoubles$Whole", name := "cutFrom", desc := "(J)J" } : Jvm.MethodName)) ∈ ky_B := ky_mem (kc_3 _ (List.mem_of_getElem? (i := 196) rfl)) (by decide +kernel)
theorem kw_1_29 : (Jvm.Cond.initialized "Exactdoubles$Whole") ∈ ky_B := ky_mem (kc_1 _ (List.mem_of_getElem? (i := 29) rfl)) (by decide +kernel)
theorem kw_3_197 : (Jvm.Cond.code ({ cls := "Exactdoubles$Whole", name := "cutFrom", desc := "(J)J" } : Jvm.MethodName) prog_7_method_2_code (7 : Nat) (Option.some Jvm.ClassFile.FieldType.long)) ∈ ky_B := ky_mem (kc_3 _ (List.mem_of_getElem? (i := 197) rfl)) (by decide +kernel)
theorem kw_4_29 : (Jvm.Cond.constantLong "Exactdoubles$Whole" (36 : Nat) (-2147483648 : Int64)) ∈ ky_B := ky_mem (kc_4 _ (List.mem_of_getElem? (i := 29) rfl)) (by decide +kernel)
theorem kw_4_30 : (Jvm.Cond.constantLong "Exactdoubles$Whole" (38 : Nat) (2147483647 : Int64)) ∈ ky_B := ky_mem (kc_4 _ (List.mem_of_getElem? (i := 30) rfl)) (by decide +kernel)
theorem kw_4_31 : (Jvm.Cond.methodLink "Exactdoubles$Whole" (40 : Nat) ({ cls := "java/lang/Math", name := "min", desc := "(JJ)J" } : Jvm.MethodName)) ∈ ky_B := ky_mem (kc_4 _ (List.mem_of_getElem? (i := 31) rfl)) (by decide +kernel)
theorem kw_4_32 : (Jvm.Cond.static ({ cls := "java/lang/Math", name := "min", desc := "(JJ)J" } : Jvm.MethodName)) ∈ ky_B := ky_mem (kc_4 _ (List.mem_of_getElem? (i := 32) rfl)) (by decide +kernel)
theorem kw_4_33 : (Jvm.Cond.code ({ cls := "java/lang/Math", name := "min", desc := "(JJ)J" } : Jvm.MethodName) prog_20_method_70_code (4 : Nat) (Option.some Jvm.ClassFile.FieldType.long)) ∈ ky_B := ky_mem (kc_4 _ (List.mem_of_getElem? (i := 33) rfl)) (by decide +kernel)
theorem kw_4_34 : (Jvm.Cond.methodLink "Exactdoubles$Whole" (46 : Nat) ({ cls := "java/lang/Math", name := "max", desc := "(JJ)J" } : Jvm.MethodName)) ∈ ky_B := ky_mem (kc_4 _ (List.mem_of_getElem? (i := 34) rfl)) (by decide +kernel)
theorem kw_4_35 : (Jvm.Cond.static ({ cls := "java/lang/Math", name := "max", desc := "(JJ)J" } : Jvm.MethodName)) ∈ ky_B := ky_mem (kc_4 _ (List.mem_of_getElem? (i := 35) rfl)) (by decide +kernel)
theorem kw_4_36 : (Jvm.Cond.code ({ cls := "java/lang/Math", name := "max", desc := "(JJ)J" } : Jvm.MethodName) prog_20_method_66_code (4 : Nat) (Option.some Jvm.ClassFile.FieldType.long)) ∈ ky_B := ky_mem (kc_4 _ (List.mem_of_getElem? (i := 36) rfl)) (by decide +kernel)
theorem ks_X0_11 : ky_wS "Exactdoubles$Form" 11 my_X0_sizeIn prog_2_method_5_code 2 (Option.some Jvm.ClassFile.FieldType.long) 1 := ⟨kw_1_135, kw_1_136, kw_1_15, kw_1_137, by decide, by decide, by decide +kernel⟩
theorem ks_X0_19 : ky_wS "Exactdoubles$Form" 19 my_X0_isDownOne prog_2_method_6_code 2 (Option.some Jvm.ClassFile.FieldType.boolean) 1 := ⟨kw_1_131, kw_1_132, kw_1_15, kw_1_133, by decide, by decide, by decide +kernel⟩
theorem ks_X0_23 : ky_wS "Exactdoubles$Form" 23 my_X0_highIn prog_2_method_7_code 2 (Option.some Jvm.ClassFile.FieldType.int) 1 := ⟨kw_3_41, kw_3_42, kw_1_15, kw_3_43, by decide, by decide, by decide +kernel⟩
theorem ks_X0_27 : ky_wS "Exactdoubles$Form" 27 my_X0_lowIn prog_2_method_8_code 2 (Option.some Jvm.ClassFile.FieldType.long) 1 := ⟨kw_3_44, kw_3_45, kw_1_15, kw_3_46, by decide, by decide, by decide +kernel⟩
theorem ks_X0_54 : ky_wS "Exactdoubles$Form" 54 my_X0_factorIn prog_2_method_19_code 2 (Option.some Jvm.ClassFile.FieldType.long) 1 := ⟨kw_3_99, kw_3_39, kw_1_15, kw_3_40, by decide, by decide, by decide +kernel⟩
theorem ks_X0_57 : ky_wS "Exactdoubles$Form" 57 my_X0_behindIn prog_2_method_21_code 2 (Option.some Jvm.ClassFile.FieldType.int) 1 := ⟨kw_3_100, kw_3_101, kw_1_15, kw_3_102, by decide, by decide, by decide +kernel⟩
theorem ks_X0_32 : ky_wS "Exactdoubles$Form" 32 my_X0_restIn prog_2_method_23_code 2 (Option.some Jvm.ClassFile.FieldType.long) 1 := ⟨kw_3_231, kw_3_97, kw_1_15, kw_3_98, by decide, by decide, by decide +kernel⟩
theorem ks_X0_35 : ky_wS "Exactdoubles$Form" 35 my_X0_isEndlessOne prog_2_method_12_code 2 (Option.some Jvm.ClassFile.FieldType.boolean) 1 := ⟨kw_3_232, kw_3_35, kw_1_15, kw_3_36, by decide, by decide, by decide +kernel⟩
theorem ks_X0_40 : ky_wS "Exactdoubles$Form" 40 my_X0_rankIn prog_2_method_16_code 2 (Option.some Jvm.ClassFile.FieldType.long) 1 := ⟨kw_1_128, kw_1_129, kw_1_15, kw_1_130, by decide, by decide, by decide +kernel⟩
theorem ks_X2_43 : ky_wS "Exactdoubles$Scale" 43 my_X2_halvedOften prog_4_method_4_code 10 (Option.some Jvm.ClassFile.FieldType.long) 2 := ⟨kw_3_115, kw_3_116, kw_1_17, kw_3_117, by decide, by decide, by decide +kernel⟩
theorem ks_X2_7 : ky_wS "Exactdoubles$Scale" 7 my_X0_sizeIn prog_2_method_5_code 2 (Option.some Jvm.ClassFile.FieldType.long) 1 := ⟨kw_3_184, kw_1_136, kw_1_15, kw_1_137, by decide, by decide, by decide +kernel⟩
theorem ks_X2_13 : ky_wS "Exactdoubles$Scale" 13 my_X0_isEndlessOne prog_2_method_12_code 2 (Option.some Jvm.ClassFile.FieldType.boolean) 1 := ⟨kw_3_185, kw_3_35, kw_1_15, kw_3_36, by decide, by decide, by decide +kernel⟩
theorem ks_X2_28 : ky_wS "Exactdoubles$Scale" 28 my_X0_factorIn prog_2_method_19_code 2 (Option.some Jvm.ClassFile.FieldType.long) 1 := ⟨kw_3_187, kw_3_39, kw_1_15, kw_3_40, by decide, by decide, by decide +kernel⟩
theorem ks_X2_31 : ky_wS "Exactdoubles$Scale" 31 my_X0_powerIn prog_2_method_20_code 2 (Option.some Jvm.ClassFile.FieldType.int) 1 := ⟨kw_3_188, kw_3_50, kw_1_15, kw_3_51, by decide, by decide, by decide +kernel⟩
theorem ks_X2_35 : ky_wS "Exactdoubles$Scale" 35 my_X2_nearestTo prog_4_method_3_code 7 (Option.some Jvm.ClassFile.FieldType.long) 2 := ⟨kw_3_189, kw_3_112, kw_1_17, kw_3_113, by decide, by decide, by decide +kernel⟩
theorem ks_X2_39 : ky_wS "Exactdoubles$Scale" 39 my_X0_joined prog_2_method_3_code 4 (Option.some Jvm.ClassFile.FieldType.long) 2 := ⟨kw_3_190, kw_3_121, kw_1_15, kw_3_122, by decide, by decide, by decide +kernel⟩
theorem ks_X4_39 : ky_wS "Exactdoubles$Take" 39 my_X2_nearestTo prog_4_method_3_code 7 (Option.some Jvm.ClassFile.FieldType.long) 2 := ⟨kw_3_111, kw_3_112, kw_1_17, kw_3_113, by decide, by decide, by decide +kernel⟩
theorem ks_X4_42 : ky_wS "Exactdoubles$Take" 42 my_X0_joined prog_2_method_3_code 4 (Option.some Jvm.ClassFile.FieldType.long) 2 := ⟨kw_3_120, kw_3_121, kw_1_15, kw_3_122, by decide, by decide, by decide +kernel⟩
theorem ks_X4_7 : ky_wS "Exactdoubles$Take" 7 my_X0_restIn prog_2_method_23_code 2 (Option.some Jvm.ClassFile.FieldType.long) 1 := ⟨kw_3_96, kw_3_97, kw_1_15, kw_3_98, by decide, by decide, by decide +kernel⟩
theorem ks_X4_13 : ky_wS "Exactdoubles$Take" 13 my_X0_aheadIn prog_2_method_22_code 2 (Option.some Jvm.ClassFile.FieldType.long) 1 := ⟨kw_3_104, kw_3_105, kw_1_15, kw_3_106, by decide, by decide, by decide +kernel⟩
theorem ks_X4_16 : ky_wS "Exactdoubles$Take" 16 my_X0_isDownOne prog_2_method_6_code 2 (Option.some Jvm.ClassFile.FieldType.boolean) 1 := ⟨kw_3_107, kw_1_132, kw_1_15, kw_1_133, by decide, by decide, by decide +kernel⟩
theorem ks_X4_20 : ky_wS "Exactdoubles$Take" 20 my_X4_wholeLike prog_6_method_5_code 4 (Option.some Jvm.ClassFile.FieldType.long) 2 := ⟨kw_3_108, kw_3_109, kw_1_19, kw_3_110, by decide, by decide, by decide +kernel⟩
theorem ks_X4_26 : ky_wS "Exactdoubles$Take" 26 my_X0_factorIn prog_2_method_19_code 2 (Option.some Jvm.ClassFile.FieldType.long) 1 := ⟨kw_3_139, kw_3_39, kw_1_15, kw_3_40, by decide, by decide, by decide +kernel⟩
theorem ks_X4_29 : ky_wS "Exactdoubles$Take" 29 my_X0_behindIn prog_2_method_21_code 2 (Option.some Jvm.ClassFile.FieldType.int) 1 := ⟨kw_3_140, kw_3_101, kw_1_15, kw_3_102, by decide, by decide, by decide +kernel⟩
theorem ks_X4_33 : ky_wS "Exactdoubles$Take" 33 my_X2_halvedOften prog_4_method_4_code 10 (Option.some Jvm.ClassFile.FieldType.long) 2 := ⟨kw_3_141, kw_3_116, kw_1_17, kw_3_117, by decide, by decide, by decide +kernel⟩
theorem ks_X4_45 : ky_wS "Exactdoubles$Take" 45 my_X0_sizeIn prog_2_method_5_code 2 (Option.some Jvm.ClassFile.FieldType.long) 1 := ⟨kw_3_152, kw_1_136, kw_1_15, kw_1_137, by decide, by decide, by decide +kernel⟩
theorem ks_X4_62 : ky_wS "Exactdoubles$Take" 62 my_X0_isEndlessOne prog_2_method_12_code 2 (Option.some Jvm.ClassFile.FieldType.boolean) 1 := ⟨kw_3_171, kw_3_35, kw_1_15, kw_3_36, by decide, by decide, by decide +kernel⟩
theorem ks_X4_65 : ky_wS "Exactdoubles$Take" 65 my_X0_powerIn prog_2_method_20_code 2 (Option.some Jvm.ClassFile.FieldType.int) 1 := ⟨kw_3_172, kw_3_50, kw_1_15, kw_3_51, by decide, by decide, by decide +kernel⟩
theorem ks_X4_59 : ky_wS "Exactdoubles$Take" 59 my_X4_downFrom prog_6_method_8_code 2 (Option.some Jvm.ClassFile.FieldType.long) 1 := ⟨kw_5_57, kw_3_154, kw_1_19, kw_3_155, by decide, by decide, by decide +kernel⟩
theorem ks_X4_56 : ky_wS "Exactdoubles$Take" 56 my_X4_upFrom prog_6_method_7_code 2 (Option.some Jvm.ClassFile.FieldType.long) 1 := ⟨kw_5_56, kw_3_149, kw_1_19, kw_3_150, by decide, by decide, by decide +kernel⟩
theorem ks_X5_7 : ky_wS "Exactdoubles$Whole" 7 my_X0_powerIn prog_2_method_20_code 2 (Option.some Jvm.ClassFile.FieldType.int) 1 := ⟨kw_3_198, kw_3_50, kw_1_15, kw_3_51, by decide, by decide, by decide +kernel⟩
theorem ks_X5_23 : ky_wS "Exactdoubles$Whole" 23 my_X0_factorIn prog_2_method_19_code 2 (Option.some Jvm.ClassFile.FieldType.long) 1 := ⟨kw_3_202, kw_3_39, kw_1_15, kw_3_40, by decide, by decide, by decide +kernel⟩
theorem ks_X5_27 : ky_wS "Exactdoubles$Whole" 27 my_X0_behindIn prog_2_method_21_code 2 (Option.some Jvm.ClassFile.FieldType.int) 1 := ⟨kw_3_194, kw_3_101, kw_1_15, kw_3_102, by decide, by decide, by decide +kernel⟩
theorem ks_X5_15 : ky_wS "Exactdoubles$Whole" 15 my_X0_isDownOne prog_2_method_6_code 2 (Option.some Jvm.ClassFile.FieldType.boolean) 1 := ⟨kw_3_199, kw_1_132, kw_1_15, kw_1_133, by decide, by decide, by decide +kernel⟩
theorem ks_X5_33 : ky_wS "Exactdoubles$Whole" 33 my_X0_restIn prog_2_method_23_code 2 (Option.some Jvm.ClassFile.FieldType.long) 1 := ⟨kw_3_203, kw_3_97, kw_1_15, kw_3_98, by decide, by decide, by decide +kernel⟩
theorem ks_X5_30 : ky_wS "Exactdoubles$Whole" 30 my_X5_cutFrom prog_7_method_2_code 7 (Option.some Jvm.ClassFile.FieldType.long) 1 := ⟨kw_3_195, kw_3_196, kw_1_29, kw_3_197, by decide, by decide, by decide +kernel⟩
theorem dc_X0_sizeIn_0 : decode prog_2_method_5_code 0 = .ok (.lload_n 0, 1) := by decide +kernel
theorem dc_X0_sizeIn_1 : decode prog_2_method_5_code 1 = .ok (.ldc2_w 15, 3) := by decide +kernel
theorem dc_X0_sizeIn_4 : decode prog_2_method_5_code 4 = .ok (.land, 1) := by decide +kernel
theorem dc_X0_sizeIn_5 : decode prog_2_method_5_code 5 = .ok (.lreturn, 1) := by decide +kernel
theorem dc_X0_withSide_0 : decode prog_2_method_2_code 0 = .ok (.iload_n 2, 1) := by decide +kernel
theorem dc_X0_withSide_1 : decode prog_2_method_2_code 1 = .ok (.ifCond .eq 11, 3) := by decide +kernel
theorem dc_X0_withSide_12 : decode prog_2_method_2_code 12 = .ok (.lload_n 0, 1) := by decide +kernel
theorem dc_X0_withSide_13 : decode prog_2_method_2_code 13 = .ok (.lreturn, 1) := by decide +kernel
theorem dc_X0_withSide_4 : decode prog_2_method_2_code 4 = .ok (.lload_n 0, 1) := by decide +kernel
theorem dc_X0_withSide_5 : decode prog_2_method_2_code 5 = .ok (.ldc2_w 9, 3) := by decide +kernel
theorem dc_X0_withSide_8 : decode prog_2_method_2_code 8 = .ok (.lor, 1) := by decide +kernel
theorem dc_X0_withSide_9 : decode prog_2_method_2_code 9 = .ok (.goto 4, 3) := by decide +kernel
theorem dc_X0_joined_0 : decode prog_2_method_3_code 0 = .ok (.lload_n 0, 1) := by decide +kernel
theorem dc_X0_joined_1 : decode prog_2_method_3_code 1 = .ok (.invokestatic 11, 3) := by decide +kernel
theorem dc_X0_joined_4 : decode prog_2_method_3_code 4 = .ok (.lload_n 2, 1) := by decide +kernel
theorem dc_X0_joined_5 : decode prog_2_method_3_code 5 = .ok (.ldc2_w 9, 3) := by decide +kernel
theorem dc_X0_joined_8 : decode prog_2_method_3_code 8 = .ok (.land, 1) := by decide +kernel
theorem dc_X0_joined_9 : decode prog_2_method_3_code 9 = .ok (.lor, 1) := by decide +kernel
theorem dc_X0_joined_10 : decode prog_2_method_3_code 10 = .ok (.lreturn, 1) := by decide +kernel
theorem dc_X0_turned_0 : decode prog_2_method_4_code 0 = .ok (.lload_n 0, 1) := by decide +kernel
theorem dc_X0_turned_1 : decode prog_2_method_4_code 1 = .ok (.ldc2_w 9, 3) := by decide +kernel
theorem dc_X0_turned_4 : decode prog_2_method_4_code 4 = .ok (.lxor, 1) := by decide +kernel
theorem dc_X0_turned_5 : decode prog_2_method_4_code 5 = .ok (.lreturn, 1) := by decide +kernel
theorem dc_X0_isDownOne_0 : decode prog_2_method_6_code 0 = .ok (.lload_n 0, 1) := by decide +kernel
theorem dc_X0_isDownOne_1 : decode prog_2_method_6_code 1 = .ok (.lconst 0, 1) := by decide +kernel
theorem dc_X0_isDownOne_2 : decode prog_2_method_6_code 2 = .ok (.lcmp, 1) := by decide +kernel
theorem dc_X0_isDownOne_3 : decode prog_2_method_6_code 3 = .ok (.ifCond .ge 7, 3) := by decide +kernel
theorem dc_X0_isDownOne_10 : decode prog_2_method_6_code 10 = .ok (.iconst 0, 1) := by decide +kernel
theorem dc_X0_isDownOne_11 : decode prog_2_method_6_code 11 = .ok (.ireturn, 1) := by decide +kernel
theorem dc_X0_isDownOne_6 : decode prog_2_method_6_code 6 = .ok (.iconst 1, 1) := by decide +kernel
theorem dc_X0_isDownOne_7 : decode prog_2_method_6_code 7 = .ok (.goto 4, 3) := by decide +kernel
theorem dc_X0_highIn_0 : decode prog_2_method_7_code 0 = .ok (.lload_n 0, 1) := by decide +kernel
theorem dc_X0_highIn_1 : decode prog_2_method_7_code 1 = .ok (.bipush 52, 2) := by decide +kernel
theorem dc_X0_highIn_3 : decode prog_2_method_7_code 3 = .ok (.lushr, 1) := by decide +kernel
theorem dc_X0_highIn_4 : decode prog_2_method_7_code 4 = .ok (.l2i, 1) := by decide +kernel
theorem dc_X0_highIn_5 : decode prog_2_method_7_code 5 = .ok (.sipush 2047, 3) := by decide +kernel
theorem dc_X0_highIn_8 : decode prog_2_method_7_code 8 = .ok (.iand, 1) := by decide +kernel
theorem dc_X0_highIn_9 : decode prog_2_method_7_code 9 = .ok (.ireturn, 1) := by decide +kernel
theorem dc_X0_lowIn_0 : decode prog_2_method_8_code 0 = .ok (.lload_n 0, 1) := by decide +kernel
theorem dc_X0_lowIn_1 : decode prog_2_method_8_code 1 = .ok (.ldc2_w 17, 3) := by decide +kernel
theorem dc_X0_lowIn_4 : decode prog_2_method_8_code 4 = .ok (.land, 1) := by decide +kernel
theorem dc_X0_lowIn_5 : decode prog_2_method_8_code 5 = .ok (.lreturn, 1) := by decide +kernel
theorem dc_X0_digitsIn_0 : decode prog_2_method_9_code 0 = .ok (.iload_n 2, 1) := by decide +kernel
theorem dc_X0_digitsIn_1 : decode prog_2_method_9_code 1 = .ok (.tableswitch 54 0 2 #[27, 40, 45], 27) := by decide +kernel
theorem dc_X0_digitsIn_28 : decode prog_2_method_9_code 28 = .ok (.lload_n 0, 1) := by decide +kernel
theorem dc_X0_digitsIn_29 : decode prog_2_method_9_code 29 = .ok (.invokestatic 19, 3) := by decide +kernel
theorem dc_X0_digitsIn_32 : decode prog_2_method_9_code 32 = .ok (.ifCond .eq 7, 3) := by decide +kernel
theorem dc_X0_digitsIn_39 : decode prog_2_method_9_code 39 = .ok (.iconst 0, 1) := by decide +kernel
theorem dc_X0_digitsIn_40 : decode prog_2_method_9_code 40 = .ok (.ireturn, 1) := by decide +kernel
theorem dc_X0_digitsIn_35 : decode prog_2_method_9_code 35 = .ok (.iconst 1, 1) := by decide +kernel
theorem dc_X0_digitsIn_36 : decode prog_2_method_9_code 36 = .ok (.goto 4, 3) := by decide +kernel
theorem dc_X0_digitsIn_41 : decode prog_2_method_9_code 41 = .ok (.lload_n 0, 1) := by decide +kernel
theorem dc_X0_digitsIn_42 : decode prog_2_method_9_code 42 = .ok (.invokestatic 23, 3) := by decide +kernel
theorem dc_X0_digitsIn_45 : decode prog_2_method_9_code 45 = .ok (.ireturn, 1) := by decide +kernel
theorem dc_X0_digitsIn_46 : decode prog_2_method_9_code 46 = .ok (.lload_n 0, 1) := by decide +kernel
theorem dc_X0_digitsIn_47 : decode prog_2_method_9_code 47 = .ok (.invokestatic 27, 3) := by decide +kernel
theorem dc_X0_digitsIn_50 : decode prog_2_method_9_code 50 = .ok (.bipush 32, 2) := by decide +kernel
theorem dc_X0_digitsIn_52 : decode prog_2_method_9_code 52 = .ok (.lushr, 1) := by decide +kernel
theorem dc_X0_digitsIn_53 : decode prog_2_method_9_code 53 = .ok (.l2i, 1) := by decide +kernel
theorem dc_X0_digitsIn_54 : decode prog_2_method_9_code 54 = .ok (.ireturn, 1) := by decide +kernel
theorem dc_X0_digitsIn_55 : decode prog_2_method_9_code 55 = .ok (.lload_n 0, 1) := by decide +kernel
theorem dc_X0_digitsIn_56 : decode prog_2_method_9_code 56 = .ok (.invokestatic 27, 3) := by decide +kernel
theorem dc_X0_digitsIn_59 : decode prog_2_method_9_code 59 = .ok (.l2i, 1) := by decide +kernel
theorem dc_X0_digitsIn_60 : decode prog_2_method_9_code 60 = .ok (.ireturn, 1) := by decide +kernel
theorem dc_X0_exponentIn_0 : decode prog_2_method_10_code 0 = .ok (.lload_n 0, 1) := by decide +kernel
theorem dc_X0_exponentIn_1 : decode prog_2_method_10_code 1 = .ok (.invokestatic 23, 3) := by decide +kernel
theorem dc_X0_exponentIn_4 : decode prog_2_method_10_code 4 = .ok (.sipush 1023, 3) := by decide +kernel
theorem dc_X0_exponentIn_7 : decode prog_2_method_10_code 7 = .ok (.isub, 1) := by decide +kernel
theorem dc_X0_exponentIn_8 : decode prog_2_method_10_code 8 = .ok (.ireturn, 1) := by decide +kernel
theorem dc_X0_isNumber_0 : decode prog_2_method_11_code 0 = .ok (.lload_n 0, 1) := by decide +kernel
theorem dc_X0_isNumber_1 : decode prog_2_method_11_code 1 = .ok (.invokestatic 11, 3) := by decide +kernel
theorem dc_X0_isNumber_4 : decode prog_2_method_11_code 4 = .ok (.ldc2_w 30, 3) := by decide +kernel
theorem dc_X0_isNumber_7 : decode prog_2_method_11_code 7 = .ok (.lcmp, 1) := by decide +kernel
theorem dc_X0_isNumber_8 : decode prog_2_method_11_code 8 = .ok (.ifCond .gt 7, 3) := by decide +kernel
theorem dc_X0_isNumber_15 : decode prog_2_method_11_code 15 = .ok (.iconst 0, 1) := by decide +kernel
theorem dc_X0_isNumber_16 : decode prog_2_method_11_code 16 = .ok (.ireturn, 1) := by decide +kernel
theorem dc_X0_isNumber_11 : decode prog_2_method_11_code 11 = .ok (.iconst 1, 1) := by decide +kernel
theorem dc_X0_isNumber_12 : decode prog_2_method_11_code 12 = .ok (.goto 4, 3) := by decide +kernel
theorem dc_X0_isEndlessOne_0 : decode prog_2_method_12_code 0 = .ok (.lload_n 0, 1) := by decide +kernel
theorem dc_X0_isEndlessOne_1 : decode prog_2_method_12_code 1 = .ok (.invokestatic 11, 3) := by decide +kernel
theorem dc_X0_isEndlessOne_4 : decode prog_2_method_12_code 4 = .ok (.ldc2_w 30, 3) := by decide +kernel
theorem dc_X0_isEndlessOne_7 : decode prog_2_method_12_code 7 = .ok (.lcmp, 1) := by decide +kernel
theorem dc_X0_isEndlessOne_8 : decode prog_2_method_12_code 8 = .ok (.ifCond .ne 7, 3) := by decide +kernel
theorem dc_X0_isEndlessOne_15 : decode prog_2_method_12_code 15 = .ok (.iconst 0, 1) := by decide +kernel
theorem dc_X0_isEndlessOne_16 : decode prog_2_method_12_code 16 = .ok (.ireturn, 1) := by decide +kernel
theorem dc_X0_isEndlessOne_11 : decode prog_2_method_12_code 11 = .ok (.iconst 1, 1) := by decide +kernel
theorem dc_X0_isEndlessOne_12 : decode prog_2_method_12_code 12 = .ok (.goto 4, 3) := by decide +kernel
theorem dc_X0_factorIn_0 : decode prog_2_method_19_code 0 = .ok (.lload_n 0, 1) := by decide +kernel
theorem dc_X0_factorIn_1 : decode prog_2_method_19_code 1 = .ok (.invokestatic 23, 3) := by decide +kernel
theorem dc_X0_factorIn_4 : decode prog_2_method_19_code 4 = .ok (.ifCond .ne 10, 3) := by decide +kernel
theorem dc_X0_factorIn_14 : decode prog_2_method_19_code 14 = .ok (.lload_n 0, 1) := by decide +kernel
theorem dc_X0_factorIn_15 : decode prog_2_method_19_code 15 = .ok (.invokestatic 27, 3) := by decide +kernel
theorem dc_X0_factorIn_18 : decode prog_2_method_19_code 18 = .ok (.ldc2_w 43, 3) := by decide +kernel
theorem dc_X0_factorIn_21 : decode prog_2_method_19_code 21 = .ok (.ladd, 1) := by decide +kernel
theorem dc_X0_factorIn_22 : decode prog_2_method_19_code 22 = .ok (.lreturn, 1) := by decide +kernel
theorem dc_X0_factorIn_7 : decode prog_2_method_19_code 7 = .ok (.lload_n 0, 1) := by decide +kernel
theorem dc_X0_factorIn_8 : decode prog_2_method_19_code 8 = .ok (.invokestatic 27, 3) := by decide +kernel
theorem dc_X0_factorIn_11 : decode prog_2_method_19_code 11 = .ok (.goto 11, 3) := by decide +kernel
theorem dc_X0_powerIn_0 : decode prog_2_method_20_code 0 = .ok (.lload_n 0, 1) := by decide +kernel
theorem dc_X0_powerIn_1 : decode prog_2_method_20_code 1 = .ok (.invokestatic 23, 3) := by decide +kernel
theorem dc_X0_powerIn_4 : decode prog_2_method_20_code 4 = .ok (.iconst 1, 1) := by decide +kernel
theorem dc_X0_powerIn_5 : decode prog_2_method_20_code 5 = .ok (.invokestatic 45, 3) := by decide +kernel
theorem dc_X0_powerIn_8 : decode prog_2_method_20_code 8 = .ok (.sipush (-1074), 3) := by decide +kernel
theorem dc_X0_powerIn_11 : decode prog_2_method_20_code 11 = .ok (.iadd, 1) := by decide +kernel
theorem dc_X0_powerIn_12 : decode prog_2_method_20_code 12 = .ok (.iconst 1, 1) := by decide +kernel
theorem dc_X0_powerIn_13 : decode prog_2_method_20_code 13 = .ok (.isub, 1) := by decide +kernel
theorem dc_X0_powerIn_14 : decode prog_2_method_20_code 14 = .ok (.ireturn, 1) := by decide +kernel
theorem dc_X0_behindIn_0 : decode prog_2_method_21_code 0 = .ok (.iconst 0, 1) := by decide +kernel
theorem dc_X0_behindIn_1 : decode prog_2_method_21_code 1 = .ok (.bipush 60, 2) := by decide +kernel
theorem dc_X0_behindIn_3 : decode prog_2_method_21_code 3 = .ok (.sipush 1075, 3) := by decide +kernel
theorem dc_X0_behindIn_6 : decode prog_2_method_21_code 6 = .ok (.lload_n 0, 1) := by decide +kernel
theorem dc_X0_behindIn_7 : decode prog_2_method_21_code 7 = .ok (.invokestatic 23, 3) := by decide +kernel
theorem dc_X0_behindIn_10 : decode prog_2_method_21_code 10 = .ok (.isub, 1) := by decide +kernel
theorem dc_X0_behindIn_11 : decode prog_2_method_21_code 11 = .ok (.invokestatic 51, 3) := by decide +kernel
theorem dc_X0_behindIn_14 : decode prog_2_method_21_code 14 = .ok (.invokestatic 45, 3) := by decide +kernel
theorem dc_X0_behindIn_17 : decode prog_2_method_21_code 17 = .ok (.ireturn, 1) := by decide +kernel
theorem dc_X0_aheadIn_0 : decode prog_2_method_22_code 0 = .ok (.lload_n 0, 1) := by decide +kernel
theorem dc_X0_aheadIn_1 : decode prog_2_method_22_code 1 = .ok (.invokestatic 54, 3) := by decide +kernel
theorem dc_X0_aheadIn_4 : decode prog_2_method_22_code 4 = .ok (.lload_n 0, 1) := by decide +kernel
theorem dc_X0_aheadIn_5 : decode prog_2_method_22_code 5 = .ok (.invokestatic 57, 3) := by decide +kernel
theorem dc_X0_aheadIn_8 : decode prog_2_method_22_code 8 = .ok (.lushr, 1) := by decide +kernel
theorem dc_X0_aheadIn_9 : decode prog_2_method_22_code 9 = .ok (.lreturn, 1) := by decide +kernel
theorem dc_X0_restIn_0 : decode prog_2_method_23_code 0 = .ok (.lload_n 0, 1) := by decide +kernel
theorem dc_X0_restIn_1 : decode prog_2_method_23_code 1 = .ok (.invokestatic 54, 3) := by decide +kernel
theorem dc_X0_restIn_4 : decode prog_2_method_23_code 4 = .ok (.lconst 1, 1) := by decide +kernel
theorem dc_X0_restIn_5 : decode prog_2_method_23_code 5 = .ok (.lload_n 0, 1) := by decide +kernel
theorem dc_X0_restIn_6 : decode prog_2_method_23_code 6 = .ok (.invokestatic 57, 3) := by decide +kernel
theorem dc_X0_restIn_9 : decode prog_2_method_23_code 9 = .ok (.lshl, 1) := by decide +kernel
theorem dc_X0_restIn_10 : decode prog_2_method_23_code 10 = .ok (.lconst 1, 1) := by decide +kernel
theorem dc_X0_restIn_11 : decode prog_2_method_23_code 11 = .ok (.lsub, 1) := by decide +kernel
theorem dc_X0_restIn_12 : decode prog_2_method_23_code 12 = .ok (.land, 1) := by decide +kernel
theorem dc_X0_restIn_13 : decode prog_2_method_23_code 13 = .ok (.lreturn, 1) := by decide +kernel
theorem dc_X0_isWholeOne_0 : decode prog_2_method_13_code 0 = .ok (.lload_n 0, 1) := by decide +kernel
theorem dc_X0_isWholeOne_1 : decode prog_2_method_13_code 1 = .ok (.invokestatic 32, 3) := by decide +kernel
theorem dc_X0_isWholeOne_4 : decode prog_2_method_13_code 4 = .ok (.lconst 0, 1) := by decide +kernel
theorem dc_X0_isWholeOne_5 : decode prog_2_method_13_code 5 = .ok (.lcmp, 1) := by decide +kernel
theorem dc_X0_isWholeOne_6 : decode prog_2_method_13_code 6 = .ok (.ifCond .ne 14, 3) := by decide +kernel
theorem dc_X0_isWholeOne_20 : decode prog_2_method_13_code 20 = .ok (.iconst 0, 1) := by decide +kernel
theorem dc_X0_isWholeOne_21 : decode prog_2_method_13_code 21 = .ok (.ireturn, 1) := by decide +kernel
theorem dc_X0_isWholeOne_9 : decode prog_2_method_13_code 9 = .ok (.lload_n 0, 1) := by decide +kernel
theorem dc_X0_isWholeOne_10 : decode prog_2_method_13_code 10 = .ok (.invokestatic 35, 3) := by decide +kernel
theorem dc_X0_isWholeOne_13 : decode prog_2_method_13_code 13 = .ok (.ifCond .ne 7, 3) := by decide +kernel
theorem dc_X0_isWholeOne_16 : decode prog_2_method_13_code 16 = .ok (.iconst 1, 1) := by decide +kernel
theorem dc_X0_isWholeOne_17 : decode prog_2_method_13_code 17 = .ok (.goto 4, 3) := by decide +kernel
theorem dc_X0_kindIn_0 : decode prog_2_method_14_code 0 = .ok (.lload_n 0, 1) := by decide +kernel
theorem dc_X0_kindIn_1 : decode prog_2_method_14_code 1 = .ok (.invokestatic 11, 3) := by decide +kernel
theorem dc_X0_kindIn_4 : decode prog_2_method_14_code 4 = .ok (.lconst 0, 1) := by decide +kernel
theorem dc_X0_kindIn_5 : decode prog_2_method_14_code 5 = .ok (.lcmp, 1) := by decide +kernel
theorem dc_X0_kindIn_6 : decode prog_2_method_14_code 6 = .ok (.ifCond .ne 5, 3) := by decide +kernel
theorem dc_X0_kindIn_11 : decode prog_2_method_14_code 11 = .ok (.lload_n 0, 1) := by decide +kernel
theorem dc_X0_kindIn_12 : decode prog_2_method_14_code 12 = .ok (.invokestatic 23, 3) := by decide +kernel
theorem dc_X0_kindIn_15 : decode prog_2_method_14_code 15 = .ok (.ifCond .ne 5, 3) := by decide +kernel
theorem dc_X0_kindIn_20 : decode prog_2_method_14_code 20 = .ok (.lload_n 0, 1) := by decide +kernel
theorem dc_X0_kindIn_21 : decode prog_2_method_14_code 21 = .ok (.invokestatic 35, 3) := by decide +kernel
theorem dc_X0_kindIn_24 : decode prog_2_method_14_code 24 = .ok (.ifCond .eq 5, 3) := by decide +kernel
theorem dc_X0_kindIn_29 : decode prog_2_method_14_code 29 = .ok (.lload_n 0, 1) := by decide +kernel
theorem dc_X0_kindIn_30 : decode prog_2_method_14_code 30 = .ok (.invokestatic 32, 3) := by decide +kernel
theorem dc_X0_kindIn_33 : decode prog_2_method_14_code 33 = .ok (.lconst 0, 1) := by decide +kernel
theorem dc_X0_kindIn_34 : decode prog_2_method_14_code 34 = .ok (.lcmp, 1) := by decide +kernel
theorem dc_X0_kindIn_35 : decode prog_2_method_14_code 35 = .ok (.ifCond .ne 7, 3) := by decide +kernel
theorem dc_X0_kindIn_42 : decode prog_2_method_14_code 42 = .ok (.iconst 2, 1) := by decide +kernel
theorem dc_X0_kindIn_43 : decode prog_2_method_14_code 43 = .ok (.ireturn, 1) := by decide +kernel
theorem dc_X0_kindIn_38 : decode prog_2_method_14_code 38 = .ok (.iconst 3, 1) := by decide +kernel
theorem dc_X0_kindIn_39 : decode prog_2_method_14_code 39 = .ok (.goto 4, 3) := by decide +kernel
theorem dc_X0_kindIn_27 : decode prog_2_method_14_code 27 = .ok (.iconst 4, 1) := by decide +kernel
theorem dc_X0_kindIn_28 : decode prog_2_method_14_code 28 = .ok (.ireturn, 1) := by decide +kernel
theorem dc_X0_kindIn_18 : decode prog_2_method_14_code 18 = .ok (.iconst 1, 1) := by decide +kernel
theorem dc_X0_kindIn_19 : decode prog_2_method_14_code 19 = .ok (.ireturn, 1) := by decide +kernel
theorem dc_X0_kindIn_9 : decode prog_2_method_14_code 9 = .ok (.iconst 0, 1) := by decide +kernel
theorem dc_X0_kindIn_10 : decode prog_2_method_14_code 10 = .ok (.ireturn, 1) := by decide +kernel
theorem dc_X0_rungIn_0 : decode prog_2_method_15_code 0 = .ok (.lload_n 0, 1) := by decide +kernel
theorem dc_X0_rungIn_1 : decode prog_2_method_15_code 1 = .ok (.invokestatic 19, 3) := by decide +kernel
theorem dc_X0_rungIn_4 : decode prog_2_method_15_code 4 = .ok (.ifCond .eq 11, 3) := by decide +kernel
theorem dc_X0_rungIn_15 : decode prog_2_method_15_code 15 = .ok (.lload_n 0, 1) := by decide +kernel
theorem dc_X0_rungIn_16 : decode prog_2_method_15_code 16 = .ok (.invokestatic 11, 3) := by decide +kernel
theorem dc_X0_rungIn_19 : decode prog_2_method_15_code 19 = .ok (.lreturn, 1) := by decide +kernel
theorem dc_X0_rungIn_7 : decode prog_2_method_15_code 7 = .ok (.lload_n 0, 1) := by decide +kernel
theorem dc_X0_rungIn_8 : decode prog_2_method_15_code 8 = .ok (.invokestatic 11, 3) := by decide +kernel
theorem dc_X0_rungIn_11 : decode prog_2_method_15_code 11 = .ok (.lneg, 1) := by decide +kernel
theorem dc_X0_rungIn_12 : decode prog_2_method_15_code 12 = .ok (.goto 7, 3) := by decide +kernel
theorem dc_X0_rankIn_0 : decode prog_2_method_16_code 0 = .ok (.lload_n 0, 1) := by decide +kernel
theorem dc_X0_rankIn_1 : decode prog_2_method_16_code 1 = .ok (.invokestatic 19, 3) := by decide +kernel
theorem dc_X0_rankIn_4 : decode prog_2_method_16_code 4 = .ok (.ifCond .eq 14, 3) := by decide +kernel
theorem dc_X0_rankIn_18 : decode prog_2_method_16_code 18 = .ok (.lload_n 0, 1) := by decide +kernel
theorem dc_X0_rankIn_19 : decode prog_2_method_16_code 19 = .ok (.invokestatic 11, 3) := by decide +kernel
theorem dc_X0_rankIn_22 : decode prog_2_method_16_code 22 = .ok (.lreturn, 1) := by decide +kernel
theorem dc_X0_rankIn_7 : decode prog_2_method_16_code 7 = .ok (.ldc2_w 38, 3) := by decide +kernel
theorem dc_X0_rankIn_10 : decode prog_2_method_16_code 10 = .ok (.lload_n 0, 1) := by decide +kernel
theorem dc_X0_rankIn_11 : decode prog_2_method_16_code 11 = .ok (.invokestatic 11, 3) := by decide +kernel
theorem dc_X0_rankIn_14 : decode prog_2_method_16_code 14 = .ok (.lsub, 1) := by decide +kernel
theorem dc_X0_rankIn_15 : decode prog_2_method_16_code 15 = .ok (.goto 7, 3) := by decide +kernel
theorem dc_X0_lastOf_0 : decode prog_2_method_17_code 0 = .ok (.lload_n 0, 1) := by decide +kernel
theorem dc_X0_lastOf_1 : decode prog_2_method_17_code 1 = .ok (.invokestatic 40, 3) := by decide +kernel
theorem dc_X0_lastOf_4 : decode prog_2_method_17_code 4 = .ok (.lload_n 2, 1) := by decide +kernel
theorem dc_X0_lastOf_5 : decode prog_2_method_17_code 5 = .ok (.invokestatic 40, 3) := by decide +kernel
theorem dc_X0_lastOf_8 : decode prog_2_method_17_code 8 = .ok (.lcmp, 1) := by decide +kernel
theorem dc_X0_lastOf_9 : decode prog_2_method_17_code 9 = .ok (.ifCond .lt 7, 3) := by decide +kernel
theorem dc_X0_lastOf_16 : decode prog_2_method_17_code 16 = .ok (.lload_n 2, 1) := by decide +kernel
theorem dc_X0_lastOf_17 : decode prog_2_method_17_code 17 = .ok (.lreturn, 1) := by decide +kernel
theorem dc_X0_lastOf_12 : decode prog_2_method_17_code 12 = .ok (.lload_n 0, 1) := by decide +kernel
theorem dc_X0_lastOf_13 : decode prog_2_method_17_code 13 = .ok (.goto 4, 3) := by decide +kernel
theorem dc_X0_firstOf_0 : decode prog_2_method_18_code 0 = .ok (.lload_n 0, 1) := by decide +kernel
theorem dc_X0_firstOf_1 : decode prog_2_method_18_code 1 = .ok (.invokestatic 40, 3) := by decide +kernel
theorem dc_X0_firstOf_4 : decode prog_2_method_18_code 4 = .ok (.lload_n 2, 1) := by decide +kernel
theorem dc_X0_firstOf_5 : decode prog_2_method_18_code 5 = .ok (.invokestatic 40, 3) := by decide +kernel
theorem dc_X0_firstOf_8 : decode prog_2_method_18_code 8 = .ok (.lcmp, 1) := by decide +kernel
theorem dc_X0_firstOf_9 : decode prog_2_method_18_code 9 = .ok (.ifCond .gt 7, 3) := by decide +kernel
theorem dc_X0_firstOf_16 : decode prog_2_method_18_code 16 = .ok (.lload_n 2, 1) := by decide +kernel
theorem dc_X0_firstOf_17 : decode prog_2_method_18_code 17 = .ok (.lreturn, 1) := by decide +kernel
theorem dc_X0_firstOf_12 : decode prog_2_method_18_code 12 = .ok (.lload_n 0, 1) := by decide +kernel
theorem dc_X0_firstOf_13 : decode prog_2_method_18_code 13 = .ok (.goto 4, 3) := by decide +kernel
theorem dc_X2_halvedOften_0 : decode prog_4_method_4_code 0 = .ok (.lload_n 0, 1) := by decide +kernel
theorem dc_X2_halvedOften_1 : decode prog_4_method_4_code 1 = .ok (.iload_n 2, 1) := by decide +kernel
theorem dc_X2_halvedOften_2 : decode prog_4_method_4_code 2 = .ok (.lushr, 1) := by decide +kernel
theorem dc_X2_halvedOften_3 : decode prog_4_method_4_code 3 = .ok (.lstore_n 3, 1) := by decide +kernel
theorem dc_X2_halvedOften_4 : decode prog_4_method_4_code 4 = .ok (.lload_n 0, 1) := by decide +kernel
theorem dc_X2_halvedOften_5 : decode prog_4_method_4_code 5 = .ok (.lconst 1, 1) := by decide +kernel
theorem dc_X2_halvedOften_6 : decode prog_4_method_4_code 6 = .ok (.iload_n 2, 1) := by decide +kernel
theorem dc_X2_halvedOften_7 : decode prog_4_method_4_code 7 = .ok (.lshl, 1) := by decide +kernel
theorem dc_X2_halvedOften_8 : decode prog_4_method_4_code 8 = .ok (.lconst 1, 1) := by decide +kernel
theorem dc_X2_halvedOften_9 : decode prog_4_method_4_code 9 = .ok (.lsub, 1) := by decide +kernel
theorem dc_X2_halvedOften_10 : decode prog_4_method_4_code 10 = .ok (.land, 1) := by decide +kernel
theorem dc_X2_halvedOften_11 : decode prog_4_method_4_code 11 = .ok (.lstore 5, 2) := by decide +kernel
theorem dc_X2_halvedOften_13 : decode prog_4_method_4_code 13 = .ok (.lconst 1, 1) := by decide +kernel
theorem dc_X2_halvedOften_14 : decode prog_4_method_4_code 14 = .ok (.iload_n 2, 1) := by decide +kernel
theorem dc_X2_halvedOften_15 : decode prog_4_method_4_code 15 = .ok (.iconst 1, 1) := by decide +kernel
theorem dc_X2_halvedOften_16 : decode prog_4_method_4_code 16 = .ok (.isub, 1) := by decide +kernel
theorem dc_X2_halvedOften_17 : decode prog_4_method_4_code 17 = .ok (.lshl, 1) := by decide +kernel
theorem dc_X2_halvedOften_18 : decode prog_4_method_4_code 18 = .ok (.lstore 7, 2) := by decide +kernel
theorem dc_X2_halvedOften_20 : decode prog_4_method_4_code 20 = .ok (.lload 5, 2) := by decide +kernel
theorem dc_X2_halvedOften_22 : decode prog_4_method_4_code 22 = .ok (.lload 7, 2) := by decide +kernel
theorem dc_X2_halvedOften_24 : decode prog_4_method_4_code 24 = .ok (.lcmp, 1) := by decide +kernel
theorem dc_X2_halvedOften_25 : decode prog_4_method_4_code 25 = .ok (.ifCond .gt 19, 3) := by decide +kernel
theorem dc_X2_halvedOften_44 : decode prog_4_method_4_code 44 = .ok (.iconst 1, 1) := by decide +kernel
theorem dc_X2_halvedOften_45 : decode prog_4_method_4_code 45 = .ok (.goto 4, 3) := by decide +kernel
theorem dc_X2_halvedOften_49 : decode prog_4_method_4_code 49 = .ok (.istore 9, 2) := by decide +kernel
theorem dc_X2_halvedOften_51 : decode prog_4_method_4_code 51 = .ok (.iload 9, 2) := by decide +kernel
theorem dc_X2_halvedOften_53 : decode prog_4_method_4_code 53 = .ok (.ifCond .eq 9, 3) := by decide +kernel
theorem dc_X2_halvedOften_56 : decode prog_4_method_4_code 56 = .ok (.lload_n 3, 1) := by decide +kernel
theorem dc_X2_halvedOften_57 : decode prog_4_method_4_code 57 = .ok (.lconst 1, 1) := by decide +kernel
theorem dc_X2_halvedOften_58 : decode prog_4_method_4_code 58 = .ok (.ladd, 1) := by decide +kernel
theorem dc_X2_halvedOften_59 : decode prog_4_method_4_code 59 = .ok (.goto 4, 3) := by decide +kernel
theorem dc_X2_halvedOften_63 : decode prog_4_method_4_code 63 = .ok (.lreturn, 1) := by decide +kernel
theorem dc_X2_halvedOften_28 : decode prog_4_method_4_code 28 = .ok (.lload 5, 2) := by decide +kernel
theorem dc_X2_halvedOften_30 : decode prog_4_method_4_code 30 = .ok (.lload 7, 2) := by decide +kernel
theorem dc_X2_halvedOften_32 : decode prog_4_method_4_code 32 = .ok (.lcmp, 1) := by decide +kernel
theorem dc_X2_halvedOften_33 : decode prog_4_method_4_code 33 = .ok (.ifCond .ne 15, 3) := by decide +kernel
theorem dc_X2_halvedOften_48 : decode prog_4_method_4_code 48 = .ok (.iconst 0, 1) := by decide +kernel
theorem dc_X2_halvedOften_62 : decode prog_4_method_4_code 62 = .ok (.lload_n 3, 1) := by decide +kernel
theorem dc_X2_halvedOften_36 : decode prog_4_method_4_code 36 = .ok (.lload_n 3, 1) := by decide +kernel
theorem dc_X2_halvedOften_37 : decode prog_4_method_4_code 37 = .ok (.lconst 1, 1) := by decide +kernel
theorem dc_X2_halvedOften_38 : decode prog_4_method_4_code 38 = .ok (.land, 1) := by decide +kernel
theorem dc_X2_halvedOften_39 : decode prog_4_method_4_code 39 = .ok (.lconst 1, 1) := by decide +kernel
theorem dc_X2_halvedOften_40 : decode prog_4_method_4_code 40 = .ok (.lcmp, 1) := by decide +kernel
theorem dc_X2_halvedOften_41 : decode prog_4_method_4_code 41 = .ok (.ifCond .ne 7, 3) := by decide +kernel
theorem dc_X2_nearestTo_0 : decode prog_4_method_3_code 0 = .ok (.lload_n 0, 1) := by decide +kernel
theorem dc_X2_nearestTo_1 : decode prog_4_method_3_code 1 = .ok (.lconst 0, 1) := by decide +kernel
theorem dc_X2_nearestTo_2 : decode prog_4_method_3_code 2 = .ok (.lcmp, 1) := by decide +kernel
theorem dc_X2_nearestTo_3 : decode prog_4_method_3_code 3 = .ok (.ifCond .ne 5, 3) := by decide +kernel
theorem dc_X2_nearestTo_8 : decode prog_4_method_3_code 8 = .ok (.lload_n 0, 1) := by decide +kernel
theorem dc_X2_nearestTo_9 : decode prog_4_method_3_code 9 = .ok (.lstore_n 3, 1) := by decide +kernel
theorem dc_X2_nearestTo_10 : decode prog_4_method_3_code 10 = .ok (.iload_n 2, 1) := by decide +kernel
theorem dc_X2_nearestTo_11 : decode prog_4_method_3_code 11 = .ok (.sipush (-1074), 3) := by decide +kernel
theorem dc_X2_nearestTo_14 : decode prog_4_method_3_code 14 = .ok (.isub, 1) := by decide +kernel
theorem dc_X2_nearestTo_15 : decode prog_4_method_3_code 15 = .ok (.iconst 1, 1) := by decide +kernel
theorem dc_X2_nearestTo_16 : decode prog_4_method_3_code 16 = .ok (.iadd, 1) := by decide +kernel
theorem dc_X2_nearestTo_17 : decode prog_4_method_3_code 17 = .ok (.istore 5, 2) := by decide +kernel
theorem dc_X2_nearestTo_19 : decode prog_4_method_3_code 19 = .ok (.bipush 32, 2) := by decide +kernel
theorem dc_X2_nearestTo_21 : decode prog_4_method_3_code 21 = .ok (.istore 6, 2) := by decide +kernel
theorem dc_X2_nearestTo_23 : decode prog_4_method_3_code 23 = .ok (.iload 6, 2) := by decide +kernel
theorem dc_X2_nearestTo_25 : decode prog_4_method_3_code 25 = .ok (.ifCond .le 36, 3) := by decide +kernel
theorem dc_X2_nearestTo_61 : decode prog_4_method_3_code 61 = .ok (.iload 5, 2) := by decide +kernel
theorem dc_X2_nearestTo_63 : decode prog_4_method_3_code 63 = .ok (.iconst 1, 1) := by decide +kernel
theorem dc_X2_nearestTo_64 : decode prog_4_method_3_code 64 = .ok (.if_icmp .ge 17, 3) := by decide +kernel
theorem dc_X2_nearestTo_81 : decode prog_4_method_3_code 81 = .ok (.iload 5, 2) := by decide +kernel
theorem dc_X2_nearestTo_83 : decode prog_4_method_3_code 83 = .ok (.sipush 2047, 3) := by decide +kernel
theorem dc_X2_nearestTo_86 : decode prog_4_method_3_code 86 = .ok (.if_icmp .lt 7, 3) := by decide +kernel
theorem dc_X2_nearestTo_93 : decode prog_4_method_3_code 93 = .ok (.iload 5, 2) := by decide +kernel
theorem dc_X2_nearestTo_95 : decode prog_4_method_3_code 95 = .ok (.i2l, 1) := by decide +kernel
theorem dc_X2_nearestTo_96 : decode prog_4_method_3_code 96 = .ok (.bipush 52, 2) := by decide +kernel
theorem dc_X2_nearestTo_98 : decode prog_4_method_3_code 98 = .ok (.lshl, 1) := by decide +kernel
theorem dc_X2_nearestTo_99 : decode prog_4_method_3_code 99 = .ok (.lload_n 3, 1) := by decide +kernel
theorem dc_X2_nearestTo_100 : decode prog_4_method_3_code 100 = .ok (.ldc2_w 48, 3) := by decide +kernel
theorem dc_X2_nearestTo_103 : decode prog_4_method_3_code 103 = .ok (.lsub, 1) := by decide +kernel
theorem dc_X2_nearestTo_104 : decode prog_4_method_3_code 104 = .ok (.ladd, 1) := by decide +kernel
theorem dc_X2_nearestTo_105 : decode prog_4_method_3_code 105 = .ok (.lreturn, 1) := by decide +kernel
theorem dc_X2_nearestTo_89 : decode prog_4_method_3_code 89 = .ok (.ldc2_w 46, 3) := by decide +kernel
theorem dc_X2_nearestTo_92 : decode prog_4_method_3_code 92 = .ok (.lreturn, 1) := by decide +kernel
theorem dc_X2_nearestTo_67 : decode prog_4_method_3_code 67 = .ok (.lload_n 3, 1) := by decide +kernel
theorem dc_X2_nearestTo_68 : decode prog_4_method_3_code 68 = .ok (.bipush 60, 2) := by decide +kernel
theorem dc_X2_nearestTo_70 : decode prog_4_method_3_code 70 = .ok (.iconst 1, 1) := by decide +kernel
theorem dc_X2_nearestTo_71 : decode prog_4_method_3_code 71 = .ok (.iload 5, 2) := by decide +kernel
theorem dc_X2_nearestTo_73 : decode prog_4_method_3_code 73 = .ok (.isub, 1) := by decide +kernel
theorem dc_X2_nearestTo_74 : decode prog_4_method_3_code 74 = .ok (.invokestatic 19, 3) := by decide +kernel
theorem dc_X2_nearestTo_77 : decode prog_4_method_3_code 77 = .ok (.invokestatic 43, 3) := by decide +kernel
theorem dc_X2_nearestTo_80 : decode prog_4_method_3_code 80 = .ok (.lreturn, 1) := by decide +kernel
theorem dc_X2_nearestTo_28 : decode prog_4_method_3_code 28 = .ok (.lload_n 3, 1) := by decide +kernel
theorem dc_X2_nearestTo_29 : decode prog_4_method_3_code 29 = .ok (.bipush 53, 2) := by decide +kernel
theorem dc_X2_nearestTo_31 : decode prog_4_method_3_code 31 = .ok (.iload 6, 2) := by decide +kernel
theorem dc_X2_nearestTo_33 : decode prog_4_method_3_code 33 = .ok (.isub, 1) := by decide +kernel
theorem dc_X2_nearestTo_34 : decode prog_4_method_3_code 34 = .ok (.lushr, 1) := by decide +kernel
theorem dc_X2_nearestTo_35 : decode prog_4_method_3_code 35 = .ok (.lconst 0, 1) := by decide +kernel
theorem dc_X2_nearestTo_36 : decode prog_4_method_3_code 36 = .ok (.lcmp, 1) := by decide +kernel
theorem dc_X2_nearestTo_37 : decode prog_4_method_3_code 37 = .ok (.ifCond .ne 15, 3) := by decide +kernel
theorem dc_X2_nearestTo_52 : decode prog_4_method_3_code 52 = .ok (.iload 6, 2) := by decide +kernel
theorem dc_X2_nearestTo_54 : decode prog_4_method_3_code 54 = .ok (.iconst 1, 1) := by decide +kernel
theorem dc_X2_nearestTo_55 : decode prog_4_method_3_code 55 = .ok (.ishr, 1) := by decide +kernel
theorem dc_X2_nearestTo_56 : decode prog_4_method_3_code 56 = .ok (.istore 6, 2) := by decide +kernel
theorem dc_X2_nearestTo_58 : decode prog_4_method_3_code 58 = .ok (.goto (-35), 3) := by decide +kernel
theorem dc_X2_nearestTo_40 : decode prog_4_method_3_code 40 = .ok (.lload_n 3, 1) := by decide +kernel
theorem dc_X2_nearestTo_41 : decode prog_4_method_3_code 41 = .ok (.iload 6, 2) := by decide +kernel
theorem dc_X2_nearestTo_43 : decode prog_4_method_3_code 43 = .ok (.lshl, 1) := by decide +kernel
theorem dc_X2_nearestTo_44 : decode prog_4_method_3_code 44 = .ok (.lstore_n 3, 1) := by decide +kernel
theorem dc_X2_nearestTo_45 : decode prog_4_method_3_code 45 = .ok (.iload 5, 2) := by decide +kernel
theorem dc_X2_nearestTo_47 : decode prog_4_method_3_code 47 = .ok (.iload 6, 2) := by decide +kernel
theorem dc_X2_nearestTo_49 : decode prog_4_method_3_code 49 = .ok (.isub, 1) := by decide +kernel
theorem dc_X2_nearestTo_50 : decode prog_4_method_3_code 50 = .ok (.istore 5, 2) := by decide +kernel
theorem dc_X2_nearestTo_6 : decode prog_4_method_3_code 6 = .ok (.lconst 0, 1) := by decide +kernel
theorem dc_X2_nearestTo_7 : decode prog_4_method_3_code 7 = .ok (.lreturn, 1) := by decide +kernel
theorem dc_X2_timesPower_0 : decode prog_4_method_2_code 0 = .ok (.lload_n 0, 1) := by decide +kernel
theorem dc_X2_timesPower_1 : decode prog_4_method_2_code 1 = .ok (.invokestatic 7, 3) := by decide +kernel
theorem dc_X2_timesPower_4 : decode prog_4_method_2_code 4 = .ok (.lconst 0, 1) := by decide +kernel
theorem dc_X2_timesPower_5 : decode prog_4_method_2_code 5 = .ok (.lcmp, 1) := by decide +kernel
theorem dc_X2_timesPower_6 : decode prog_4_method_2_code 6 = .ok (.ifCond .eq 10, 3) := by decide +kernel
theorem dc_X2_timesPower_16 : decode prog_4_method_2_code 16 = .ok (.lload_n 0, 1) := by decide +kernel
theorem dc_X2_timesPower_17 : decode prog_4_method_2_code 17 = .ok (.lreturn, 1) := by decide +kernel
theorem dc_X2_timesPower_9 : decode prog_4_method_2_code 9 = .ok (.lload_n 0, 1) := by decide +kernel
theorem dc_X2_timesPower_10 : decode prog_4_method_2_code 10 = .ok (.invokestatic 13, 3) := by decide +kernel
theorem dc_X2_timesPower_13 : decode prog_4_method_2_code 13 = .ok (.ifCond .eq 5, 3) := by decide +kernel
theorem dc_X2_timesPower_18 : decode prog_4_method_2_code 18 = .ok (.sipush (-2200), 3) := by decide +kernel
theorem dc_X2_timesPower_21 : decode prog_4_method_2_code 21 = .ok (.sipush 2200, 3) := by decide +kernel
theorem dc_X2_timesPower_24 : decode prog_4_method_2_code 24 = .ok (.iload_n 2, 1) := by decide +kernel
theorem dc_X2_timesPower_25 : decode prog_4_method_2_code 25 = .ok (.invokestatic 19, 3) := by decide +kernel
theorem dc_X2_timesPower_28 : decode prog_4_method_2_code 28 = .ok (.invokestatic 25, 3) := by decide +kernel
theorem dc_X2_timesPower_31 : decode prog_4_method_2_code 31 = .ok (.istore_n 3, 1) := by decide +kernel
theorem dc_X2_timesPower_32 : decode prog_4_method_2_code 32 = .ok (.lload_n 0, 1) := by decide +kernel
theorem dc_X2_timesPower_33 : decode prog_4_method_2_code 33 = .ok (.invokestatic 28, 3) := by decide +kernel
theorem dc_X2_timesPower_36 : decode prog_4_method_2_code 36 = .ok (.lload_n 0, 1) := by decide +kernel
theorem dc_X2_timesPower_37 : decode prog_4_method_2_code 37 = .ok (.invokestatic 31, 3) := by decide +kernel
theorem dc_X2_timesPower_40 : decode prog_4_method_2_code 40 = .ok (.iload_n 3, 1) := by decide +kernel
theorem dc_X2_timesPower_41 : decode prog_4_method_2_code 41 = .ok (.iadd, 1) := by decide +kernel
theorem dc_X2_timesPower_42 : decode prog_4_method_2_code 42 = .ok (.invokestatic 35, 3) := by decide +kernel
theorem dc_X2_timesPower_45 : decode prog_4_method_2_code 45 = .ok (.lload_n 0, 1) := by decide +kernel
theorem dc_X2_timesPower_46 : decode prog_4_method_2_code 46 = .ok (.invokestatic 39, 3) := by decide +kernel
theorem dc_X2_timesPower_49 : decode prog_4_method_2_code 49 = .ok (.lreturn, 1) := by decide +kernel
theorem dc_X4_wholeLike_0 : decode prog_6_method_5_code 0 = .ok (.lload_n 2, 1) := by decide +kernel
theorem dc_X4_wholeLike_1 : decode prog_6_method_5_code 1 = .ok (.iconst 0, 1) := by decide +kernel
theorem dc_X4_wholeLike_2 : decode prog_6_method_5_code 2 = .ok (.invokestatic 39, 3) := by decide +kernel
theorem dc_X4_wholeLike_5 : decode prog_6_method_5_code 5 = .ok (.lload_n 0, 1) := by decide +kernel
theorem dc_X4_wholeLike_6 : decode prog_6_method_5_code 6 = .ok (.invokestatic 42, 3) := by decide +kernel
theorem dc_X4_wholeLike_9 : decode prog_6_method_5_code 9 = .ok (.lreturn, 1) := by decide +kernel
theorem dc_X4_floorFrom_0 : decode prog_6_method_2_code 0 = .ok (.lload_n 0, 1) := by decide +kernel
theorem dc_X4_floorFrom_1 : decode prog_6_method_2_code 1 = .ok (.invokestatic 7, 3) := by decide +kernel
theorem dc_X4_floorFrom_4 : decode prog_6_method_2_code 4 = .ok (.lconst 0, 1) := by decide +kernel
theorem dc_X4_floorFrom_5 : decode prog_6_method_2_code 5 = .ok (.lcmp, 1) := by decide +kernel
theorem dc_X4_floorFrom_6 : decode prog_6_method_2_code 6 = .ok (.ifCond .ne 5, 3) := by decide +kernel
theorem dc_X4_floorFrom_11 : decode prog_6_method_2_code 11 = .ok (.lload_n 0, 1) := by decide +kernel
theorem dc_X4_floorFrom_12 : decode prog_6_method_2_code 12 = .ok (.lload_n 0, 1) := by decide +kernel
theorem dc_X4_floorFrom_13 : decode prog_6_method_2_code 13 = .ok (.invokestatic 13, 3) := by decide +kernel
theorem dc_X4_floorFrom_16 : decode prog_6_method_2_code 16 = .ok (.lload_n 0, 1) := by decide +kernel
theorem dc_X4_floorFrom_17 : decode prog_6_method_2_code 17 = .ok (.invokestatic 16, 3) := by decide +kernel
theorem dc_X4_floorFrom_20 : decode prog_6_method_2_code 20 = .ok (.ifCond .eq 7, 3) := by decide +kernel
theorem dc_X4_floorFrom_27 : decode prog_6_method_2_code 27 = .ok (.iconst 0, 1) := by decide +kernel
theorem dc_X4_floorFrom_28 : decode prog_6_method_2_code 28 = .ok (.i2l, 1) := by decide +kernel
theorem dc_X4_floorFrom_29 : decode prog_6_method_2_code 29 = .ok (.ladd, 1) := by decide +kernel
theorem dc_X4_floorFrom_30 : decode prog_6_method_2_code 30 = .ok (.invokestatic 20, 3) := by decide +kernel
theorem dc_X4_floorFrom_33 : decode prog_6_method_2_code 33 = .ok (.lreturn, 1) := by decide +kernel
theorem dc_X4_floorFrom_23 : decode prog_6_method_2_code 23 = .ok (.iconst 1, 1) := by decide +kernel
theorem dc_X4_floorFrom_24 : decode prog_6_method_2_code 24 = .ok (.goto 4, 3) := by decide +kernel
theorem dc_X4_floorFrom_9 : decode prog_6_method_2_code 9 = .ok (.lload_n 0, 1) := by decide +kernel
theorem dc_X4_floorFrom_10 : decode prog_6_method_2_code 10 = .ok (.lreturn, 1) := by decide +kernel
theorem dc_X4_ceilFrom_0 : decode prog_6_method_3_code 0 = .ok (.lload_n 0, 1) := by decide +kernel
theorem dc_X4_ceilFrom_1 : decode prog_6_method_3_code 1 = .ok (.invokestatic 7, 3) := by decide +kernel
theorem dc_X4_ceilFrom_4 : decode prog_6_method_3_code 4 = .ok (.lconst 0, 1) := by decide +kernel
theorem dc_X4_ceilFrom_5 : decode prog_6_method_3_code 5 = .ok (.lcmp, 1) := by decide +kernel
theorem dc_X4_ceilFrom_6 : decode prog_6_method_3_code 6 = .ok (.ifCond .ne 5, 3) := by decide +kernel
theorem dc_X4_ceilFrom_11 : decode prog_6_method_3_code 11 = .ok (.lload_n 0, 1) := by decide +kernel
theorem dc_X4_ceilFrom_12 : decode prog_6_method_3_code 12 = .ok (.lload_n 0, 1) := by decide +kernel
theorem dc_X4_ceilFrom_13 : decode prog_6_method_3_code 13 = .ok (.invokestatic 13, 3) := by decide +kernel
theorem dc_X4_ceilFrom_16 : decode prog_6_method_3_code 16 = .ok (.lload_n 0, 1) := by decide +kernel
theorem dc_X4_ceilFrom_17 : decode prog_6_method_3_code 17 = .ok (.invokestatic 16, 3) := by decide +kernel
theorem dc_X4_ceilFrom_20 : decode prog_6_method_3_code 20 = .ok (.ifCond .eq 7, 3) := by decide +kernel
theorem dc_X4_ceilFrom_27 : decode prog_6_method_3_code 27 = .ok (.iconst 1, 1) := by decide +kernel
theorem dc_X4_ceilFrom_28 : decode prog_6_method_3_code 28 = .ok (.i2l, 1) := by decide +kernel
theorem dc_X4_ceilFrom_29 : decode prog_6_method_3_code 29 = .ok (.ladd, 1) := by decide +kernel
theorem dc_X4_ceilFrom_30 : decode prog_6_method_3_code 30 = .ok (.invokestatic 20, 3) := by decide +kernel
theorem dc_X4_ceilFrom_33 : decode prog_6_method_3_code 33 = .ok (.lreturn, 1) := by decide +kernel
theorem dc_X4_ceilFrom_23 : decode prog_6_method_3_code 23 = .ok (.iconst 0, 1) := by decide +kernel
theorem dc_X4_ceilFrom_24 : decode prog_6_method_3_code 24 = .ok (.goto 4, 3) := by decide +kernel
theorem dc_X4_ceilFrom_9 : decode prog_6_method_3_code 9 = .ok (.lload_n 0, 1) := by decide +kernel
theorem dc_X4_ceilFrom_10 : decode prog_6_method_3_code 10 = .ok (.lreturn, 1) := by decide +kernel
theorem dc_X4_rintFrom_0 : decode prog_6_method_4_code 0 = .ok (.lload_n 0, 1) := by decide +kernel
theorem dc_X4_rintFrom_1 : decode prog_6_method_4_code 1 = .ok (.invokestatic 7, 3) := by decide +kernel
theorem dc_X4_rintFrom_4 : decode prog_6_method_4_code 4 = .ok (.lconst 0, 1) := by decide +kernel
theorem dc_X4_rintFrom_5 : decode prog_6_method_4_code 5 = .ok (.lcmp, 1) := by decide +kernel
theorem dc_X4_rintFrom_6 : decode prog_6_method_4_code 6 = .ok (.ifCond .ne 5, 3) := by decide +kernel
theorem dc_X4_rintFrom_11 : decode prog_6_method_4_code 11 = .ok (.lload_n 0, 1) := by decide +kernel
theorem dc_X4_rintFrom_12 : decode prog_6_method_4_code 12 = .ok (.lload_n 0, 1) := by decide +kernel
theorem dc_X4_rintFrom_13 : decode prog_6_method_4_code 13 = .ok (.invokestatic 26, 3) := by decide +kernel
theorem dc_X4_rintFrom_16 : decode prog_6_method_4_code 16 = .ok (.lload_n 0, 1) := by decide +kernel
theorem dc_X4_rintFrom_17 : decode prog_6_method_4_code 17 = .ok (.invokestatic 29, 3) := by decide +kernel
theorem dc_X4_rintFrom_20 : decode prog_6_method_4_code 20 = .ok (.invokestatic 33, 3) := by decide +kernel
theorem dc_X4_rintFrom_23 : decode prog_6_method_4_code 23 = .ok (.invokestatic 20, 3) := by decide +kernel
theorem dc_X4_rintFrom_26 : decode prog_6_method_4_code 26 = .ok (.lreturn, 1) := by decide +kernel
theorem dc_X4_rintFrom_9 : decode prog_6_method_4_code 9 = .ok (.lload_n 0, 1) := by decide +kernel
theorem dc_X4_rintFrom_10 : decode prog_6_method_4_code 10 = .ok (.lreturn, 1) := by decide +kernel
theorem dc_X4_signFrom_0 : decode prog_6_method_6_code 0 = .ok (.lload_n 0, 1) := by decide +kernel
theorem dc_X4_signFrom_1 : decode prog_6_method_6_code 1 = .ok (.invokestatic 45, 3) := by decide +kernel
theorem dc_X4_signFrom_4 : decode prog_6_method_6_code 4 = .ok (.lconst 0, 1) := by decide +kernel
theorem dc_X4_signFrom_5 : decode prog_6_method_6_code 5 = .ok (.lcmp, 1) := by decide +kernel
theorem dc_X4_signFrom_6 : decode prog_6_method_6_code 6 = .ok (.ifCond .ne 7, 3) := by decide +kernel
theorem dc_X4_signFrom_13 : decode prog_6_method_6_code 13 = .ok (.ldc2_w 48, 3) := by decide +kernel
theorem dc_X4_signFrom_16 : decode prog_6_method_6_code 16 = .ok (.lload_n 0, 1) := by decide +kernel
theorem dc_X4_signFrom_17 : decode prog_6_method_6_code 17 = .ok (.invokestatic 42, 3) := by decide +kernel
theorem dc_X4_signFrom_20 : decode prog_6_method_6_code 20 = .ok (.lreturn, 1) := by decide +kernel
theorem dc_X4_signFrom_9 : decode prog_6_method_6_code 9 = .ok (.lload_n 0, 1) := by decide +kernel
theorem dc_X4_signFrom_10 : decode prog_6_method_6_code 10 = .ok (.goto 10, 3) := by decide +kernel
theorem dc_X4_upFrom_0 : decode prog_6_method_7_code 0 = .ok (.lload_n 0, 1) := by decide +kernel
theorem dc_X4_upFrom_1 : decode prog_6_method_7_code 1 = .ok (.ldc2_w 50, 3) := by decide +kernel
theorem dc_X4_upFrom_4 : decode prog_6_method_7_code 4 = .ok (.lcmp, 1) := by decide +kernel
theorem dc_X4_upFrom_5 : decode prog_6_method_7_code 5 = .ok (.ifCond .ne 5, 3) := by decide +kernel
theorem dc_X4_upFrom_10 : decode prog_6_method_7_code 10 = .ok (.lload_n 0, 1) := by decide +kernel
theorem dc_X4_upFrom_11 : decode prog_6_method_7_code 11 = .ok (.invokestatic 45, 3) := by decide +kernel
theorem dc_X4_upFrom_14 : decode prog_6_method_7_code 14 = .ok (.lconst 0, 1) := by decide +kernel
theorem dc_X4_upFrom_15 : decode prog_6_method_7_code 15 = .ok (.lcmp, 1) := by decide +kernel
theorem dc_X4_upFrom_16 : decode prog_6_method_7_code 16 = .ok (.ifCond .ne 5, 3) := by decide +kernel
theorem dc_X4_upFrom_21 : decode prog_6_method_7_code 21 = .ok (.lload_n 0, 1) := by decide +kernel
theorem dc_X4_upFrom_22 : decode prog_6_method_7_code 22 = .ok (.invokestatic 16, 3) := by decide +kernel
theorem dc_X4_upFrom_25 : decode prog_6_method_7_code 25 = .ok (.ifCond .eq 9, 3) := by decide +kernel
theorem dc_X4_upFrom_34 : decode prog_6_method_7_code 34 = .ok (.lload_n 0, 1) := by decide +kernel
theorem dc_X4_upFrom_35 : decode prog_6_method_7_code 35 = .ok (.lconst 1, 1) := by decide +kernel
theorem dc_X4_upFrom_36 : decode prog_6_method_7_code 36 = .ok (.ladd, 1) := by decide +kernel
theorem dc_X4_upFrom_37 : decode prog_6_method_7_code 37 = .ok (.lreturn, 1) := by decide +kernel
theorem dc_X4_upFrom_28 : decode prog_6_method_7_code 28 = .ok (.lload_n 0, 1) := by decide +kernel
theorem dc_X4_upFrom_29 : decode prog_6_method_7_code 29 = .ok (.lconst 1, 1) := by decide +kernel
theorem dc_X4_upFrom_30 : decode prog_6_method_7_code 30 = .ok (.lsub, 1) := by decide +kernel
theorem dc_X4_upFrom_31 : decode prog_6_method_7_code 31 = .ok (.goto 6, 3) := by decide +kernel
theorem dc_X4_upFrom_19 : decode prog_6_method_7_code 19 = .ok (.lconst 1, 1) := by decide +kernel
theorem dc_X4_upFrom_20 : decode prog_6_method_7_code 20 = .ok (.lreturn, 1) := by decide +kernel
theorem dc_X4_upFrom_8 : decode prog_6_method_7_code 8 = .ok (.lload_n 0, 1) := by decide +kernel
theorem dc_X4_upFrom_9 : decode prog_6_method_7_code 9 = .ok (.lreturn, 1) := by decide +kernel
theorem dc_X4_downFrom_0 : decode prog_6_method_8_code 0 = .ok (.lload_n 0, 1) := by decide +kernel
theorem dc_X4_downFrom_1 : decode prog_6_method_8_code 1 = .ok (.ldc2_w 52, 3) := by decide +kernel
theorem dc_X4_downFrom_4 : decode prog_6_method_8_code 4 = .ok (.lcmp, 1) := by decide +kernel
theorem dc_X4_downFrom_5 : decode prog_6_method_8_code 5 = .ok (.ifCond .ne 5, 3) := by decide +kernel
theorem dc_X4_downFrom_10 : decode prog_6_method_8_code 10 = .ok (.lload_n 0, 1) := by decide +kernel
theorem dc_X4_downFrom_11 : decode prog_6_method_8_code 11 = .ok (.invokestatic 45, 3) := by decide +kernel
theorem dc_X4_downFrom_14 : decode prog_6_method_8_code 14 = .ok (.lconst 0, 1) := by decide +kernel
theorem dc_X4_downFrom_15 : decode prog_6_method_8_code 15 = .ok (.lcmp, 1) := by decide +kernel
theorem dc_X4_downFrom_16 : decode prog_6_method_8_code 16 = .ok (.ifCond .ne 7, 3) := by decide +kernel
theorem dc_X4_downFrom_23 : decode prog_6_method_8_code 23 = .ok (.lload_n 0, 1) := by decide +kernel
theorem dc_X4_downFrom_24 : decode prog_6_method_8_code 24 = .ok (.invokestatic 16, 3) := by decide +kernel
theorem dc_X4_downFrom_27 : decode prog_6_method_8_code 27 = .ok (.ifCond .eq 9, 3) := by decide +kernel
theorem dc_X4_downFrom_36 : decode prog_6_method_8_code 36 = .ok (.lload_n 0, 1) := by decide +kernel
theorem dc_X4_downFrom_37 : decode prog_6_method_8_code 37 = .ok (.lconst 1, 1) := by decide +kernel
theorem dc_X4_downFrom_38 : decode prog_6_method_8_code 38 = .ok (.lsub, 1) := by decide +kernel
theorem dc_X4_downFrom_39 : decode prog_6_method_8_code 39 = .ok (.lreturn, 1) := by decide +kernel
theorem dc_X4_downFrom_30 : decode prog_6_method_8_code 30 = .ok (.lload_n 0, 1) := by decide +kernel
theorem dc_X4_downFrom_31 : decode prog_6_method_8_code 31 = .ok (.lconst 1, 1) := by decide +kernel
theorem dc_X4_downFrom_32 : decode prog_6_method_8_code 32 = .ok (.ladd, 1) := by decide +kernel
theorem dc_X4_downFrom_33 : decode prog_6_method_8_code 33 = .ok (.goto 6, 3) := by decide +kernel
theorem dc_X4_downFrom_19 : decode prog_6_method_8_code 19 = .ok (.ldc2_w 54, 3) := by decide +kernel
theorem dc_X4_downFrom_22 : decode prog_6_method_8_code 22 = .ok (.lreturn, 1) := by decide +kernel
theorem dc_X4_downFrom_8 : decode prog_6_method_8_code 8 = .ok (.lload_n 0, 1) := by decide +kernel
theorem dc_X4_downFrom_9 : decode prog_6_method_8_code 9 = .ok (.lreturn, 1) := by decide +kernel
theorem dc_X4_stepFrom_0 : decode prog_6_method_10_code 0 = .ok (.lload_n 0, 1) := by decide +kernel
theorem dc_X4_stepFrom_1 : decode prog_6_method_10_code 1 = .ok (.invokestatic 62, 3) := by decide +kernel
theorem dc_X4_stepFrom_4 : decode prog_6_method_10_code 4 = .ok (.ifCond .eq 7, 3) := by decide +kernel
theorem dc_X4_stepFrom_11 : decode prog_6_method_10_code 11 = .ok (.lconst 1, 1) := by decide +kernel
theorem dc_X4_stepFrom_12 : decode prog_6_method_10_code 12 = .ok (.lload_n 0, 1) := by decide +kernel
theorem dc_X4_stepFrom_13 : decode prog_6_method_10_code 13 = .ok (.invokestatic 65, 3) := by decide +kernel
theorem dc_X4_stepFrom_16 : decode prog_6_method_10_code 16 = .ok (.invokestatic 39, 3) := by decide +kernel
theorem dc_X4_stepFrom_19 : decode prog_6_method_10_code 19 = .ok (.lreturn, 1) := by decide +kernel
theorem dc_X4_stepFrom_7 : decode prog_6_method_10_code 7 = .ok (.ldc2_w 50, 3) := by decide +kernel
theorem dc_X4_stepFrom_10 : decode prog_6_method_10_code 10 = .ok (.lreturn, 1) := by decide +kernel
theorem dc_X4_walkFrom_0 : decode prog_6_method_9_code 0 = .ok (.lload_n 0, 1) := by decide +kernel
theorem dc_X4_walkFrom_1 : decode prog_6_method_9_code 1 = .ok (.lstore_n 3, 1) := by decide +kernel
theorem dc_X4_walkFrom_2 : decode prog_6_method_9_code 2 = .ok (.iconst 0, 1) := by decide +kernel
theorem dc_X4_walkFrom_3 : decode prog_6_method_9_code 3 = .ok (.istore 5, 2) := by decide +kernel
theorem dc_X4_walkFrom_5 : decode prog_6_method_9_code 5 = .ok (.iload 5, 2) := by decide +kernel
theorem dc_X4_walkFrom_7 : decode prog_6_method_9_code 7 = .ok (.iload_n 2, 1) := by decide +kernel
theorem dc_X4_walkFrom_8 : decode prog_6_method_9_code 8 = .ok (.if_icmp .ge 14, 3) := by decide +kernel
theorem dc_X4_walkFrom_22 : decode prog_6_method_9_code 22 = .ok (.iconst 0, 1) := by decide +kernel
theorem dc_X4_walkFrom_23 : decode prog_6_method_9_code 23 = .ok (.istore 5, 2) := by decide +kernel
theorem dc_X4_walkFrom_25 : decode prog_6_method_9_code 25 = .ok (.iload 5, 2) := by decide +kernel
theorem dc_X4_walkFrom_27 : decode prog_6_method_9_code 27 = .ok (.iload_n 2, 1) := by decide +kernel
theorem dc_X4_walkFrom_28 : decode prog_6_method_9_code 28 = .ok (.if_icmp .le 14, 3) := by decide +kernel
theorem dc_X4_walkFrom_42 : decode prog_6_method_9_code 42 = .ok (.lload_n 3, 1) := by decide +kernel
theorem dc_X4_walkFrom_43 : decode prog_6_method_9_code 43 = .ok (.lreturn, 1) := by decide +kernel
theorem dc_X4_walkFrom_31 : decode prog_6_method_9_code 31 = .ok (.lload_n 3, 1) := by decide +kernel
theorem dc_X4_walkFrom_32 : decode prog_6_method_9_code 32 = .ok (.invokestatic 59, 3) := by decide +kernel
theorem dc_X4_walkFrom_35 : decode prog_6_method_9_code 35 = .ok (.lstore_n 3, 1) := by decide +kernel
theorem dc_X4_walkFrom_36 : decode prog_6_method_9_code 36 = .ok (.iinc 5 (-1), 3) := by decide +kernel
theorem dc_X4_walkFrom_39 : decode prog_6_method_9_code 39 = .ok (.goto (-14), 3) := by decide +kernel
theorem dc_X4_walkFrom_11 : decode prog_6_method_9_code 11 = .ok (.lload_n 3, 1) := by decide +kernel
theorem dc_X4_walkFrom_12 : decode prog_6_method_9_code 12 = .ok (.invokestatic 56, 3) := by decide +kernel
theorem dc_X4_walkFrom_15 : decode prog_6_method_9_code 15 = .ok (.lstore_n 3, 1) := by decide +kernel
theorem dc_X4_walkFrom_16 : decode prog_6_method_9_code 16 = .ok (.iinc 5 1, 3) := by decide +kernel
theorem dc_X4_walkFrom_19 : decode prog_6_method_9_code 19 = .ok (.goto (-14), 3) := by decide +kernel
theorem dc_X5_cutFrom_0 : decode prog_7_method_2_code 0 = .ok (.lload_n 0, 1) := by decide +kernel
theorem dc_X5_cutFrom_1 : decode prog_7_method_2_code 1 = .ok (.invokestatic 7, 3) := by decide +kernel
theorem dc_X5_cutFrom_4 : decode prog_7_method_2_code 4 = .ok (.istore_n 2, 1) := by decide +kernel
theorem dc_X5_cutFrom_5 : decode prog_7_method_2_code 5 = .ok (.iload_n 2, 1) := by decide +kernel
theorem dc_X5_cutFrom_6 : decode prog_7_method_2_code 6 = .ok (.bipush 11, 2) := by decide +kernel
theorem dc_X5_cutFrom_8 : decode prog_7_method_2_code 8 = .ok (.if_icmp .lt 20, 3) := by decide +kernel
theorem dc_X5_cutFrom_28 : decode prog_7_method_2_code 28 = .ok (.lload_n 0, 1) := by decide +kernel
theorem dc_X5_cutFrom_29 : decode prog_7_method_2_code 29 = .ok (.invokestatic 23, 3) := by decide +kernel
theorem dc_X5_cutFrom_32 : decode prog_7_method_2_code 32 = .ok (.lstore_n 3, 1) := by decide +kernel
theorem dc_X5_cutFrom_33 : decode prog_7_method_2_code 33 = .ok (.iload_n 2, 1) := by decide +kernel
theorem dc_X5_cutFrom_34 : decode prog_7_method_2_code 34 = .ok (.ifCond .le 9, 3) := by decide +kernel
theorem dc_X5_cutFrom_43 : decode prog_7_method_2_code 43 = .ok (.lload_n 3, 1) := by decide +kernel
theorem dc_X5_cutFrom_44 : decode prog_7_method_2_code 44 = .ok (.lload_n 0, 1) := by decide +kernel
theorem dc_X5_cutFrom_45 : decode prog_7_method_2_code 45 = .ok (.invokestatic 27, 3) := by decide +kernel
theorem dc_X5_cutFrom_48 : decode prog_7_method_2_code 48 = .ok (.lushr, 1) := by decide +kernel
theorem dc_X5_cutFrom_49 : decode prog_7_method_2_code 49 = .ok (.lstore 5, 2) := by decide +kernel
theorem dc_X5_cutFrom_51 : decode prog_7_method_2_code 51 = .ok (.lload_n 0, 1) := by decide +kernel
theorem dc_X5_cutFrom_52 : decode prog_7_method_2_code 52 = .ok (.invokestatic 15, 3) := by decide +kernel
theorem dc_X5_cutFrom_55 : decode prog_7_method_2_code 55 = .ok (.ifCond .eq 9, 3) := by decide +kernel
theorem dc_X5_cutFrom_64 : decode prog_7_method_2_code 64 = .ok (.lload 5, 2) := by decide +kernel
theorem dc_X5_cutFrom_66 : decode prog_7_method_2_code 66 = .ok (.lreturn, 1) := by decide +kernel
theorem dc_X5_cutFrom_58 : decode prog_7_method_2_code 58 = .ok (.lload 5, 2) := by decide +kernel
theorem dc_X5_cutFrom_60 : decode prog_7_method_2_code 60 = .ok (.lneg, 1) := by decide +kernel
theorem dc_X5_cutFrom_61 : decode prog_7_method_2_code 61 = .ok (.goto 5, 3) := by decide +kernel
theorem dc_X5_cutFrom_37 : decode prog_7_method_2_code 37 = .ok (.lload_n 3, 1) := by decide +kernel
theorem dc_X5_cutFrom_38 : decode prog_7_method_2_code 38 = .ok (.iload_n 2, 1) := by decide +kernel
theorem dc_X5_cutFrom_39 : decode prog_7_method_2_code 39 = .ok (.lshl, 1) := by decide +kernel
theorem dc_X5_cutFrom_40 : decode prog_7_method_2_code 40 = .ok (.goto 9, 3) := by decide +kernel
theorem dc_X5_cutFrom_11 : decode prog_7_method_2_code 11 = .ok (.lload_n 0, 1) := by decide +kernel
theorem dc_X5_cutFrom_12 : decode prog_7_method_2_code 12 = .ok (.invokestatic 15, 3) := by decide +kernel
theorem dc_X5_cutFrom_15 : decode prog_7_method_2_code 15 = .ok (.ifCond .eq 9, 3) := by decide +kernel
theorem dc_X5_cutFrom_24 : decode prog_7_method_2_code 24 = .ok (.ldc2_w 21, 3) := by decide +kernel
theorem dc_X5_cutFrom_27 : decode prog_7_method_2_code 27 = .ok (.lreturn, 1) := by decide +kernel
theorem dc_X5_cutFrom_18 : decode prog_7_method_2_code 18 = .ok (.ldc2_w 19, 3) := by decide +kernel
theorem dc_X5_cutFrom_21 : decode prog_7_method_2_code 21 = .ok (.goto 6, 3) := by decide +kernel
theorem dc_X5_roundFrom_0 : decode prog_7_method_3_code 0 = .ok (.lload_n 0, 1) := by decide +kernel
theorem dc_X5_roundFrom_1 : decode prog_7_method_3_code 1 = .ok (.invokestatic 27, 3) := by decide +kernel
theorem dc_X5_roundFrom_4 : decode prog_7_method_3_code 4 = .ok (.istore_n 2, 1) := by decide +kernel
theorem dc_X5_roundFrom_5 : decode prog_7_method_3_code 5 = .ok (.iload_n 2, 1) := by decide +kernel
theorem dc_X5_roundFrom_6 : decode prog_7_method_3_code 6 = .ok (.ifCond .ne 8, 3) := by decide +kernel
theorem dc_X5_roundFrom_14 : decode prog_7_method_3_code 14 = .ok (.lload_n 0, 1) := by decide +kernel
theorem dc_X5_roundFrom_15 : decode prog_7_method_3_code 15 = .ok (.invokestatic 33, 3) := by decide +kernel
theorem dc_X5_roundFrom_18 : decode prog_7_method_3_code 18 = .ok (.lstore_n 3, 1) := by decide +kernel
theorem dc_X5_roundFrom_19 : decode prog_7_method_3_code 19 = .ok (.lconst 1, 1) := by decide +kernel
theorem dc_X5_roundFrom_20 : decode prog_7_method_3_code 20 = .ok (.iload_n 2, 1) := by decide +kernel
theorem dc_X5_roundFrom_21 : decode prog_7_method_3_code 21 = .ok (.iconst 1, 1) := by decide +kernel
theorem dc_X5_roundFrom_22 : decode prog_7_method_3_code 22 = .ok (.isub, 1) := by decide +kernel
theorem dc_X5_roundFrom_23 : decode prog_7_method_3_code 23 = .ok (.lshl, 1) := by decide +kernel
theorem dc_X5_roundFrom_24 : decode prog_7_method_3_code 24 = .ok (.lstore 5, 2) := by decide +kernel
theorem dc_X5_roundFrom_26 : decode prog_7_method_3_code 26 = .ok (.lload_n 0, 1) := by decide +kernel
theorem dc_X5_roundFrom_27 : decode prog_7_method_3_code 27 = .ok (.invokestatic 15, 3) := by decide +kernel
theorem dc_X5_roundFrom_30 : decode prog_7_method_3_code 30 = .ok (.ifCond .eq 24, 3) := by decide +kernel
theorem dc_X5_roundFrom_54 : decode prog_7_method_3_code 54 = .ok (.lload_n 3, 1) := by decide +kernel
theorem dc_X5_roundFrom_55 : decode prog_7_method_3_code 55 = .ok (.lload 5, 2) := by decide +kernel
theorem dc_X5_roundFrom_57 : decode prog_7_method_3_code 57 = .ok (.lcmp, 1) := by decide +kernel
theorem dc_X5_roundFrom_58 : decode prog_7_method_3_code 58 = .ok (.ifCond .lt 12, 3) := by decide +kernel
theorem dc_X5_roundFrom_70 : decode prog_7_method_3_code 70 = .ok (.lload_n 0, 1) := by decide +kernel
theorem dc_X5_roundFrom_71 : decode prog_7_method_3_code 71 = .ok (.invokestatic 30, 3) := by decide +kernel
theorem dc_X5_roundFrom_74 : decode prog_7_method_3_code 74 = .ok (.lreturn, 1) := by decide +kernel
theorem dc_X5_roundFrom_61 : decode prog_7_method_3_code 61 = .ok (.lload_n 0, 1) := by decide +kernel
theorem dc_X5_roundFrom_62 : decode prog_7_method_3_code 62 = .ok (.invokestatic 30, 3) := by decide +kernel
theorem dc_X5_roundFrom_65 : decode prog_7_method_3_code 65 = .ok (.lconst 1, 1) := by decide +kernel
theorem dc_X5_roundFrom_66 : decode prog_7_method_3_code 66 = .ok (.ladd, 1) := by decide +kernel
theorem dc_X5_roundFrom_67 : decode prog_7_method_3_code 67 = .ok (.goto 7, 3) := by decide +kernel
theorem dc_X5_roundFrom_33 : decode prog_7_method_3_code 33 = .ok (.lload_n 3, 1) := by decide +kernel
theorem dc_X5_roundFrom_34 : decode prog_7_method_3_code 34 = .ok (.lload 5, 2) := by decide +kernel
theorem dc_X5_roundFrom_36 : decode prog_7_method_3_code 36 = .ok (.lcmp, 1) := by decide +kernel
theorem dc_X5_roundFrom_37 : decode prog_7_method_3_code 37 = .ok (.ifCond .le 12, 3) := by decide +kernel
theorem dc_X5_roundFrom_49 : decode prog_7_method_3_code 49 = .ok (.lload_n 0, 1) := by decide +kernel
theorem dc_X5_roundFrom_50 : decode prog_7_method_3_code 50 = .ok (.invokestatic 30, 3) := by decide +kernel
theorem dc_X5_roundFrom_53 : decode prog_7_method_3_code 53 = .ok (.lreturn, 1) := by decide +kernel
theorem dc_X5_roundFrom_40 : decode prog_7_method_3_code 40 = .ok (.lload_n 0, 1) := by decide +kernel
theorem dc_X5_roundFrom_41 : decode prog_7_method_3_code 41 = .ok (.invokestatic 30, 3) := by decide +kernel
theorem dc_X5_roundFrom_44 : decode prog_7_method_3_code 44 = .ok (.lconst 1, 1) := by decide +kernel
theorem dc_X5_roundFrom_45 : decode prog_7_method_3_code 45 = .ok (.lsub, 1) := by decide +kernel
theorem dc_X5_roundFrom_46 : decode prog_7_method_3_code 46 = .ok (.goto 7, 3) := by decide +kernel
theorem dc_X5_roundFrom_9 : decode prog_7_method_3_code 9 = .ok (.lload_n 0, 1) := by decide +kernel
theorem dc_X5_roundFrom_10 : decode prog_7_method_3_code 10 = .ok (.invokestatic 30, 3) := by decide +kernel
theorem dc_X5_roundFrom_13 : decode prog_7_method_3_code 13 = .ok (.lreturn, 1) := by decide +kernel
theorem dc_X5_shortFrom_0 : decode prog_7_method_4_code 0 = .ok (.ldc2_w 36, 3) := by decide +kernel
theorem dc_X5_shortFrom_3 : decode prog_7_method_4_code 3 = .ok (.ldc2_w 38, 3) := by decide +kernel
theorem dc_X5_shortFrom_6 : decode prog_7_method_4_code 6 = .ok (.lload_n 0, 1) := by decide +kernel
theorem dc_X5_shortFrom_7 : decode prog_7_method_4_code 7 = .ok (.invokestatic 30, 3) := by decide +kernel
theorem dc_X5_shortFrom_10 : decode prog_7_method_4_code 10 = .ok (.invokestatic 40, 3) := by decide +kernel
theorem dc_X5_shortFrom_13 : decode prog_7_method_4_code 13 = .ok (.invokestatic 46, 3) := by decide +kernel
theorem dc_X5_shortFrom_16 : decode prog_7_method_4_code 16 = .ok (.l2i, 1) := by decide +kernel
theorem dc_X5_shortFrom_17 : decode prog_7_method_4_code 17 = .ok (.ireturn, 1) := by decide +kernel
