theorem kc_1 : ∀ w ∈ tables_1_1, w ∈ lw_tbl := fun w h => List.mem_append_right _ (List.mem_append_left _ (h))
theorem kc_2 : ∀ w ∈ tables_1_2, w ∈ lw_tbl := fun w h => List.mem_append_right _ (List.mem_append_right _ (List.mem_append_left _ (h)))
theorem kc_3 : ∀ w ∈ tables_1_3, w ∈ lw_tbl := fun w h => List.mem_append_right _ (List.mem_append_right _ (List.mem_append_right _ (List.mem_append_left _ (h))))
theorem kc_4 : ∀ w ∈ tables_1_4, w ∈ lw_tbl := fun w h => List.mem_append_right _ (List.mem_append_right _ (List.mem_append_right _ (List.mem_append_right _ (List.mem_append_left _ (h)))))
theorem kc_5 : ∀ w ∈ tables_1_5, w ∈ lw_tbl := fun w h => List.mem_append_right _ (List.mem_append_right _ (List.mem_append_right _ (List.mem_append_right _ (List.mem_append_right _ (List.mem_append_left _ (h))))))
theorem kc_6 : ∀ w ∈ tables_1_6, w ∈ lw_tbl := fun w h => List.mem_append_right _ (List.mem_append_right _ (List.mem_append_right _ (List.mem_append_right _ (List.mem_append_right _ (List.mem_append_right _ (List.mem_append_left _ (h)))))))
theorem kc_7 : ∀ w ∈ tables_1_7, w ∈ lw_tbl := fun w h => List.mem_append_right _ (List.mem_append_right _ (List.mem_append_right _ (List.mem_append_right _ (List.mem_append_right _ (List.mem_append_right _ (List.mem_append_right _ (List.mem_append_left _ (h))))))))
theorem kc_8 : ∀ w ∈ tables_1_8, w ∈ lw_tbl := fun w h => List.mem_append_right _ (List.mem_append_right _ (List.mem_append_right _ (List.mem_append_right _ (List.mem_append_right _ (List.mem_append_right _ (List.mem_append_right _ (List.mem_append_right _ (h))))))))
abbrev my_X0_sizeIn : MethodName := ⟨"Exactdoubles$Form", "sizeIn", "(J)J"⟩
abbrev my_X0_withSide : MethodName := ⟨"Exactdoubles$Form", "withSide", "(JZ)J"⟩
abbrev my_X0_joined : MethodName := ⟨"Exactdoubles$Form", "joined", "(JJ)J"⟩
abbrev my_X0_turned : MethodName := ⟨"Exactdoubles$Form", "turned", "(J)J"⟩
abbrev my_X0_isDownOne : MethodName := ⟨"Exactdoubles$Form", "isDownOne", "(J)Z"⟩
abbrev my_X0_highIn : MethodName := ⟨"Exactdoubles$Form", "highIn", "(J)I"⟩
abbrev my_X0_lowIn : MethodName := ⟨"Exactdoubles$Form", "lowIn", "(J)J"⟩
abbrev my_X0_digitsIn : MethodName := ⟨"Exactdoubles$Form", "digitsIn", "(JI)I"⟩
abbrev my_X0_exponentIn : MethodName := ⟨"Exactdoubles$Form", "exponentIn", "(J)I"⟩
abbrev my_X0_isNumber : MethodName := ⟨"Exactdoubles$Form", "isNumber", "(J)Z"⟩
abbrev my_X0_isEndlessOne : MethodName := ⟨"Exactdoubles$Form", "isEndlessOne", "(J)Z"⟩
abbrev my_X0_factorIn : MethodName := ⟨"Exactdoubles$Form", "factorIn", "(J)J"⟩
abbrev my_X0_powerIn : MethodName := ⟨"Exactdoubles$Form", "powerIn", "(J)I"⟩
abbrev my_X0_behindIn : MethodName := ⟨"Exactdoubles$Form", "behindIn", "(J)I"⟩
abbrev my_X0_aheadIn : MethodName := ⟨"Exactdoubles$Form", "aheadIn", "(J)J"⟩
abbrev my_X0_restIn : MethodName := ⟨"Exactdoubles$Form", "restIn", "(J)J"⟩
abbrev my_X0_isWholeOne : MethodName := ⟨"Exactdoubles$Form", "isWholeOne", "(J)Z"⟩
abbrev my_X0_kindIn : MethodName := ⟨"Exactdoubles$Form", "kindIn", "(J)I"⟩
abbrev my_X0_rungIn : MethodName := ⟨"Exactdoubles$Form", "rungIn", "(J)J"⟩
abbrev my_X0_rankIn : MethodName := ⟨"Exactdoubles$Form", "rankIn", "(J)J"⟩
abbrev my_X0_lastOf : MethodName := ⟨"Exactdoubles$Form", "lastOf", "(JJ)J"⟩
abbrev my_X0_firstOf : MethodName := ⟨"Exactdoubles$Form", "firstOf", "(JJ)J"⟩
theorem kw_1_138 : (Jvm.Cond.constantLong "Exactdoubles$Form" (15 : Nat) (9223372036854775807 : Int64)) ∈ ky_B := ky_mem (kc_1 _ (List.mem_of_getElem? (i := 138) rfl)) (by decide +kernel)
theorem kw_3_123 : (Jvm.Cond.constantLong "Exactdoubles$Form" (9 : Nat) (-9223372036854775808 : Int64)) ∈ ky_B := ky_mem (kc_3 _ (List.mem_of_getElem? (i := 123) rfl)) (by decide +kernel)
theorem kw_1_135 : (Jvm.Cond.methodLink "Exactdoubles$Form" (11 : Nat) ({ cls := "Exactdoubles$Form", name := "sizeIn", desc := "(J)J" } : Jvm.MethodName)) ∈ ky_B := ky_mem (kc_1 _ (List.mem_of_getElem? (i := 135) rfl)) (by decide +kernel)
theorem kw_1_136 : (Jvm.Cond.static ({ cls := "Exactdoubles$Form", name := "sizeIn", desc := "(J)J" } : Jvm.MethodName)) ∈ ky_B := ky_mem (kc_1 _ (List.mem_of_getElem? (i := 136) rfl)) (by decide +kernel)
theorem kw_1_15 : (Jvm.Cond.initialized "Exactdoubles$Form") ∈ ky_B := ky_mem (kc_1 _ (List.mem_of_getElem? (i := 15) rfl)) (by decide +kernel)
theorem kw_1_137 : (Jvm.Cond.code ({ cls := "Exactdoubles$Form", name := "sizeIn", desc := "(J)J" } : Jvm.MethodName) prog_2_method_5_code (2 : Nat) (Option.some Jvm.ClassFile.FieldType.long)) ∈ ky_B := ky_mem (kc_1 _ (List.mem_of_getElem? (i := 137) rfl)) (by decide +kernel)
theorem kw_3_47 : (Jvm.Cond.constantLong "Exactdoubles$Form" (17 : Nat) (4503599627370495 : Int64)) ∈ ky_B := ky_mem (kc_3 _ (List.mem_of_getElem? (i := 47) rfl)) (by decide +kernel)
theorem kw_1_131 : (Jvm.Cond.methodLink "Exactdoubles$Form" (19 : Nat) ({ cls := "Exactdoubles$Form", name := "isDownOne", desc := "(J)Z" } : Jvm.MethodName)) ∈ ky_B := ky_mem (kc_1 _ (List.mem_of_getElem? (i := 131) rfl)) (by decide +kernel)
theorem kw_1_132 : (Jvm.Cond.static ({ cls := "Exactdoubles$Form", name := "isDownOne", desc := "(J)Z" } : Jvm.MethodName)) ∈ ky_B := ky_mem (kc_1 _ (List.mem_of_getElem? (i := 132) rfl)) (by decide +kernel)
theorem kw_1_133 : (Jvm.Cond.code ({ cls := "Exactdoubles$Form", name := "isDownOne", desc := "(J)Z" } : Jvm.MethodName) prog_2_method_6_code (2 : Nat) (Option.some Jvm.ClassFile.FieldType.boolean)) ∈ ky_B := ky_mem (kc_1 _ (List.mem_of_getElem? (i := 133) rfl)) (by decide +kernel)
theorem kw_3_41 : (Jvm.Cond.methodLink "Exactdoubles$Form" (23 : Nat) ({ cls := "Exactdoubles$Form", name := "highIn", desc := "(J)I" } : Jvm.MethodName)) ∈ ky_B := ky_mem (kc_3 _ (List.mem_of_getElem? (i := 41) rfl)) (by decide +kernel)
theorem kw_3_42 : (Jvm.Cond.static ({ cls := "Exactdoubles$Form", name := "highIn", desc := "(J)I" } : Jvm.MethodName)) ∈ ky_B := ky_mem (kc_3 _ (List.mem_of_getElem? (i := 42) rfl)) (by decide +kernel)
theorem kw_3_43 : (Jvm.Cond.code ({ cls := "Exactdoubles$Form", name := "highIn", desc := "(J)I" } : Jvm.MethodName) prog_2_method_7_code (2 : Nat) (Option.some Jvm.ClassFile.FieldType.int)) ∈ ky_B := ky_mem (kc_3 _ (List.mem_of_getElem? (i := 43) rfl)) (by decide +kernel)
theorem kw_3_44 : (Jvm.Cond.methodLink "Exactdoubles$Form" (27 : Nat) ({ cls := "Exactdoubles$Form", name := "lowIn", desc := "(J)J" } : Jvm.MethodName)) ∈ ky_B := ky_mem (kc_3 _ (List.mem_of_getElem? (i := 44) rfl)) (by decide +kernel)
theorem kw_3_45 : (Jvm.Cond.static ({ cls := "Exactdoubles$Form", name := "lowIn", desc := "(J)J" } : Jvm.MethodName)) ∈ ky_B := ky_mem (kc_3 _ (List.mem_of_getElem? (i := 45) rfl)) (by decide +kernel)
theorem kw_3_46 : (Jvm.Cond.code ({ cls := "Exactdoubles$Form", name := "lowIn", desc := "(J)J" } : Jvm.MethodName) prog_2_method_8_code (2 : Nat) (Option.some Jvm.ClassFile.FieldType.long)) ∈ ky_B := ky_mem (kc_3 _ (List.mem_of_getElem? (i := 46) rfl)) (by decide +kernel)
theorem kw_3_37 : (Jvm.Cond.constantLong "Exactdoubles$Form" (30 : Nat) (9218868437227405312 : Int64)) ∈ ky_B := ky_mem (kc_3 _ (List.mem_of_getElem? (i := 37) rfl)) (by decide +kernel)
theorem kw_3_48 : (Jvm.Cond.constantLong "Exactdoubles$Form" (43 : Nat) (4503599627370496 : Int64)) ∈ ky_B := ky_mem (kc_3 _ (List.mem_of_getElem? (i := 48) rfl)) (by decide +kernel)
theorem kw_3_52 : (Jvm.Cond.methodLink "Exactdoubles$Form" (45 : Nat) ({ cls := "java/lang/Math", name := "max", desc := "(II)I" } : Jvm.MethodName)) ∈ ky_B := ky_mem (kc_3 _ (List.mem_of_getElem? (i := 52) rfl)) (by decide +kernel)
theorem kw_1_185 : (Jvm.Cond.static ({ cls := "java/lang/Math", name := "max", desc := "(II)I" } : Jvm.MethodName)) ∈ ky_B := ky_mem (kc_1 _ (List.mem_of_getElem? (i := 185) rfl)) (by decide +kernel)
theorem kw_1_16 : (Jvm.Cond.initialized "java/lang/Math") ∈ ky_B := ky_mem (kc_1 _ (List.mem_of_getElem? (i := 16) rfl)) (by decide +kernel)
theorem kw_1_186 : (Jvm.Cond.code ({ cls := "java/lang/Math", name := "max", desc := "(II)I" } : Jvm.MethodName) prog_20_method_65_code (2 : Nat) (Option.some Jvm.ClassFile.FieldType.int)) ∈ ky_B := ky_mem (kc_1 _ (List.mem_of_getElem? (i := 186) rfl)) (by decide +kernel)
theorem kw_3_103 : (Jvm.Cond.methodLink "Exactdoubles$Form" (51 : Nat) ({ cls := "java/lang/Math", name := "min", desc := "(II)I" } : Jvm.MethodName)) ∈ ky_B := ky_mem (kc_3 _ (List.mem_of_getElem? (i := 103) rfl)) (by decide +kernel)
theorem kw_1_203 : (Jvm.Cond.static ({ cls := "java/lang/Math", name := "min", desc := "(II)I" } : Jvm.MethodName)) ∈ ky_B := ky_mem (kc_1 _ (List.mem_of_getElem? (i := 203) rfl)) (by decide +kernel)
theorem kw_1_204 : (Jvm.Cond.code ({ cls := "java/lang/Math", name := "min", desc := "(II)I" } : Jvm.MethodName) prog_20_method_69_code (2 : Nat) (Option.some Jvm.ClassFile.FieldType.int)) ∈ ky_B := ky_mem (kc_1 _ (List.mem_of_getElem? (i := 204) rfl)) (by decide +kernel)
theorem kw_3_99 : (Jvm.Cond.methodLink "Exactdoubles$Form" (54 : Nat) ({ cls := "Exactdoubles$Form", name := "factorIn", desc := "(J)J" } : Jvm.MethodName)) ∈ ky_B := ky_mem (kc_3 _ (List.mem_of_getElem? (i := 99) rfl)) (by decide +kernel)
theorem kw_3_39 : (Jvm.Cond.static ({ cls := "Exactdoubles$Form", name := "factorIn", desc := "(J)J" } : Jvm.MethodName)) ∈ ky_B := ky_mem (kc_3 _ (List.mem_of_getElem? (i := 39) rfl)) (by decide +kernel)
theorem kw_3_40 : (Jvm.Cond.code ({ cls := "Exactdoubles$Form", name := "factorIn", desc := "(J)J" } : Jvm.MethodName) prog_2_method_19_code (2 : Nat) (Option.some Jvm.ClassFile.FieldType.long)) ∈ ky_B := ky_mem (kc_3 _ (List.mem_of_getElem? (i := 40) rfl)) (by decide +kernel)
theorem kw_3_100 : (Jvm.Cond.methodLink "Exactdoubles$Form" (57 : Nat) ({ cls := "Exactdoubles$Form", name := "behindIn", desc := "(J)I" } : Jvm.MethodName)) ∈ ky_B := ky_mem (kc_3 _ (List.mem_of_getElem? (i := 100) rfl)) (by decide +kernel)
theorem kw_3_101 : (Jvm.Cond.static ({ cls := "Exactdoubles$Form", name := "behindIn", desc := "(J)I" } : Jvm.MethodName)) ∈ ky_B := ky_mem (kc_3 _ (List.mem_of_getElem? (i := 101) rfl)) (by decide +kernel)
theorem kw_3_102 : (Jvm.Cond.code ({ cls := "Exactdoubles$Form", name := "behindIn", desc := "(J)I" } : Jvm.MethodName) prog_2_method_21_code (2 : Nat) (Option.some Jvm.ClassFile.FieldType.int)) ∈ ky_B := ky_mem (kc_3 _ (List.mem_of_getElem? (i := 102) rfl)) (by decide +kernel)
theorem kw_3_231 : (Jvm.Cond.methodLink "Exactdoubles$Form" (32 : Nat) ({ cls := "Exactdoubles$Form", name := "restIn", desc := "(J)J" } : Jvm.MethodName)) ∈ ky_B := ky_mem (kc_3 _ (List.mem_of_getElem? (i := 231) rfl)) (by decide +kernel)
theorem kw_3_97 : (Jvm.Cond.static ({ cls := "Exactdoubles$Form", name := "restIn", desc := "(J)J" } : Jvm.MethodName)) ∈ ky_B := ky_mem (kc_3 _ (List.mem_of_getElem? (i := 97) rfl)) (by decide +kernel)
theorem kw_3_98 : (Jvm.Cond.code ({ cls := "Exactdoubles$Form", name := "restIn", desc := "(J)J" } : Jvm.MethodName) prog_2_method_23_code (2 : Nat) (Option.some Jvm.ClassFile.FieldType.long)) ∈ ky_B := ky_mem (kc_3 _ (List.mem_of_getElem? (i := 98) rfl)) (by decide +kernel)
theorem kw_3_232 : (Jvm.Cond.methodLink "Exactdoubles$Form" (35 : Nat) ({ cls := "Exactdoubles$Form", name := "isEndlessOne", desc := "(J)Z" } : Jvm.MethodName)) ∈ ky_B := ky_mem (kc_3 _ (List.mem_of_getElem? (i := 232) rfl)) (by decide +kernel)
theorem kw_3_35 : (Jvm.Cond.static ({ cls := "Exactdoubles$Form", name := "isEndlessOne", desc := "(J)Z" } : Jvm.MethodName)) ∈ ky_B := ky_mem (kc_3 _ (List.mem_of_getElem? (i := 35) rfl)) (by decide +kernel)
theorem kw_3_36 : (Jvm.Cond.code ({ cls := "Exactdoubles$Form", name := "isEndlessOne", desc := "(J)Z" } : Jvm.MethodName) prog_2_method_12_code (2 : Nat) (Option.some Jvm.ClassFile.FieldType.boolean)) ∈ ky_B := ky_mem (kc_3 _ (List.mem_of_getElem? (i := 36) rfl)) (by decide +kernel)
theorem kw_1_134 : (Jvm.Cond.constantLong "Exactdoubles$Form" (38 : Nat) (-1 : Int64)) ∈ ky_B := ky_mem (kc_1 _ (List.mem_of_getElem? (i := 134) rfl)) (by decide +kernel)
theorem kw_1_128 : (Jvm.Cond.methodLink "Exactdoubles$Form" (40 : Nat) ({ cls := "Exactdoubles$Form", name := "rankIn", desc := "(J)J" } : Jvm.MethodName)) ∈ ky_B := ky_mem (kc_1 _ (List.mem_of_getElem? (i := 128) rfl)) (by decide +kernel)
theorem kw_1_129 : (Jvm.Cond.static ({ cls := "Exactdoubles$Form", name := "rankIn", desc := "(J)J" } : Jvm.MethodName)) ∈ ky_B := ky_mem (kc_1 _ (List.mem_of_getElem? (i := 129) rfl)) (by decide +kernel)
theorem kw_1_130 : (Jvm.Cond.code ({ cls := "Exactdoubles$Form", name := "rankIn", desc := "(J)J" } : Jvm.MethodName) prog_2_method_16_code (2 : Nat) (Option.some Jvm.ClassFile.FieldType.long)) ∈ ky_B := ky_mem (kc_1 _ (List.mem_of_getElem? (i := 130) rfl)) (by decide +kernel)
theorem ks_X0_11 : ky_wS "Exactdoubles$Form" 11 my_X0_sizeIn prog_2_method_5_code 2 (Option.some Jvm.ClassFile.FieldType.long) 1 := ⟨kw_1_135, kw_1_136, kw_1_15, kw_1_137, by decide, by decide, by decide +kernel⟩
theorem ks_X0_19 : ky_wS "Exactdoubles$Form" 19 my_X0_isDownOne prog_2_method_6_code 2 (Option.some Jvm.ClassFile.FieldType.boolean) 1 := ⟨kw_1_131, kw_1_132, kw_1_15, kw_1_133, by decide, by decide, by decide +kernel⟩
theorem ks_X0_23 : ky_wS "Exactdoubles$Form" 23 my_X0_highIn prog_2_method_7_code 2 (Option.some Jvm.ClassFile.FieldType.int) 1 := ⟨kw_3_41, kw_3_42, kw_1_15, kw_3_43, by decide, by decide, by decide +kernel⟩
theorem ks_X0_27 : ky_wS "Exactdoubles$Form" 27 my_X0_lowIn prog_2_method_8_code 2 (Option.some Jvm.ClassFile.FieldType.long) 1 := ⟨kw_3_44, kw_3_45, kw_1_15, kw_3_46, by decide, by decide, by decide +kernel⟩
theorem ks_X0_54 : ky_wS "Exactdoubles$Form" 54 my_X0_factorIn prog_2_method_19_code 2 (Option.some Jvm.ClassFile.FieldType.long) 1 := ⟨kw_3_99, kw_3_39, kw_1_15, kw_3_40, by decide, by decide, by decide +kernel⟩
theorem ks_X0_57 : ky_wS "Exactdoubles$Form" 57 my_X0_behindIn prog_2_method_21_code 2 (Option.some Jvm.ClassFile.FieldType.int) 1 := ⟨kw_3_100, kw_3_101, kw_1_15, kw_3_102, by decide, by decide, by decide +kernel⟩
theorem ks_X0_32 : ky_wS "Exactdoubles$Form" 32 my_X0_restIn prog_2_method_23_code 2 (Option.some Jvm.ClassFile.FieldType.long) 1 := ⟨kw_3_231, kw_3_97, kw_1_15, kw_3_98, by decide, by decide, by decide +kernel⟩
theorem ks_X0_35 : ky_wS "Exactdoubles$Form" 35 my_X0_isEndlessOne prog_2_method_12_code 2 (Option.some Jvm.ClassFile.FieldType.boolean) 1 := ⟨kw_3_232, kw_3_35, kw_1_15, kw_3_36, by decide, by decide, by decide +kernel⟩
theorem ks_X0_40 : ky_wS "Exactdoubles$Form" 40 my_X0_rankIn prog_2_method_16_code 2 (Option.some Jvm.ClassFile.FieldType.long) 1 := ⟨kw_1_128, kw_1_129, kw_1_15, kw_1_130, by decide, by decide, by decide +kernel⟩
theorem dc_X0_sizeIn_0 : decode prog_2_method_5_code 0 = .ok (.lload_n 0, 1) := by decide +kernel
theorem dc_X0_sizeIn_1 : decode prog_2_method_5_code 1 = .ok (.ldc2_w 15, 3) := by decide +kernel
theorem dc_X0_sizeIn_4 : decode prog_2_method_5_code 4 = .ok (.land, 1) := by decide +kernel
theorem dc_X0_sizeIn_5 : decode prog_2_method_5_code 5 = .ok (.lreturn, 1) := by decide +kernel
theorem dc_X0_withSide_0 : decode prog_2_method_2_code 0 = .ok (.iload_n 2, 1) := by decide +kernel
theorem dc_X0_withSide_1 : decode prog_2_method_2_code 1 = .ok (.ifCond .eq 11, 3) := by decide +kernel
theorem dc_X0_withSide_12 : decode prog_2_method_2_code 12 = .ok (.lload_n 0, 1) := by decide +kernel
theorem dc_X0_withSide_13 : decode prog_2_method_2_code 13 = .ok (.lreturn, 1) := by decide +kernel
theorem dc_X0_withSide_4 : decode prog_2_method_2_code 4 = .ok (.lload_n 0, 1) := by decide +kernel
theorem dc_X0_withSide_5 : decode prog_2_method_2_code 5 = .ok (.ldc2_w 9, 3) := by decide +kernel
theorem dc_X0_withSide_8 : decode prog_2_method_2_code 8 = .ok (.lor, 1) := by decide +kernel
theorem dc_X0_withSide_9 : decode prog_2_method_2_code 9 = .ok (.goto 4, 3) := by decide +kernel
theorem dc_X0_joined_0 : decode prog_2_method_3_code 0 = .ok (.lload_n 0, 1) := by decide +kernel
theorem dc_X0_joined_1 : decode prog_2_method_3_code 1 = .ok (.invokestatic 11, 3) := by decide +kernel
theorem dc_X0_joined_4 : decode prog_2_method_3_code 4 = .ok (.lload_n 2, 1) := by decide +kernel
theorem dc_X0_joined_5 : decode prog_2_method_3_code 5 = .ok (.ldc2_w 9, 3) := by decide +kernel
theorem dc_X0_joined_8 : decode prog_2_method_3_code 8 = .ok (.land, 1) := by decide +kernel
theorem dc_X0_joined_9 : decode prog_2_method_3_code 9 = .ok (.lor, 1) := by decide +kernel
theorem dc_X0_joined_10 : decode prog_2_method_3_code 10 = .ok (.lreturn, 1) := by decide +kernel
theorem dc_X0_turned_0 : decode prog_2_method_4_code 0 = .ok (.lload_n 0, 1) := by decide +kernel
theorem dc_X0_turned_1 : decode prog_2_method_4_code 1 = .ok (.ldc2_w 9, 3) := by decide +kernel
theorem dc_X0_turned_4 : decode prog_2_method_4_code 4 = .ok (.lxor, 1) := by decide +kernel
theorem dc_X0_turned_5 : decode prog_2_method_4_code 5 = .ok (.lreturn, 1) := by decide +kernel
theorem dc_X0_isDownOne_0 : decode prog_2_method_6_code 0 = .ok (.lload_n 0, 1) := by decide +kernel
theorem dc_X0_isDownOne_1 : decode prog_2_method_6_code 1 = .ok (.lconst 0, 1) := by decide +kernel
theorem dc_X0_isDownOne_2 : decode prog_2_method_6_code 2 = .ok (.lcmp, 1) := by decide +kernel
theorem dc_X0_isDownOne_3 : decode prog_2_method_6_code 3 = .ok (.ifCond .ge 7, 3) := by decide +kernel
theorem dc_X0_isDownOne_10 : decode prog_2_method_6_code 10 = .ok (.iconst 0, 1) := by decide +kernel
theorem dc_X0_isDownOne_11 : decode prog_2_method_6_code 11 = .ok (.ireturn, 1) := by decide +kernel
theorem dc_X0_isDownOne_6 : decode prog_2_method_6_code 6 = .ok (.iconst 1, 1) := by decide +kernel
theorem dc_X0_isDownOne_7 : decode prog_2_method_6_code 7 = .ok (.goto 4, 3) := by decide +kernel
theorem dc_X0_highIn_0 : decode prog_2_method_7_code 0 = .ok (.lload_n 0, 1) := by decide +kernel
theorem dc_X0_highIn_1 : decode prog_2_method_7_code 1 = .ok (.bipush 52, 2) := by decide +kernel
theorem dc_X0_highIn_3 : decode prog_2_method_7_code 3 = .ok (.lushr, 1) := by decide +kernel
theorem dc_X0_highIn_4 : decode prog_2_method_7_code 4 = .ok (.l2i, 1) := by decide +kernel
theorem dc_X0_highIn_5 : decode prog_2_method_7_code 5 = .ok (.sipush 2047, 3) := by decide +kernel
theorem dc_X0_highIn_8 : decode prog_2_method_7_code 8 = .ok (.iand, 1) := by decide +kernel
theorem dc_X0_highIn_9 : decode prog_2_method_7_code 9 = .ok (.ireturn, 1) := by decide +kernel
theorem dc_X0_lowIn_0 : decode prog_2_method_8_code 0 = .ok (.lload_n 0, 1) := by decide +kernel
theorem dc_X0_lowIn_1 : decode prog_2_method_8_code 1 = .ok (.ldc2_w 17, 3) := by decide +kernel
theorem dc_X0_lowIn_4 : decode prog_2_method_8_code 4 = .ok (.land, 1) := by decide +kernel
theorem dc_X0_lowIn_5 : decode prog_2_method_8_code 5 = .ok (.lreturn, 1) := by decide +kernel
theorem dc_X0_digitsIn_0 : decode prog_2_method_9_code 0 = .ok (.iload_n 2, 1) := by decide +kernel
theorem dc_X0_digitsIn_1 : decode prog_2_method_9_code 1 = .ok (.tableswitch 54 0 2 #[27, 40, 45], 27) := by decide +kernel
theorem dc_X0_digitsIn_28 : decode prog_2_method_9_code 28 = .ok (.lload_n 0, 1) := by decide +kernel
theorem dc_X0_digitsIn_29 : decode prog_2_method_9_code 29 = .ok (.invokestatic 19, 3) := by decide +kernel
theorem dc_X0_digitsIn_32 : decode prog_2_method_9_code 32 = .ok (.ifCond .eq 7, 3) := by decide +kernel
theorem dc_X0_digitsIn_39 : decode prog_2_method_9_code 39 = .ok (.iconst 0, 1) := by decide +kernel
theorem dc_X0_digitsIn_40 : decode prog_2_method_9_code 40 = .ok (.ireturn, 1) := by decide +kernel
theorem dc_X0_digitsIn_35 : decode prog_2_method_9_code 35 = .ok (.iconst 1, 1) := by decide +kernel
theorem dc_X0_digitsIn_36 : decode prog_2_method_9_code 36 = .ok (.goto 4, 3) := by decide +kernel
theorem dc_X0_digitsIn_41 : decode prog_2_method_9_code 41 = .ok (.lload_n 0, 1) := by decide +kernel
theorem dc_X0_digitsIn_42 : decode prog_2_method_9_code 42 = .ok (.invokestatic 23, 3) := by decide +kernel
theorem dc_X0_digitsIn_45 : decode prog_2_method_9_code 45 = .ok (.ireturn, 1) := by decide +kernel
theorem dc_X0_digitsIn_46 : decode prog_2_method_9_code 46 = .ok (.lload_n 0, 1) := by decide +kernel
theorem dc_X0_digitsIn_47 : decode prog_2_method_9_code 47 = .ok (.invokestatic 27, 3) := by decide +kernel
theorem dc_X0_digitsIn_50 : decode prog_2_method_9_code 50 = .ok (.bipush 32, 2) := by decide +kernel
theorem dc_X0_digitsIn_52 : decode prog_2_method_9_code 52 = .ok (.lushr, 1) := by decide +kernel
theorem dc_X0_digitsIn_53 : decode prog_2_method_9_code 53 = .ok (.l2i, 1) := by decide +kernel
theorem dc_X0_digitsIn_54 : decode prog_2_method_9_code 54 = .ok (.ireturn, 1) := by decide +kernel
theorem dc_X0_digitsIn_55 : decode prog_2_method_9_code 55 = .ok (.lload_n 0, 1) := by decide +kernel
theorem dc_X0_digitsIn_56 : decode prog_2_method_9_code 56 = .ok (.invokestatic 27, 3) := by decide +kernel
theorem dc_X0_digitsIn_59 : decode prog_2_method_9_code 59 = .ok (.l2i, 1) := by decide +kernel
theorem dc_X0_digitsIn_60 : decode prog_2_method_9_code 60 = .ok (.ireturn, 1) := by decide +kernel
theorem dc_X0_exponentIn_0 : decode prog_2_method_10_code 0 = .ok (.lload_n 0, 1) := by decide +kernel
theorem dc_X0_exponentIn_1 : decode prog_2_method_10_code 1 = .ok (.invokestatic 23, 3) := by decide +kernel
theorem dc_X0_exponentIn_4 : decode prog_2_method_10_code 4 = .ok (.sipush 1023, 3) := by decide +kernel
theorem dc_X0_exponentIn_7 : decode prog_2_method_10_code 7 = .ok (.isub, 1) := by decide +kernel
theorem dc_X0_exponentIn_8 : decode prog_2_method_10_code 8 = .ok (.ireturn, 1) := by decide +kernel
theorem dc_X0_isNumber_0 : decode prog_2_method_11_code 0 = .ok (.lload_n 0, 1) := by decide +kernel
theorem dc_X0_isNumber_1 : decode prog_2_method_11_code 1 = .ok (.invokestatic 11, 3) := by decide +kernel
theorem dc_X0_isNumber_4 : decode prog_2_method_11_code 4 = .ok (.ldc2_w 30, 3) := by decide +kernel
theorem dc_X0_isNumber_7 : decode prog_2_method_11_code 7 = .ok (.lcmp, 1) := by decide +kernel
theorem dc_X0_isNumber_8 : decode prog_2_method_11_code 8 = .ok (.ifCond .gt 7, 3) := by decide +kernel
theorem dc_X0_isNumber_15 : decode prog_2_method_11_code 15 = .ok (.iconst 0, 1) := by decide +kernel
theorem dc_X0_isNumber_16 : decode prog_2_method_11_code 16 = .ok (.ireturn, 1) := by decide +kernel
theorem dc_X0_isNumber_11 : decode prog_2_method_11_code 11 = .ok (.iconst 1, 1) := by decide +kernel
theorem dc_X0_isNumber_12 : decode prog_2_method_11_code 12 = .ok (.goto 4, 3) := by decide +kernel
theorem dc_X0_isEndlessOne_0 : decode prog_2_method_12_code 0 = .ok (.lload_n 0, 1) := by decide +kernel
theorem dc_X0_isEndlessOne_1 : decode prog_2_method_12_code 1 = .ok (.invokestatic 11, 3) := by decide +kernel
theorem dc_X0_isEndlessOne_4 : decode prog_2_method_12_code 4 = .ok (.ldc2_w 30, 3) := by decide +kernel
theorem dc_X0_isEndlessOne_7 : decode prog_2_method_12_code 7 = .ok (.lcmp, 1) := by decide +kernel
theorem dc_X0_isEndlessOne_8 : decode prog_2_method_12_code 8 = .ok (.ifCond .ne 7, 3) := by decide +kernel
theorem dc_X0_isEndlessOne_15 : decode prog_2_method_12_code 15 = .ok (.iconst 0, 1) := by decide +kernel
theorem dc_X0_isEndlessOne_16 : decode prog_2_method_12_code 16 = .ok (.ireturn, 1) := by decide +kernel
theorem dc_X0_isEndlessOne_11 : decode prog_2_method_12_code 11 = .ok (.iconst 1, 1) := by decide +kernel
theorem dc_X0_isEndlessOne_12 : decode prog_2_method_12_code 12 = .ok (.goto 4, 3) := by decide +kernel
theorem dc_X0_factorIn_0 : decode prog_2_method_19_code 0 = .ok (.lload_n 0, 1) := by decide +kernel
theorem dc_X0_factorIn_1 : decode prog_2_method_19_code 1 = .ok (.invokestatic 23, 3) := by decide +kernel
theorem dc_X0_factorIn_4 : decode prog_2_method_19_code 4 = .ok (.ifCond .ne 10, 3) := by decide +kernel
theorem dc_X0_factorIn_14 : decode prog_2_method_19_code 14 = .ok (.lload_n 0, 1) := by decide +kernel
theorem dc_X0_factorIn_15 : decode prog_2_method_19_code 15 = .ok (.invokestatic 27, 3) := by decide +kernel
theorem dc_X0_factorIn_18 : decode prog_2_method_19_code 18 = .ok (.ldc2_w 43, 3) := by decide +kernel
theorem dc_X0_factorIn_21 : decode prog_2_method_19_code 21 = .ok (.ladd, 1) := by decide +kernel
theorem dc_X0_factorIn_22 : decode prog_2_method_19_code 22 = .ok (.lreturn, 1) := by decide +kernel
theorem dc_X0_factorIn_7 : decode prog_2_method_19_code 7 = .ok (.lload_n 0, 1) := by decide +kernel
theorem dc_X0_factorIn_8 : decode prog_2_method_19_code 8 = .ok (.invokestatic 27, 3) := by decide +kernel
theorem dc_X0_factorIn_11 : decode prog_2_method_19_code 11 = .ok (.goto 11, 3) := by decide +kernel
theorem dc_X0_powerIn_0 : decode prog_2_method_20_code 0 = .ok (.lload_n 0, 1) := by decide +kernel
theorem dc_X0_powerIn_1 : decode prog_2_method_20_code 1 = .ok (.invokestatic 23, 3) := by decide +kernel
theorem dc_X0_powerIn_4 : decode prog_2_method_20_code 4 = .ok (.iconst 1, 1) := by decide +kernel
theorem dc_X0_powerIn_5 : decode prog_2_method_20_code 5 = .ok (.invokestatic 45, 3) := by decide +kernel
theorem dc_X0_powerIn_8 : decode prog_2_method_20_code 8 = .ok (.sipush (-1074), 3) := by decide +kernel
theorem dc_X0_powerIn_11 : decode prog_2_method_20_code 11 = .ok (.iadd, 1) := by decide +kernel
theorem dc_X0_powerIn_12 : decode prog_2_method_20_code 12 = .ok (.iconst 1, 1) := by decide +kernel
theorem dc_X0_powerIn_13 : decode prog_2_method_20_code 13 = .ok (.isub, 1) := by decide +kernel
theorem dc_X0_powerIn_14 : decode prog_2_method_20_code 14 = .ok (.ireturn, 1) := by decide +kernel
theorem dc_X0_behindIn_0 : decode prog_2_method_21_code 0 = .ok (.iconst 0, 1) := by decide +kernel
theorem dc_X0_behindIn_1 : decode prog_2_method_21_code 1 = .ok (.bipush 60, 2) := by decide +kernel
theorem dc_X0_behindIn_3 : decode prog_2_method_21_code 3 = .ok (.sipush 1075, 3) := by decide +kernel
theorem dc_X0_behindIn_6 : decode prog_2_method_21_code 6 = .ok (.lload_n 0, 1) := by decide +kernel
theorem dc_X0_behindIn_7 : decode prog_2_method_21_code 7 = .ok (.invokestatic 23, 3) := by decide +kernel
theorem dc_X0_behindIn_10 : decode prog_2_method_21_code 10 = .ok (.isub, 1) := by decide +kernel
theorem dc_X0_behindIn_11 : decode prog_2_method_21_code 11 = .ok (.invokestatic 51, 3) := by decide +kernel
theorem dc_X0_behindIn_14 : decode prog_2_method_21_code 14 = .ok (.invokestatic 45, 3) := by decide +kernel
theorem dc_X0_behindIn_17 : decode prog_2_method_21_code 17 = .ok (.ireturn, 1) := by decide +kernel
theorem dc_X0_aheadIn_0 : decode prog_2_method_22_code 0 = .ok (.lload_n 0, 1) := by decide +kernel
theorem dc_X0_aheadIn_1 : decode prog_2_method_22_code 1 = .ok (.invokestatic 54, 3) := by decide +kernel
theorem dc_X0_aheadIn_4 : decode prog_2_method_22_code 4 = .ok (.lload_n 0, 1) := by decide +kernel
theorem dc_X0_aheadIn_5 : decode prog_2_method_22_code 5 = .ok (.invokestatic 57, 3) := by decide +kernel
theorem dc_X0_aheadIn_8 : decode prog_2_method_22_code 8 = .ok (.lushr, 1) := by decide +kernel
theorem dc_X0_aheadIn_9 : decode prog_2_method_22_code 9 = .ok (.lreturn, 1) := by decide +kernel
theorem dc_X0_restIn_0 : decode prog_2_method_23_code 0 = .ok (.lload_n 0, 1) := by decide +kernel
theorem dc_X0_restIn_1 : decode prog_2_method_23_code 1 = .ok (.invokestatic 54, 3) := by decide +kernel
theorem dc_X0_restIn_4 : decode prog_2_method_23_code 4 = .ok (.lconst 1, 1) := by decide +kernel
theorem dc_X0_restIn_5 : decode prog_2_method_23_code 5 = .ok (.lload_n 0, 1) := by decide +kernel
theorem dc_X0_restIn_6 : decode prog_2_method_23_code 6 = .ok (.invokestatic 57, 3) := by decide +kernel
theorem dc_X0_restIn_9 : decode prog_2_method_23_code 9 = .ok (.lshl, 1) := by decide +kernel
theorem dc_X0_restIn_10 : decode prog_2_method_23_code 10 = .ok (.lconst 1, 1) := by decide +kernel
theorem dc_X0_restIn_11 : decode prog_2_method_23_code 11 = .ok (.lsub, 1) := by decide +kernel
theorem dc_X0_restIn_12 : decode prog_2_method_23_code 12 = .ok (.land, 1) := by decide +kernel
theorem dc_X0_restIn_13 : decode prog_2_method_23_code 13 = .ok (.lreturn, 1) := by decide +kernel
theorem dc_X0_isWholeOne_0 : decode prog_2_method_13_code 0 = .ok (.lload_n 0, 1) := by decide +kernel
theorem dc_X0_isWholeOne_1 : decode prog_2_method_13_code 1 = .ok (.invokestatic 32, 3) := by decide +kernel
theorem dc_X0_isWholeOne_4 : decode prog_2_method_13_code 4 = .ok (.lconst 0, 1) := by decide +kernel
theorem dc_X0_isWholeOne_5 : decode prog_2_method_13_code 5 = .ok (.lcmp, 1) := by decide +kernel
theorem dc_X0_isWholeOne_6 : decode prog_2_method_13_code 6 = .ok (.ifCond .ne 14, 3) := by decide +kernel
theorem dc_X0_isWholeOne_20 : decode prog_2_method_13_code 20 = .ok (.iconst 0, 1) := by decide +kernel
theorem dc_X0_isWholeOne_21 : decode prog_2_method_13_code 21 = .ok (.ireturn, 1) := by decide +kernel
theorem dc_X0_isWholeOne_9 : decode prog_2_method_13_code 9 = .ok (.lload_n 0, 1) := by decide +kernel
theorem dc_X0_isWholeOne_10 : decode prog_2_method_13_code 10 = .ok (.invokestatic 35, 3) := by decide +kernel
theorem dc_X0_isWholeOne_13 : decode prog_2_method_13_code 13 = .ok (.ifCond .ne 7, 3) := by decide +kernel
theorem dc_X0_isWholeOne_16 : decode prog_2_method_13_code 16 = .ok (.iconst 1, 1) := by decide +kernel
theorem dc_X0_isWholeOne_17 : decode prog_2_method_13_code 17 = .ok (.goto 4, 3) := by decide +kernel
theorem dc_X0_kindIn_0 : decode prog_2_method_14_code 0 = .ok (.lload_n 0, 1) := by decide +kernel
theorem dc_X0_kindIn_1 : decode prog_2_method_14_code 1 = .ok (.invokestatic 11, 3) := by decide +kernel
theorem dc_X0_kindIn_4 : decode prog_2_method_14_code 4 = .ok (.lconst 0, 1) := by decide +kernel
theorem dc_X0_kindIn_5 : decode prog_2_method_14_code 5 = .ok (.lcmp, 1) := by decide +kernel
theorem dc_X0_kindIn_6 : decode prog_2_method_14_code 6 = .ok (.ifCond .ne 5, 3) := by decide +kernel
theorem dc_X0_kindIn_11 : decode prog_2_method_14_code 11 = .ok (.lload_n 0, 1) := by decide +kernel
theorem dc_X0_kindIn_12 : decode prog_2_method_14_code 12 = .ok (.invokestatic 23, 3) := by decide +kernel
theorem dc_X0_kindIn_15 : decode prog_2_method_14_code 15 = .ok (.ifCond .ne 5, 3) := by decide +kernel
theorem dc_X0_kindIn_20 : decode prog_2_method_14_code 20 = .ok (.lload_n 0, 1) := by decide +kernel
theorem dc_X0_kindIn_21 : decode prog_2_method_14_code 21 = .ok (.invokestatic 35, 3) := by decide +kernel
theorem dc_X0_kindIn_24 : decode prog_2_method_14_code 24 = .ok (.ifCond .eq 5, 3) := by decide +kernel
theorem dc_X0_kindIn_29 : decode prog_2_method_14_code 29 = .ok (.lload_n 0, 1) := by decide +kernel
theorem dc_X0_kindIn_30 : decode prog_2_method_14_code 30 = .ok (.invokestatic 32, 3) := by decide +kernel
theorem dc_X0_kindIn_33 : decode prog_2_method_14_code 33 = .ok (.lconst 0, 1) := by decide +kernel
theorem dc_X0_kindIn_34 : decode prog_2_method_14_code 34 = .ok (.lcmp, 1) := by decide +kernel
theorem dc_X0_kindIn_35 : decode prog_2_method_14_code 35 = .ok (.ifCond .ne 7, 3) := by decide +kernel
theorem dc_X0_kindIn_42 : decode prog_2_method_14_code 42 = .ok (.iconst 2, 1) := by decide +kernel
theorem dc_X0_kindIn_43 : decode prog_2_method_14_code 43 = .ok (.ireturn, 1) := by decide +kernel
theorem dc_X0_kindIn_38 : decode prog_2_method_14_code 38 = .ok (.iconst 3, 1) := by decide +kernel
theorem dc_X0_kindIn_39 : decode prog_2_method_14_code 39 = .ok (.goto 4, 3) := by decide +kernel
theorem dc_X0_kindIn_27 : decode prog_2_method_14_code 27 = .ok (.iconst 4, 1) := by decide +kernel
theorem dc_X0_kindIn_28 : decode prog_2_method_14_code 28 = .ok (.ireturn, 1) := by decide +kernel
theorem dc_X0_kindIn_18 : decode prog_2_method_14_code 18 = .ok (.iconst 1, 1) := by decide +kernel
theorem dc_X0_kindIn_19 : decode prog_2_method_14_code 19 = .ok (.ireturn, 1) := by decide +kernel
theorem dc_X0_kindIn_9 : decode prog_2_method_14_code 9 = .ok (.iconst 0, 1) := by decide +kernel
theorem dc_X0_kindIn_10 : decode prog_2_method_14_code 10 = .ok (.ireturn, 1) := by decide +kernel
theorem dc_X0_rungIn_0 : decode prog_2_method_15_code 0 = .ok (.lload_n 0, 1) := by decide +kernel
theorem dc_X0_rungIn_1 : decode prog_2_method_15_code 1 = .ok (.invokestatic 19, 3) := by decide +kernel
theorem dc_X0_rungIn_4 : decode prog_2_method_15_code 4 = .ok (.ifCond .eq 11, 3) := by decide +kernel
theorem dc_X0_rungIn_15 : decode prog_2_method_15_code 15 = .ok (.lload_n 0, 1) := by decide +kernel
theorem dc_X0_rungIn_16 : decode prog_2_method_15_code 16 = .ok (.invokestatic 11, 3) := by decide +kernel
theorem dc_X0_rungIn_19 : decode prog_2_method_15_code 19 = .ok (.lreturn, 1) := by decide +kernel
theorem dc_X0_rungIn_7 : decode prog_2_method_15_code 7 = .ok (.lload_n 0, 1) := by decide +kernel
theorem dc_X0_rungIn_8 : decode prog_2_method_15_code 8 = .ok (.invokestatic 11, 3) := by decide +kernel
theorem dc_X0_rungIn_11 : decode prog_2_method_15_code 11 = .ok (.lneg, 1) := by decide +kernel
theorem dc_X0_rungIn_12 : decode prog_2_method_15_code 12 = .ok (.goto 7, 3) := by decide +kernel
theorem dc_X0_rankIn_0 : decode prog_2_method_16_code 0 = .ok (.lload_n 0, 1) := by decide +kernel
theorem dc_X0_rankIn_1 : decode prog_2_method_16_code 1 = .ok (.invokestatic 19, 3) := by decide +kernel
theorem dc_X0_rankIn_4 : decode prog_2_method_16_code 4 = .ok (.ifCond .eq 14, 3) := by decide +kernel
theorem dc_X0_rankIn_18 : decode prog_2_method_16_code 18 = .ok (.lload_n 0, 1) := by decide +kernel
theorem dc_X0_rankIn_19 : decode prog_2_method_16_code 19 = .ok (.invokestatic 11, 3) := by decide +kernel
theorem dc_X0_rankIn_22 : decode prog_2_method_16_code 22 = .ok (.lreturn, 1) := by decide +kernel
theorem dc_X0_rankIn_7 : decode prog_2_method_16_code 7 = .ok (.ldc2_w 38, 3) := by decide +kernel
theorem dc_X0_rankIn_10 : decode prog_2_method_16_code 10 = .ok (.lload_n 0, 1) := by decide +kernel
theorem dc_X0_rankIn_11 : decode prog_2_method_16_code 11 = .ok (.invokestatic 11, 3) := by decide +kernel
theorem dc_X0_rankIn_14 : decode prog_2_method_16_code 14 = .ok (.lsub, 1) := by decide +kernel
theorem dc_X0_rankIn_15 : decode prog_2_method_16_code 15 = .ok (.goto 7, 3) := by decide +kernel
theorem dc_X0_lastOf_0 : decode prog_2_method_17_code 0 = .ok (.lload_n 0, 1) := by decide +kernel
theorem dc_X0_lastOf_1 : decode prog_2_method_17_code 1 = .ok (.invokestatic 40, 3) := by decide +kernel
theorem dc_X0_lastOf_4 : decode prog_2_method_17_code 4 = .ok (.lload_n 2, 1) := by decide +kernel
theorem dc_X0_lastOf_5 : decode prog_2_method_17_code 5 = .ok (.invokestatic 40, 3) := by decide +kernel
theorem dc_X0_lastOf_8 : decode prog_2_method_17_code 8 = .ok (.lcmp, 1) := by decide +kernel
theorem dc_X0_lastOf_9 : decode prog_2_method_17_code 9 = .ok (.ifCond .lt 7, 3) := by decide +kernel
theorem dc_X0_lastOf_16 : decode prog_2_method_17_code 16 = .ok (.lload_n 2, 1) := by decide +kernel
theorem dc_X0_lastOf_17 : decode prog_2_method_17_code 17 = .ok (.lreturn, 1) := by decide +kernel
theorem dc_X0_lastOf_12 : decode prog_2_method_17_code 12 = .ok (.lload_n 0, 1) := by decide +kernel
theorem dc_X0_lastOf_13 : decode prog_2_method_17_code 13 = .ok (.goto 4, 3) := by decide +kernel
theorem dc_X0_firstOf_0 : decode prog_2_method_18_code 0 = .ok (.lload_n 0, 1) := by decide +kernel
theorem dc_X0_firstOf_1 : decode prog_2_method_18_code 1 = .ok (.invokestatic 40, 3) := by decide +kernel
theorem dc_X0_firstOf_4 : decode prog_2_method_18_code 4 = .ok (.lload_n 2, 1) := by decide +kernel
theorem dc_X0_firstOf_5 : decode prog_2_method_18_code 5 = .ok (.invokestatic 40, 3) := by decide +kernel
theorem dc_X0_firstOf_8 : decode prog_2_method_18_code 8 = .ok (.lcmp, 1) := by decide +kernel
theorem dc_X0_firstOf_9 : decode prog_2_method_18_code 9 = .ok (.ifCond .gt 7, 3) := by decide +kernel
theorem dc_X0_firstOf_16 : decode prog_2_method_18_code 16 = .ok (.lload_n 2, 1) := by decide +kernel
theorem dc_X0_firstOf_17 : decode prog_2_method_18_code 17 = .ok (.lreturn, 1) := by decide +kernel
theorem dc_X0_firstOf_12 : decode prog_2_method_18_code 12 = .ok (.lload_n 0, 1) := by decide +kernel
theorem dc_X0_firstOf_13 : decode prog_2_method_18_code 13 = .ok (.goto 4, 3) := by decide +kernel
