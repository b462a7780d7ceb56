abbrev my_X6_text : MethodName := ⟨"Exactdoubles", "text", "(I)Ljava/lang/String;"⟩
abbrev my_X6_rounded : MethodName := ⟨"Exactdoubles", "rounded", "(I)Ljava/lang/String;"⟩
abbrev my_X6_cut : MethodName := ⟨"Exactdoubles", "cut", "(I)Ljava/lang/String;"⟩
abbrev my_X6_floorOf : MethodName := ⟨"Exactdoubles", "floorOf", "(I)Ljava/lang/String;"⟩
abbrev my_X6_ceilOf : MethodName := ⟨"Exactdoubles", "ceilOf", "(I)Ljava/lang/String;"⟩
abbrev my_X6_rintOf : MethodName := ⟨"Exactdoubles", "rintOf", "(I)Ljava/lang/String;"⟩
abbrev my_X6_stepOf : MethodName := ⟨"Exactdoubles", "stepOf", "(I)Ljava/lang/String;"⟩
abbrev my_X6_nextOf : MethodName := ⟨"Exactdoubles", "nextOf", "(IZ)Ljava/lang/String;"⟩
abbrev my_X6_timesOf : MethodName := ⟨"Exactdoubles", "timesOf", "(II)Ljava/lang/String;"⟩
abbrev my_X6_greatest : MethodName := ⟨"Exactdoubles", "greatest", "()Ljava/lang/String;"⟩
abbrev my_X6_least : MethodName := ⟨"Exactdoubles", "least", "()Ljava/lang/String;"⟩
abbrev my_X6_isSound : MethodName := ⟨"Exactdoubles", "isSound", "()Z"⟩
abbrev my_X6_mixedAnswers : MethodName := ⟨"Exactdoubles", "mixedAnswers", "(JJ)J"⟩
abbrev my_X6_mixedTexts : MethodName := ⟨"Exactdoubles", "mixedTexts", "(JJ)J"⟩
abbrev my_X6_digest : MethodName := ⟨"Exactdoubles", "digest", "()J"⟩
theorem kw_1_99 : (Jvm.Cond.fieldLink "Exactdoubles" (16 : Nat) "Exactdoubles" "scribe" "LExactdoubles$Scribe;") ∈ ky_B := ky_mem (kc_1 _ (List.mem_of_getElem? (i := 99) rfl)) (by decide +kernel)
theorem kw_1_139 : (Jvm.Cond.methodLink "Exactdoubles" (138 : Nat) ({ cls := "Exactdoubles$Scribe", name := "tellNumber", desc := "(J)Ljava/lang/String;" } : Jvm.MethodName)) ∈ ky_B := ky_mem (kc_1 _ (List.mem_of_getElem? (i := 139) rfl)) (by decide +kernel)
theorem kw_1_140 : (Jvm.Cond.instanceMethod ({ cls := "Exactdoubles$Scribe", name := "tellNumber", desc := "(J)Ljava/lang/String;" } : Jvm.MethodName)) ∈ ky_B := ky_mem (kc_1 _ (List.mem_of_getElem? (i := 140) rfl)) (by decide +kernel)
theorem kw_1_141 : (Jvm.Cond.selects "Exactdoubles$Scribe" ({ cls := "Exactdoubles$Scribe", name := "tellNumber", desc := "(J)Ljava/lang/String;" } : Jvm.MethodName) ({ cls := "Exactdoubles$Scribe", name := "tellNumber", desc := "(J)Ljava/lang/String;" } : Jvm.MethodName)) ∈ ky_B := ky_mem (kc_1 _ (List.mem_of_getElem? (i := 141) rfl)) (by decide +kernel)
theorem kw_1_142 : (Jvm.Cond.code ({ cls := "Exactdoubles$Scribe", name := "tellNumber", desc := "(J)Ljava/lang/String;" } : Jvm.MethodName) prog_5_method_2_code (3 : Nat) (Option.some (Jvm.ClassFile.FieldType.object "java/lang/String"))) ∈ ky_B := ky_mem (kc_1 _ (List.mem_of_getElem? (i := 142) rfl)) (by decide +kernel)
theorem kw_5_100 : (Jvm.Cond.methodLink "Exactdoubles" (151 : Nat) ({ cls := "Exactdoubles$Scribe", name := "tellWhole", desc := "(J)Ljava/lang/String;" } : Jvm.MethodName)) ∈ ky_B := ky_mem (kc_5 _ (List.mem_of_getElem? (i := 100) rfl)) (by decide +kernel)
theorem kw_5_101 : (Jvm.Cond.instanceMethod ({ cls := "Exactdoubles$Scribe", name := "tellWhole", desc := "(J)Ljava/lang/String;" } : Jvm.MethodName)) ∈ ky_B := ky_mem (kc_5 _ (List.mem_of_getElem? (i := 101) rfl)) (by decide +kernel)
theorem kw_5_102 : (Jvm.Cond.selects "Exactdoubles$Scribe" ({ cls := "Exactdoubles$Scribe", name := "tellWhole", desc := "(J)Ljava/lang/String;" } : Jvm.MethodName) ({ cls := "Exactdoubles$Scribe", name := "tellWhole", desc := "(J)Ljava/lang/String;" } : Jvm.MethodName)) ∈ ky_B := ky_mem (kc_5 _ (List.mem_of_getElem? (i := 102) rfl)) (by decide +kernel)
theorem kw_5_103 : (Jvm.Cond.code ({ cls := "Exactdoubles$Scribe", name := "tellWhole", desc := "(J)Ljava/lang/String;" } : Jvm.MethodName) prog_5_method_4_code (3 : Nat) (Option.some (Jvm.ClassFile.FieldType.object "java/lang/String"))) ∈ ky_B := ky_mem (kc_5 _ (List.mem_of_getElem? (i := 103) rfl)) (by decide +kernel)
theorem kw_4_25 : (Jvm.Cond.methodLink "Exactdoubles" (154 : Nat) ({ cls := "Exactdoubles$Whole", name := "cutFrom", desc := "(J)J" } : Jvm.MethodName)) ∈ ky_B := ky_mem (kc_4 _ (List.mem_of_getElem? (i := 25) rfl)) (by decide +kernel)
theorem kw_1_121 : (Jvm.Cond.methodLink "Exactdoubles" (179 : Nat) ({ cls := "Exactdoubles", name := "lastOfAll", desc := "()J" } : Jvm.MethodName)) ∈ ky_B := ky_mem (kc_1 _ (List.mem_of_getElem? (i := 121) rfl)) (by decide +kernel)
theorem kw_1_123 : (Jvm.Cond.instanceMethod ({ cls := "Exactdoubles", name := "lastOfAll", desc := "()J" } : Jvm.MethodName)) ∈ ky_B := ky_mem (kc_1 _ (List.mem_of_getElem? (i := 123) rfl)) (by decide +kernel)
theorem kp_X6_lastOfAll : (Jvm.Cond.selects "Exactdoubles" ({ cls := "Exactdoubles", name := "lastOfAll", desc := "()J" } : Jvm.MethodName) ({ cls := "Exactdoubles", name := "lastOfAll", desc := "()J" } : Jvm.MethodName)) ∈ ky_B := ky_mem (List.mem_append_left _ (List.mem_of_getElem? (i := 0) (by decide +kernel))) (by decide +kernel)
theorem kw_1_124 : (Jvm.Cond.code ({ cls := "Exactdoubles", name := "lastOfAll", desc := "()J" } : Jvm.MethodName) prog_1_method_69_code (4 : Nat) (Option.some Jvm.ClassFile.FieldType.long)) ∈ ky_B := ky_mem (kc_1 _ (List.mem_of_getElem? (i := 124) rfl)) (by decide +kernel)
theorem kw_3_71 : (Jvm.Cond.methodLink "Exactdoubles" (183 : Nat) ({ cls := "Exactdoubles", name := "firstOfAll", desc := "()J" } : Jvm.MethodName)) ∈ ky_B := ky_mem (kc_3 _ (List.mem_of_getElem? (i := 71) rfl)) (by decide +kernel)
theorem kw_3_73 : (Jvm.Cond.instanceMethod ({ cls := "Exactdoubles", name := "firstOfAll", desc := "()J" } : Jvm.MethodName)) ∈ ky_B := ky_mem (kc_3 _ (List.mem_of_getElem? (i := 73) rfl)) (by decide +kernel)
theorem kp_X6_firstOfAll : (Jvm.Cond.selects "Exactdoubles" ({ cls := "Exactdoubles", name := "firstOfAll", desc := "()J" } : Jvm.MethodName) ({ cls := "Exactdoubles", name := "firstOfAll", desc := "()J" } : Jvm.MethodName)) ∈ ky_B := ky_mem (List.mem_append_left _ (List.mem_of_getElem? (i := 5) (by decide +kernel))) (by decide +kernel)
theorem kw_3_74 : (Jvm.Cond.code ({ cls := "Exactdoubles", name := "firstOfAll", desc := "()J" } : Jvm.MethodName) prog_1_method_70_code (4 : Nat) (Option.some Jvm.ClassFile.FieldType.long)) ∈ ky_B := ky_mem (kc_3 _ (List.mem_of_getElem? (i := 74) rfl)) (by decide +kernel)
theorem kw_1_100 : (Jvm.Cond.fieldLink "Exactdoubles" (23 : Nat) "Exactdoubles" "proof" "LExactdoubles$Proof;") ∈ ky_B := ky_mem (kc_1 _ (List.mem_of_getElem? (i := 100) rfl)) (by decide +kernel)
theorem kw_3_86 : (Jvm.Cond.methodLink "Exactdoubles" (193 : Nat) ({ cls := "Exactdoubles$Proof", name := "holdsFor", desc := "([J)Z" } : Jvm.MethodName)) ∈ ky_B := ky_mem (kc_3 _ (List.mem_of_getElem? (i := 86) rfl)) (by decide +kernel)
theorem kw_3_87 : (Jvm.Cond.instanceMethod ({ cls := "Exactdoubles$Proof", name := "holdsFor", desc := "([J)Z" } : Jvm.MethodName)) ∈ ky_B := ky_mem (kc_3 _ (List.mem_of_getElem? (i := 87) rfl)) (by decide +kernel)
theorem kw_3_88 : (Jvm.Cond.selects "Exactdoubles$Proof" ({ cls := "Exactdoubles$Proof", name := "holdsFor", desc := "([J)Z" } : Jvm.MethodName) ({ cls := "Exactdoubles$Proof", name := "holdsFor", desc := "([J)Z" } : Jvm.MethodName)) ∈ ky_B := ky_mem (kc_3 _ (List.mem_of_getElem? (i := 88) rfl)) (by decide +kernel)
theorem kw_3_89 : (Jvm.Cond.code ({ cls := "Exactdoubles$Proof", name := "holdsFor", desc := "([J)Z" } : Jvm.MethodName) prog_3_method_2_code (5 : Nat) (Option.some Jvm.ClassFile.FieldType.boolean)) ∈ ky_B := ky_mem (kc_3 _ (List.mem_of_getElem? (i := 89) rfl)) (by decide +kernel)
theorem kw_3_233 : (Jvm.Cond.methodLink "Exactdoubles" (199 : Nat) ({ cls := "Exactdoubles", name := "mixed", desc := "(JJ)J" } : Jvm.MethodName)) ∈ ky_B := ky_mem (kc_3 _ (List.mem_of_getElem? (i := 233) rfl)) (by decide +kernel)
theorem kw_3_234 : (Jvm.Cond.static ({ cls := "Exactdoubles", name := "mixed", desc := "(JJ)J" } : Jvm.MethodName)) ∈ ky_B := ky_mem (kc_3 _ (List.mem_of_getElem? (i := 234) rfl)) (by decide +kernel)
theorem kw_3_235 : (Jvm.Cond.code ({ cls := "Exactdoubles", name := "mixed", desc := "(JJ)J" } : Jvm.MethodName) prog_1_method_55_code (4 : Nat) (Option.some Jvm.ClassFile.FieldType.long)) ∈ ky_B := ky_mem (kc_3 _ (List.mem_of_getElem? (i := 235) rfl)) (by decide +kernel)
theorem kw_4_5 : (Jvm.Cond.methodLink "Exactdoubles" (208 : Nat) ({ cls := "Exactdoubles$Scribe", name := "countNumber", desc := "(J)I" } : Jvm.MethodName)) ∈ ky_B := ky_mem (kc_4 _ (List.mem_of_getElem? (i := 5) rfl)) (by decide +kernel)
theorem kw_4_6 : (Jvm.Cond.instanceMethod ({ cls := "Exactdoubles$Scribe", name := "countNumber", desc := "(J)I" } : Jvm.MethodName)) ∈ ky_B := ky_mem (kc_4 _ (List.mem_of_getElem? (i := 6) rfl)) (by decide +kernel)
theorem kw_4_7 : (Jvm.Cond.selects "Exactdoubles$Scribe" ({ cls := "Exactdoubles$Scribe", name := "countNumber", desc := "(J)I" } : Jvm.MethodName) ({ cls := "Exactdoubles$Scribe", name := "countNumber", desc := "(J)I" } : Jvm.MethodName)) ∈ ky_B := ky_mem (kc_4 _ (List.mem_of_getElem? (i := 7) rfl)) (by decide +kernel)
theorem kw_4_8 : (Jvm.Cond.code ({ cls := "Exactdoubles$Scribe", name := "countNumber", desc := "(J)I" } : Jvm.MethodName) prog_5_method_3_code (3 : Nat) (Option.some Jvm.ClassFile.FieldType.int)) ∈ ky_B := ky_mem (kc_4 _ (List.mem_of_getElem? (i := 8) rfl)) (by decide +kernel)
theorem kw_4_17 : (Jvm.Cond.methodLink "Exactdoubles" (213 : Nat) ({ cls := "Exactdoubles$Scribe", name := "countWhole", desc := "(J)I" } : Jvm.MethodName)) ∈ ky_B := ky_mem (kc_4 _ (List.mem_of_getElem? (i := 17) rfl)) (by decide +kernel)
theorem kw_4_18 : (Jvm.Cond.instanceMethod ({ cls := "Exactdoubles$Scribe", name := "countWhole", desc := "(J)I" } : Jvm.MethodName)) ∈ ky_B := ky_mem (kc_4 _ (List.mem_of_getElem? (i := 18) rfl)) (by decide +kernel)
theorem kw_4_19 : (Jvm.Cond.selects "Exactdoubles$Scribe" ({ cls := "Exactdoubles$Scribe", name := "countWhole", desc := "(J)I" } : Jvm.MethodName) ({ cls := "Exactdoubles$Scribe", name := "countWhole", desc := "(J)I" } : Jvm.MethodName)) ∈ ky_B := ky_mem (kc_4 _ (List.mem_of_getElem? (i := 19) rfl)) (by decide +kernel)
theorem kw_4_20 : (Jvm.Cond.code ({ cls := "Exactdoubles$Scribe", name := "countWhole", desc := "(J)I" } : Jvm.MethodName) prog_5_method_5_code (3 : Nat) (Option.some Jvm.ClassFile.FieldType.int)) ∈ ky_B := ky_mem (kc_4 _ (List.mem_of_getElem? (i := 20) rfl)) (by decide +kernel)
theorem kw_3_219 : (Jvm.Cond.constantLong "Exactdoubles" (197 : Nat) (7794 : Int64)) ∈ ky_B := ky_mem (kc_3 _ (List.mem_of_getElem? (i := 219) rfl)) (by decide +kernel)
theorem kw_3_237 : (Jvm.Cond.methodLink "Exactdoubles" (202 : Nat) ({ cls := "Exactdoubles", name := "mixedAnswers", desc := "(JJ)J" } : Jvm.MethodName)) ∈ ky_B := ky_mem (kc_3 _ (List.mem_of_getElem? (i := 237) rfl)) (by decide +kernel)
theorem kw_3_239 : (Jvm.Cond.instanceMethod ({ cls := "Exactdoubles", name := "mixedAnswers", desc := "(JJ)J" } : Jvm.MethodName)) ∈ ky_B := ky_mem (kc_3 _ (List.mem_of_getElem? (i := 239) rfl)) (by decide +kernel)
theorem kp_X6_mixedAnswers : (Jvm.Cond.selects "Exactdoubles" ({ cls := "Exactdoubles", name := "mixedAnswers", desc := "(JJ)J" } : Jvm.MethodName) ({ cls := "Exactdoubles", name := "mixedAnswers", desc := "(JJ)J" } : Jvm.MethodName)) ∈ ky_B := ky_mem (List.mem_append_left _ (List.mem_of_getElem? (i := 11) (by decide +kernel))) (by decide +kernel)
theorem kw_4_0 : (Jvm.Cond.code ({ cls := "Exactdoubles", name := "mixedAnswers", desc := "(JJ)J" } : Jvm.MethodName) prog_1_method_56_code (9 : Nat) (Option.some Jvm.ClassFile.FieldType.long)) ∈ ky_B := ky_mem (kc_4 _ (List.mem_of_getElem? (i := 0) rfl)) (by decide +kernel)
theorem kw_4_49 : (Jvm.Cond.methodLink "Exactdoubles" (205 : Nat) ({ cls := "Exactdoubles", name := "mixedTexts", desc := "(JJ)J" } : Jvm.MethodName)) ∈ ky_B := ky_mem (kc_4 _ (List.mem_of_getElem? (i := 49) rfl)) (by decide +kernel)
theorem kw_4_51 : (Jvm.Cond.instanceMethod ({ cls := "Exactdoubles", name := "mixedTexts", desc := "(JJ)J" } : Jvm.MethodName)) ∈ ky_B := ky_mem (kc_4 _ (List.mem_of_getElem? (i := 51) rfl)) (by decide +kernel)
theorem kp_X6_mixedTexts : (Jvm.Cond.selects "Exactdoubles" ({ cls := "Exactdoubles", name := "mixedTexts", desc := "(JJ)J" } : Jvm.MethodName) ({ cls := "Exactdoubles", name := "mixedTexts", desc := "(JJ)J" } : Jvm.MethodName)) ∈ ky_B := ky_mem (List.mem_append_left _ (List.mem_of_getElem? (i := 14) (by decide +kernel))) (by decide +kernel)
theorem kw_4_52 : (Jvm.Cond.code ({ cls := "Exactdoubles", name := "mixedTexts", desc := "(JJ)J" } : Jvm.MethodName) prog_1_method_57_code (7 : Nat) (Option.some Jvm.ClassFile.FieldType.long)) ∈ ky_B := ky_mem (kc_4 _ (List.mem_of_getElem? (i := 52) rfl)) (by decide +kernel)
theorem kv_X6_138 : ky_wV "Exactdoubles" 138 my_X3_tellNumber prog_5_method_2_code 3 (Option.some (Jvm.ClassFile.FieldType.object "java/lang/String")) 1 := ⟨kw_1_139, kw_1_140, kw_1_141, kw_1_2, kw_1_142, by decide, by decide, by decide +kernel⟩
theorem kv_X6_151 : ky_wV "Exactdoubles" 151 my_X3_tellWhole prog_5_method_4_code 3 (Option.some (Jvm.ClassFile.FieldType.object "java/lang/String")) 1 := ⟨kw_5_100, kw_5_101, kw_5_102, kw_1_2, kw_5_103, by decide, by decide, by decide +kernel⟩
theorem ks_X6_154 : ky_wS "Exactdoubles" 154 my_X5_cutFrom prog_7_method_2_code 7 (Option.some Jvm.ClassFile.FieldType.long) 1 := ⟨kw_4_25, kw_3_196, kw_1_29, kw_3_197, by decide, by decide, by decide +kernel⟩
theorem kv_X6_179 : ky_wV "Exactdoubles" 179 my_X6_lastOfAll prog_1_method_69_code 4 (Option.some Jvm.ClassFile.FieldType.long) 0 := ⟨kw_1_121, kw_1_123, kp_X6_lastOfAll, kw_1_1, kw_1_124, by decide, by decide, by decide +kernel⟩
theorem kv_X6_183 : ky_wV "Exactdoubles" 183 my_X6_firstOfAll prog_1_method_70_code 4 (Option.some Jvm.ClassFile.FieldType.long) 0 := ⟨kw_3_71, kw_3_73, kp_X6_firstOfAll, kw_1_1, kw_3_74, by decide, by decide, by decide +kernel⟩
theorem kv_X6_193 : ky_wV "Exactdoubles" 193 my_X1_holdsFor prog_3_method_2_code 5 (Option.some Jvm.ClassFile.FieldType.boolean) 1 := ⟨kw_3_86, kw_3_87, kw_3_88, kw_1_7, kw_3_89, by decide, by decide, by decide +kernel⟩
theorem ks_X6_199 : ky_wS "Exactdoubles" 199 my_X6_mixed prog_1_method_55_code 4 (Option.some Jvm.ClassFile.FieldType.long) 2 := ⟨kw_3_233, kw_3_234, kw_1_1, kw_3_235, by decide, by decide, by decide +kernel⟩
theorem kv_X6_208 : ky_wV "Exactdoubles" 208 my_X3_countNumber prog_5_method_3_code 3 (Option.some Jvm.ClassFile.FieldType.int) 1 := ⟨kw_4_5, kw_4_6, kw_4_7, kw_1_2, kw_4_8, by decide, by decide, by decide +kernel⟩
theorem kv_X6_213 : ky_wV "Exactdoubles" 213 my_X3_countWhole prog_5_method_5_code 3 (Option.some Jvm.ClassFile.FieldType.int) 1 := ⟨kw_4_17, kw_4_18, kw_4_19, kw_1_2, kw_4_20, by decide, by decide, by decide +kernel⟩
theorem kv_X6_202 : ky_wV "Exactdoubles" 202 my_X6_mixedAnswers prog_1_method_56_code 9 (Option.some Jvm.ClassFile.FieldType.long) 2 := ⟨kw_3_237, kw_3_239, kp_X6_mixedAnswers, kw_1_1, kw_4_0, by decide, by decide, by decide +kernel⟩
theorem kv_X6_205 : ky_wV "Exactdoubles" 205 my_X6_mixedTexts prog_1_method_57_code 7 (Option.some Jvm.ClassFile.FieldType.long) 2 := ⟨kw_4_49, kw_4_51, kp_X6_mixedTexts, kw_1_1, kw_4_52, by decide, by decide, by decide +kernel⟩
def dl_X6_text_0 : List (ByteArray × Nat × Jvm.ClassFile.Instr × Nat) := [(prog_1_method_27_code, 0, .iload_n 1, 1), (prog_1_method_27_code, 1, .invokestatic 27, 3), (prog_1_method_27_code, 4, .aload_n 0, 1), (prog_1_method_27_code, 5, .getfield 16, 3), (prog_1_method_27_code, 8, .aload_n 0, 1), (prog_1_method_27_code, 9, .getfield 9, 3), (prog_1_method_27_code, 12, .iload_n 1, 1), (prog_1_method_27_code, 13, .laload, 1), (prog_1_method_27_code, 14, .invokevirtual 138, 3), (prog_1_method_27_code, 17, .areturn, 1), (prog_1_method_30_code, 0, .iload_n 1, 1), (prog_1_method_30_code, 1, .invokestatic 27, 3), (prog_1_method_30_code, 4, .aload_n 0, 1), (prog_1_method_30_code, 5, .getfield 16, 3), (prog_1_method_30_code, 8, .aload_n 0, 1), (prog_1_method_30_code, 9, .getfield 9, 3), (prog_1_method_30_code, 12, .iload_n 1, 1), (prog_1_method_30_code, 13, .laload, 1), (prog_1_method_30_code, 14, .invokestatic 142, 3), (prog_1_method_30_code, 17, .invokevirtual 151, 3), (prog_1_method_30_code, 20, .areturn, 1), (prog_1_method_31_code, 0, .iload_n 1, 1), (prog_1_method_31_code, 1, .invokestatic 27, 3), (prog_1_method_31_code, 4, .aload_n 0, 1), (prog_1_method_31_code, 5, .getfield 16, 3), (prog_1_method_31_code, 8, .aload_n 0, 1), (prog_1_method_31_code, 9, .getfield 9, 3), (prog_1_method_31_code, 12, .iload_n 1, 1), (prog_1_method_31_code, 13, .laload, 1), (prog_1_method_31_code, 14, .invokestatic 154, 3), (prog_1_method_31_code, 17, .invokevirtual 151, 3), (prog_1_method_31_code, 20, .areturn, 1), (prog_1_method_42_code, 0, .iload_n 1, 1), (prog_1_method_42_code, 1, .invokestatic 27, 3), (prog_1_method_42_code, 4, .aload_n 0, 1), (prog_1_method_42_code, 5, .getfield 16, 3), (prog_1_method_42_code, 8, .aload_n 0, 1), (prog_1_method_42_code, 9, .getfield 9, 3), (prog_1_method_42_code, 12, .iload_n 1, 1), (prog_1_method_42_code, 13, .laload, 1), (prog_1_method_42_code, 14, .invokestatic 85, 3), (prog_1_method_42_code, 17, .invokevirtual 138, 3), (prog_1_method_42_code, 20, .areturn, 1), (prog_1_method_43_code, 0, .iload_n 1, 1), (prog_1_method_43_code, 1, .invokestatic 27, 3), (prog_1_method_43_code, 4, .aload_n 0, 1), (prog_1_method_43_code, 5, .getfield 16, 3), (prog_1_method_43_code, 8, .aload_n 0, 1), (prog_1_method_43_code, 9, .getfield 9, 3), (prog_1_method_43_code, 12, .iload_n 1, 1), (prog_1_method_43_code, 13, .laload, 1), (prog_1_method_43_code, 14, .invokestatic 90, 3), (prog_1_method_43_code, 17, .invokevirtual 138, 3), (prog_1_method_43_code, 20, .areturn, 1), (prog_1_method_44_code, 0, .iload_n 1, 1), (prog_1_method_44_code, 1, .invokestatic 27, 3), (prog_1_method_44_code, 4, .aload_n 0, 1), (prog_1_method_44_code, 5, .getfield 16, 3), (prog_1_method_44_code, 8, .aload_n 0, 1), (prog_1_method_44_code, 9, .getfield 9, 3)]
theorem db_X6_text_0 : dl_X6_text_0.all (fun x => decide (decode x.1 x.2.1 = .ok x.2.2)) = true := by decide +kernel
theorem dc_X6_text_0 : decode prog_1_method_27_code 0 = .ok (.iload_n 1, 1) := ky_dc db_X6_text_0 0 rfl
theorem dc_X6_text_1 : decode prog_1_method_27_code 1 = .ok (.invokestatic 27, 3) := ky_dc db_X6_text_0 1 rfl
theorem dc_X6_text_4 : decode prog_1_method_27_code 4 = .ok (.aload_n 0, 1) := ky_dc db_X6_text_0 2 rfl
theorem dc_X6_text_5 : decode prog_1_method_27_code 5 = .ok (.getfield 16, 3) := ky_dc db_X6_text_0 3 rfl
theorem dc_X6_text_8 : decode prog_1_method_27_code 8 = .ok (.aload_n 0, 1) := ky_dc db_X6_text_0 4 rfl
theorem dc_X6_text_9 : decode prog_1_method_27_code 9 = .ok (.getfield 9, 3) := ky_dc db_X6_text_0 5 rfl
theorem dc_X6_text_12 : decode prog_1_method_27_code 12 = .ok (.iload_n 1, 1) := ky_dc db_X6_text_0 6 rfl
theorem dc_X6_text_13 : decode prog_1_method_27_code 13 = .ok (.laload, 1) := ky_dc db_X6_text_0 7 rfl
theorem dc_X6_text_14 : decode prog_1_method_27_code 14 = .ok (.invokevirtual 138, 3) := ky_dc db_X6_text_0 8 rfl
theorem dc_X6_text_17 : decode prog_1_method_27_code 17 = .ok (.areturn, 1) := ky_dc db_X6_text_0 9 rfl
theorem dc_X6_rounded_0 : decode prog_1_method_30_code 0 = .ok (.iload_n 1, 1) := ky_dc db_X6_text_0 10 rfl
theorem dc_X6_rounded_1 : decode prog_1_method_30_code 1 = .ok (.invokestatic 27, 3) := ky_dc db_X6_text_0 11 rfl
theorem dc_X6_rounded_4 : decode prog_1_method_30_code 4 = .ok (.aload_n 0, 1) := ky_dc db_X6_text_0 12 rfl
theorem dc_X6_rounded_5 : decode prog_1_method_30_code 5 = .ok (.getfield 16, 3) := ky_dc db_X6_text_0 13 rfl
theorem dc_X6_rounded_8 : decode prog_1_method_30_code 8 = .ok (.aload_n 0, 1) := ky_dc db_X6_text_0 14 rfl
theorem dc_X6_rounded_9 : decode prog_1_method_30_code 9 = .ok (.getfield 9, 3) := ky_dc db_X6_text_0 15 rfl
theorem dc_X6_rounded_12 : decode prog_1_method_30_code 12 = .ok (.iload_n 1, 1) := ky_dc db_X6_text_0 16 rfl
theorem dc_X6_rounded_13 : decode prog_1_method_30_code 13 = .ok (.laload, 1) := ky_dc db_X6_text_0 17 rfl
theorem dc_X6_rounded_14 : decode prog_1_method_30_code 14 = .ok (.invokestatic 142, 3) := ky_dc db_X6_text_0 18 rfl
theorem dc_X6_rounded_17 : decode prog_1_method_30_code 17 = .ok (.invokevirtual 151, 3) := ky_dc db_X6_text_0 19 rfl
theorem dc_X6_rounded_20 : decode prog_1_method_30_code 20 = .ok (.areturn, 1) := ky_dc db_X6_text_0 20 rfl
theorem dc_X6_cut_0 : decode prog_1_method_31_code 0 = .ok (.iload_n 1, 1) := ky_dc db_X6_text_0 21 rfl
theorem dc_X6_cut_1 : decode prog_1_method_31_code 1 = .ok (.invokestatic 27, 3) := ky_dc db_X6_text_0 22 rfl
theorem dc_X6_cut_4 : decode prog_1_method_31_code 4 = .ok (.aload_n 0, 1) := ky_dc db_X6_text_0 23 rfl
theorem dc_X6_cut_5 : decode prog_1_method_31_code 5 = .ok (.getfield 16, 3) := ky_dc db_X6_text_0 24 rfl
theorem dc_X6_cut_8 : decode prog_1_method_31_code 8 = .ok (.aload_n 0, 1) := ky_dc db_X6_text_0 25 rfl
theorem dc_X6_cut_9 : decode prog_1_method_31_code 9 = .ok (.getfield 9, 3) := ky_dc db_X6_text_0 26 rfl
theorem dc_X6_cut_12 : decode prog_1_method_31_code 12 = .ok (.iload_n 1, 1) := ky_dc db_X6_text_0 27 rfl
theorem dc_X6_cut_13 : decode prog_1_method_31_code 13 = .ok (.laload, 1) := ky_dc db_X6_text_0 28 rfl
theorem dc_X6_cut_14 : decode prog_1_method_31_code 14 = .ok (.invokestatic 154, 3) := ky_dc db_X6_text_0 29 rfl
theorem dc_X6_cut_17 : decode prog_1_method_31_code 17 = .ok (.invokevirtual 151, 3) := ky_dc db_X6_text_0 30 rfl
theorem dc_X6_cut_20 : decode prog_1_method_31_code 20 = .ok (.areturn, 1) := ky_dc db_X6_text_0 31 rfl
theorem dc_X6_floorOf_0 : decode prog_1_method_42_code 0 = .ok (.iload_n 1, 1) := ky_dc db_X6_text_0 32 rfl
theorem dc_X6_floorOf_1 : decode prog_1_method_42_code 1 = .ok (.invokestatic 27, 3) := ky_dc db_X6_text_0 33 rfl
theorem dc_X6_floorOf_4 : decode prog_1_method_42_code 4 = .ok (.aload_n 0, 1) := ky_dc db_X6_text_0 34 rfl
theorem dc_X6_floorOf_5 : decode prog_1_method_42_code 5 = .ok (.getfield 16, 3) := ky_dc db_X6_text_0 35 rfl
theorem dc_X6_floorOf_8 : decode prog_1_method_42_code 8 = .ok (.aload_n 0, 1) := ky_dc db_X6_text_0 36 rfl
theorem dc_X6_floorOf_9 : decode prog_1_method_42_code 9 = .ok (.getfield 9, 3) := ky_dc db_X6_text_0 37 rfl
theorem dc_X6_floorOf_12 : decode prog_1_method_42_code 12 = .ok (.iload_n 1, 1) := ky_dc db_X6_text_0 38 rfl
theorem dc_X6_floorOf_13 : decode prog_1_method_42_code 13 = .ok (.laload, 1) := ky_dc db_X6_text_0 39 rfl
theorem dc_X6_floorOf_14 : decode prog_1_method_42_code 14 = .ok (.invokestatic 85, 3) := ky_dc db_X6_text_0 40 rfl
theorem dc_X6_floorOf_17 : decode prog_1_method_42_code 17 = .ok (.invokevirtual 138, 3) := ky_dc db_X6_text_0 41 rfl
theorem dc_X6_floorOf_20 : decode prog_1_method_42_code 20 = .ok (.areturn, 1) := ky_dc db_X6_text_0 42 rfl
theorem dc_X6_ceilOf_0 : decode prog_1_method_43_code 0 = .ok (.iload_n 1, 1) := ky_dc db_X6_text_0 43 rfl
theorem dc_X6_ceilOf_1 : decode prog_1_method_43_code 1 = .ok (.invokestatic 27, 3) := ky_dc db_X6_text_0 44 rfl
theorem dc_X6_ceilOf_4 : decode prog_1_method_43_code 4 = .ok (.aload_n 0, 1) := ky_dc db_X6_text_0 45 rfl
theorem dc_X6_ceilOf_5 : decode prog_1_method_43_code 5 = .ok (.getfield 16, 3) := ky_dc db_X6_text_0 46 rfl
theorem dc_X6_ceilOf_8 : decode prog_1_method_43_code 8 = .ok (.aload_n 0, 1) := ky_dc db_X6_text_0 47 rfl
theorem dc_X6_ceilOf_9 : decode prog_1_method_43_code 9 = .ok (.getfield 9, 3) := ky_dc db_X6_text_0 48 rfl
theorem dc_X6_ceilOf_12 : decode prog_1_method_43_code 12 = .ok (.iload_n 1, 1) := ky_dc db_X6_text_0 49 rfl
theorem dc_X6_ceilOf_13 : decode prog_1_method_43_code 13 = .ok (.laload, 1) := ky_dc db_X6_text_0 50 rfl
theorem dc_X6_ceilOf_14 : decode prog_1_method_43_code 14 = .ok (.invokestatic 90, 3) := ky_dc db_X6_text_0 51 rfl
theorem dc_X6_ceilOf_17 : decode prog_1_method_43_code 17 = .ok (.invokevirtual 138, 3) := ky_dc db_X6_text_0 52 rfl
theorem dc_X6_ceilOf_20 : decode prog_1_method_43_code 20 = .ok (.areturn, 1) := ky_dc db_X6_text_0 53 rfl
theorem dc_X6_rintOf_0 : decode prog_1_method_44_code 0 = .ok (.iload_n 1, 1) := ky_dc db_X6_text_0 54 rfl
theorem dc_X6_rintOf_1 : decode prog_1_method_44_code 1 = .ok (.invokestatic 27, 3) := ky_dc db_X6_text_0 55 rfl
theorem dc_X6_rintOf_4 : decode prog_1_method_44_code 4 = .ok (.aload_n 0, 1) := ky_dc db_X6_text_0 56 rfl
theorem dc_X6_rintOf_5 : decode prog_1_method_44_code 5 = .ok (.getfield 16, 3) := ky_dc db_X6_text_0 57 rfl
theorem dc_X6_rintOf_8 : decode prog_1_method_44_code 8 = .ok (.aload_n 0, 1) := ky_dc db_X6_text_0 58 rfl
theorem dc_X6_rintOf_9 : decode prog_1_method_44_code 9 = .ok (.getfield 9, 3) := ky_dc db_X6_text_0 59 rfl
def dl_X6_rintOf_12 : List (ByteArray × Nat × Jvm.ClassFile.Instr × Nat) := [(prog_1_method_44_code, 12, .iload_n 1, 1), (prog_1_method_44_code, 13, .laload, 1), (prog_1_method_44_code, 14, .invokestatic 93, 3), (prog_1_method_44_code, 17, .invokevirtual 138, 3), (prog_1_method_44_code, 20, .areturn, 1), (prog_1_method_45_code, 0, .iload_n 1, 1), (prog_1_method_45_code, 1, .invokestatic 27, 3), (prog_1_method_45_code, 4, .aload_n 0, 1), (prog_1_method_45_code, 5, .getfield 16, 3), (prog_1_method_45_code, 8, .aload_n 0, 1), (prog_1_method_45_code, 9, .getfield 9, 3), (prog_1_method_45_code, 12, .iload_n 1, 1), (prog_1_method_45_code, 13, .laload, 1), (prog_1_method_45_code, 14, .invokestatic 111, 3), (prog_1_method_45_code, 17, .invokevirtual 138, 3), (prog_1_method_45_code, 20, .areturn, 1), (prog_1_method_46_code, 0, .iload_n 1, 1), (prog_1_method_46_code, 1, .invokestatic 27, 3), (prog_1_method_46_code, 4, .aload_n 0, 1), (prog_1_method_46_code, 5, .getfield 16, 3), (prog_1_method_46_code, 8, .iload_n 2, 1), (prog_1_method_46_code, 9, .ifCond .eq 15, 3), (prog_1_method_46_code, 24, .aload_n 0, 1), (prog_1_method_46_code, 25, .getfield 9, 3), (prog_1_method_46_code, 28, .iload_n 1, 1), (prog_1_method_46_code, 29, .laload, 1), (prog_1_method_46_code, 30, .invokestatic 105, 3), (prog_1_method_46_code, 33, .invokevirtual 138, 3), (prog_1_method_46_code, 36, .areturn, 1), (prog_1_method_46_code, 12, .aload_n 0, 1), (prog_1_method_46_code, 13, .getfield 9, 3), (prog_1_method_46_code, 16, .iload_n 1, 1), (prog_1_method_46_code, 17, .laload, 1), (prog_1_method_46_code, 18, .invokestatic 108, 3), (prog_1_method_46_code, 21, .goto 12, 3), (prog_1_method_47_code, 0, .iload_n 1, 1), (prog_1_method_47_code, 1, .invokestatic 27, 3), (prog_1_method_47_code, 4, .aload_n 0, 1), (prog_1_method_47_code, 5, .getfield 16, 3), (prog_1_method_47_code, 8, .aload_n 0, 1), (prog_1_method_47_code, 9, .getfield 9, 3), (prog_1_method_47_code, 12, .iload_n 1, 1), (prog_1_method_47_code, 13, .laload, 1), (prog_1_method_47_code, 14, .iload_n 2, 1), (prog_1_method_47_code, 15, .invokestatic 61, 3), (prog_1_method_47_code, 18, .invokevirtual 138, 3), (prog_1_method_47_code, 21, .areturn, 1), (prog_1_method_49_code, 0, .aload_n 0, 1), (prog_1_method_49_code, 1, .getfield 16, 3), (prog_1_method_49_code, 4, .aload_n 0, 1), (prog_1_method_49_code, 5, .invokevirtual 179, 3), (prog_1_method_49_code, 8, .invokevirtual 138, 3), (prog_1_method_49_code, 11, .areturn, 1), (prog_1_method_50_code, 0, .aload_n 0, 1), (prog_1_method_50_code, 1, .getfield 16, 3), (prog_1_method_50_code, 4, .aload_n 0, 1), (prog_1_method_50_code, 5, .invokevirtual 183, 3), (prog_1_method_50_code, 8, .invokevirtual 138, 3), (prog_1_method_50_code, 11, .areturn, 1), (prog_1_method_53_code, 0, .aload_n 0, 1)]
theorem db_X6_rintOf_12 : dl_X6_rintOf_12.all (fun x => decide (decode x.1 x.2.1 = .ok x.2.2)) = true := by decide +kernel
theorem dc_X6_rintOf_12 : decode prog_1_method_44_code 12 = .ok (.iload_n 1, 1) := ky_dc db_X6_rintOf_12 0 rfl
theorem dc_X6_rintOf_13 : decode prog_1_method_44_code 13 = .ok (.laload, 1) := ky_dc db_X6_rintOf_12 1 rfl
theorem dc_X6_rintOf_14 : decode prog_1_method_44_code 14 = .ok (.invokestatic 93, 3) := ky_dc db_X6_rintOf_12 2 rfl
theorem dc_X6_rintOf_17 : decode prog_1_method_44_code 17 = .ok (.invokevirtual 138, 3) := ky_dc db_X6_rintOf_12 3 rfl
theorem dc_X6_rintOf_20 : decode prog_1_method_44_code 20 = .ok (.areturn, 1) := ky_dc db_X6_rintOf_12 4 rfl
theorem dc_X6_stepOf_0 : decode prog_1_method_45_code 0 = .ok (.iload_n 1, 1) := ky_dc db_X6_rintOf_12 5 rfl
theorem dc_X6_stepOf_1 : decode prog_1_method_45_code 1 = .ok (.invokestatic 27, 3) := ky_dc db_X6_rintOf_12 6 rfl
theorem dc_X6_stepOf_4 : decode prog_1_method_45_code 4 = .ok (.aload_n 0, 1) := ky_dc db_X6_rintOf_12 7 rfl
theorem dc_X6_stepOf_5 : decode prog_1_method_45_code 5 = .ok (.getfield 16, 3) := ky_dc db_X6_rintOf_12 8 rfl
theorem dc_X6_stepOf_8 : decode prog_1_method_45_code 8 = .ok (.aload_n 0, 1) := ky_dc db_X6_rintOf_12 9 rfl
theorem dc_X6_stepOf_9 : decode prog_1_method_45_code 9 = .ok (.getfield 9, 3) := ky_dc db_X6_rintOf_12 10 rfl
theorem dc_X6_stepOf_12 : decode prog_1_method_45_code 12 = .ok (.iload_n 1, 1) := ky_dc db_X6_rintOf_12 11 rfl
theorem dc_X6_stepOf_13 : decode prog_1_method_45_code 13 = .ok (.laload, 1) := ky_dc db_X6_rintOf_12 12 rfl
theorem dc_X6_stepOf_14 : decode prog_1_method_45_code 14 = .ok (.invokestatic 111, 3) := ky_dc db_X6_rintOf_12 13 rfl
theorem dc_X6_stepOf_17 : decode prog_1_method_45_code 17 = .ok (.invokevirtual 138, 3) := ky_dc db_X6_rintOf_12 14 rfl
theorem dc_X6_stepOf_20 : decode prog_1_method_45_code 20 = .ok (.areturn, 1) := ky_dc db_X6_rintOf_12 15 rfl
theorem dc_X6_nextOf_0 : decode prog_1_method_46_code 0 = .ok (.iload_n 1, 1) := ky_dc db_X6_rintOf_12 16 rfl
theorem dc_X6_nextOf_1 : decode prog_1_method_46_code 1 = .ok (.invokestatic 27, 3) := ky_dc db_X6_rintOf_12 17 rfl
theorem dc_X6_nextOf_4 : decode prog_1_method_46_code 4 = .ok (.aload_n 0, 1) := ky_dc db_X6_rintOf_12 18 rfl
theorem dc_X6_nextOf_5 : decode prog_1_method_46_code 5 = .ok (.getfield 16, 3) := ky_dc db_X6_rintOf_12 19 rfl
theorem dc_X6_nextOf_8 : decode prog_1_method_46_code 8 = .ok (.iload_n 2, 1) := ky_dc db_X6_rintOf_12 20 rfl
theorem dc_X6_nextOf_9 : decode prog_1_method_46_code 9 = .ok (.ifCond .eq 15, 3) := ky_dc db_X6_rintOf_12 21 rfl
theorem dc_X6_nextOf_24 : decode prog_1_method_46_code 24 = .ok (.aload_n 0, 1) := ky_dc db_X6_rintOf_12 22 rfl
theorem dc_X6_nextOf_25 : decode prog_1_method_46_code 25 = .ok (.getfield 9, 3) := ky_dc db_X6_rintOf_12 23 rfl
theorem dc_X6_nextOf_28 : decode prog_1_method_46_code 28 = .ok (.iload_n 1, 1) := ky_dc db_X6_rintOf_12 24 rfl
theorem dc_X6_nextOf_29 : decode prog_1_method_46_code 29 = .ok (.laload, 1) := ky_dc db_X6_rintOf_12 25 rfl
theorem dc_X6_nextOf_30 : decode prog_1_method_46_code 30 = .ok (.invokestatic 105, 3) := ky_dc db_X6_rintOf_12 26 rfl
theorem dc_X6_nextOf_33 : decode prog_1_method_46_code 33 = .ok (.invokevirtual 138, 3) := ky_dc db_X6_rintOf_12 27 rfl
theorem dc_X6_nextOf_36 : decode prog_1_method_46_code 36 = .ok (.areturn, 1) := ky_dc db_X6_rintOf_12 28 rfl
theorem dc_X6_nextOf_12 : decode prog_1_method_46_code 12 = .ok (.aload_n 0, 1) := ky_dc db_X6_rintOf_12 29 rfl
theorem dc_X6_nextOf_13 : decode prog_1_method_46_code 13 = .ok (.getfield 9, 3) := ky_dc db_X6_rintOf_12 30 rfl
theorem dc_X6_nextOf_16 : decode prog_1_method_46_code 16 = .ok (.iload_n 1, 1) := ky_dc db_X6_rintOf_12 31 rfl
theorem dc_X6_nextOf_17 : decode prog_1_method_46_code 17 = .ok (.laload, 1) := ky_dc db_X6_rintOf_12 32 rfl
theorem dc_X6_nextOf_18 : decode prog_1_method_46_code 18 = .ok (.invokestatic 108, 3) := ky_dc db_X6_rintOf_12 33 rfl
theorem dc_X6_nextOf_21 : decode prog_1_method_46_code 21 = .ok (.goto 12, 3) := ky_dc db_X6_rintOf_12 34 rfl
theorem dc_X6_timesOf_0 : decode prog_1_method_47_code 0 = .ok (.iload_n 1, 1) := ky_dc db_X6_rintOf_12 35 rfl
theorem dc_X6_timesOf_1 : decode prog_1_method_47_code 1 = .ok (.invokestatic 27, 3) := ky_dc db_X6_rintOf_12 36 rfl
theorem dc_X6_timesOf_4 : decode prog_1_method_47_code 4 = .ok (.aload_n 0, 1) := ky_dc db_X6_rintOf_12 37 rfl
theorem dc_X6_timesOf_5 : decode prog_1_method_47_code 5 = .ok (.getfield 16, 3) := ky_dc db_X6_rintOf_12 38 rfl
theorem dc_X6_timesOf_8 : decode prog_1_method_47_code 8 = .ok (.aload_n 0, 1) := ky_dc db_X6_rintOf_12 39 rfl
theorem dc_X6_timesOf_9 : decode prog_1_method_47_code 9 = .ok (.getfield 9, 3) := ky_dc db_X6_rintOf_12 40 rfl
theorem dc_X6_timesOf_12 : decode prog_1_method_47_code 12 = .ok (.iload_n 1, 1) := ky_dc db_X6_rintOf_12 41 rfl
theorem dc_X6_timesOf_13 : decode prog_1_method_47_code 13 = .ok (.laload, 1) := ky_dc db_X6_rintOf_12 42 rfl
theorem dc_X6_timesOf_14 : decode prog_1_method_47_code 14 = .ok (.iload_n 2, 1) := ky_dc db_X6_rintOf_12 43 rfl
theorem dc_X6_timesOf_15 : decode prog_1_method_47_code 15 = .ok (.invokestatic 61, 3) := ky_dc db_X6_rintOf_12 44 rfl
theorem dc_X6_timesOf_18 : decode prog_1_method_47_code 18 = .ok (.invokevirtual 138, 3) := ky_dc db_X6_rintOf_12 45 rfl
theorem dc_X6_timesOf_21 : decode prog_1_method_47_code 21 = .ok (.areturn, 1) := ky_dc db_X6_rintOf_12 46 rfl
theorem dc_X6_greatest_0 : decode prog_1_method_49_code 0 = .ok (.aload_n 0, 1) := ky_dc db_X6_rintOf_12 47 rfl
theorem dc_X6_greatest_1 : decode prog_1_method_49_code 1 = .ok (.getfield 16, 3) := ky_dc db_X6_rintOf_12 48 rfl
theorem dc_X6_greatest_4 : decode prog_1_method_49_code 4 = .ok (.aload_n 0, 1) := ky_dc db_X6_rintOf_12 49 rfl
theorem dc_X6_greatest_5 : decode prog_1_method_49_code 5 = .ok (.invokevirtual 179, 3) := ky_dc db_X6_rintOf_12 50 rfl
theorem dc_X6_greatest_8 : decode prog_1_method_49_code 8 = .ok (.invokevirtual 138, 3) := ky_dc db_X6_rintOf_12 51 rfl
theorem dc_X6_greatest_11 : decode prog_1_method_49_code 11 = .ok (.areturn, 1) := ky_dc db_X6_rintOf_12 52 rfl
theorem dc_X6_least_0 : decode prog_1_method_50_code 0 = .ok (.aload_n 0, 1) := ky_dc db_X6_rintOf_12 53 rfl
theorem dc_X6_least_1 : decode prog_1_method_50_code 1 = .ok (.getfield 16, 3) := ky_dc db_X6_rintOf_12 54 rfl
theorem dc_X6_least_4 : decode prog_1_method_50_code 4 = .ok (.aload_n 0, 1) := ky_dc db_X6_rintOf_12 55 rfl
theorem dc_X6_least_5 : decode prog_1_method_50_code 5 = .ok (.invokevirtual 183, 3) := ky_dc db_X6_rintOf_12 56 rfl
theorem dc_X6_least_8 : decode prog_1_method_50_code 8 = .ok (.invokevirtual 138, 3) := ky_dc db_X6_rintOf_12 57 rfl
theorem dc_X6_least_11 : decode prog_1_method_50_code 11 = .ok (.areturn, 1) := ky_dc db_X6_rintOf_12 58 rfl
theorem dc_X6_isSound_0 : decode prog_1_method_53_code 0 = .ok (.aload_n 0, 1) := ky_dc db_X6_rintOf_12 59 rfl
def dl_X6_isSound_1 : List (ByteArray × Nat × Jvm.ClassFile.Instr × Nat) := [(prog_1_method_53_code, 1, .getfield 23, 3), (prog_1_method_53_code, 4, .aload_n 0, 1), (prog_1_method_53_code, 5, .getfield 9, 3), (prog_1_method_53_code, 8, .invokevirtual 193, 3), (prog_1_method_53_code, 11, .ireturn, 1), (prog_1_method_56_code, 0, .lload_n 1, 1), (prog_1_method_56_code, 1, .lstore 5, 2), (prog_1_method_56_code, 3, .iconst 0, 1), (prog_1_method_56_code, 4, .istore 7, 2), (prog_1_method_56_code, 6, .iload 7, 2), (prog_1_method_56_code, 8, .iconst 3, 1), (prog_1_method_56_code, 9, .if_icmp .gt 23, 3), (prog_1_method_56_code, 12, .lload 5, 2), (prog_1_method_56_code, 14, .lload_n 3, 1), (prog_1_method_56_code, 15, .iload 7, 2), (prog_1_method_56_code, 17, .invokestatic 134, 3), (prog_1_method_56_code, 20, .i2l, 1), (prog_1_method_56_code, 21, .invokestatic 199, 3), (prog_1_method_56_code, 24, .lstore 5, 2), (prog_1_method_56_code, 26, .iinc 7 1, 3), (prog_1_method_56_code, 29, .goto (-23), 3), (prog_1_method_56_code, 32, .lload 5, 2), (prog_1_method_56_code, 34, .lload_n 3, 1), (prog_1_method_56_code, 35, .invokestatic 131, 3), (prog_1_method_56_code, 38, .i2l, 1), (prog_1_method_56_code, 39, .invokestatic 199, 3), (prog_1_method_56_code, 42, .lstore 5, 2), (prog_1_method_56_code, 44, .lload 5, 2), (prog_1_method_56_code, 46, .aload_n 0, 1), (prog_1_method_56_code, 47, .getfield 16, 3), (prog_1_method_56_code, 50, .lload_n 3, 1), (prog_1_method_56_code, 51, .invokevirtual 208, 3), (prog_1_method_56_code, 54, .i2l, 1), (prog_1_method_56_code, 55, .invokestatic 199, 3), (prog_1_method_56_code, 58, .lstore 5, 2), (prog_1_method_56_code, 60, .lload 5, 2), (prog_1_method_56_code, 62, .lload_n 3, 1), (prog_1_method_56_code, 63, .invokestatic 114, 3), (prog_1_method_56_code, 66, .i2l, 1), (prog_1_method_56_code, 67, .invokestatic 199, 3), (prog_1_method_56_code, 70, .lstore 5, 2), (prog_1_method_56_code, 72, .lload_n 3, 1), (prog_1_method_56_code, 73, .invokestatic 142, 3), (prog_1_method_56_code, 76, .lstore 7, 2), (prog_1_method_56_code, 78, .lload 5, 2), (prog_1_method_56_code, 80, .lload 7, 2), (prog_1_method_56_code, 82, .iconst 1, 1), (prog_1_method_56_code, 83, .invokestatic 147, 3), (prog_1_method_56_code, 86, .i2l, 1), (prog_1_method_56_code, 87, .invokestatic 199, 3), (prog_1_method_56_code, 90, .lstore 5, 2), (prog_1_method_56_code, 92, .lload 5, 2), (prog_1_method_56_code, 94, .lload 7, 2), (prog_1_method_56_code, 96, .iconst 0, 1), (prog_1_method_56_code, 97, .invokestatic 147, 3), (prog_1_method_56_code, 100, .i2l, 1), (prog_1_method_56_code, 101, .invokestatic 199, 3), (prog_1_method_56_code, 104, .lstore 5, 2), (prog_1_method_56_code, 106, .lload 5, 2), (prog_1_method_56_code, 108, .aload_n 0, 1)]
theorem db_X6_isSound_1 : dl_X6_isSound_1.all (fun x => decide (decode x.1 x.2.1 = .ok x.2.2)) = true := by decide +kernel
theorem dc_X6_isSound_1 : decode prog_1_method_53_code 1 = .ok (.getfield 23, 3) := ky_dc db_X6_isSound_1 0 rfl
theorem dc_X6_isSound_4 : decode prog_1_method_53_code 4 = .ok (.aload_n 0, 1) := ky_dc db_X6_isSound_1 1 rfl
theorem dc_X6_isSound_5 : decode prog_1_method_53_code 5 = .ok (.getfield 9, 3) := ky_dc db_X6_isSound_1 2 rfl
theorem dc_X6_isSound_8 : decode prog_1_method_53_code 8 = .ok (.invokevirtual 193, 3) := ky_dc db_X6_isSound_1 3 rfl
theorem dc_X6_isSound_11 : decode prog_1_method_53_code 11 = .ok (.ireturn, 1) := ky_dc db_X6_isSound_1 4 rfl
theorem dc_X6_mixedAnswers_0 : decode prog_1_method_56_code 0 = .ok (.lload_n 1, 1) := ky_dc db_X6_isSound_1 5 rfl
theorem dc_X6_mixedAnswers_1 : decode prog_1_method_56_code 1 = .ok (.lstore 5, 2) := ky_dc db_X6_isSound_1 6 rfl
theorem dc_X6_mixedAnswers_3 : decode prog_1_method_56_code 3 = .ok (.iconst 0, 1) := ky_dc db_X6_isSound_1 7 rfl
theorem dc_X6_mixedAnswers_4 : decode prog_1_method_56_code 4 = .ok (.istore 7, 2) := ky_dc db_X6_isSound_1 8 rfl
theorem dc_X6_mixedAnswers_6 : decode prog_1_method_56_code 6 = .ok (.iload 7, 2) := ky_dc db_X6_isSound_1 9 rfl
theorem dc_X6_mixedAnswers_8 : decode prog_1_method_56_code 8 = .ok (.iconst 3, 1) := ky_dc db_X6_isSound_1 10 rfl
theorem dc_X6_mixedAnswers_9 : decode prog_1_method_56_code 9 = .ok (.if_icmp .gt 23, 3) := ky_dc db_X6_isSound_1 11 rfl
theorem dc_X6_mixedAnswers_12 : decode prog_1_method_56_code 12 = .ok (.lload 5, 2) := ky_dc db_X6_isSound_1 12 rfl
theorem dc_X6_mixedAnswers_14 : decode prog_1_method_56_code 14 = .ok (.lload_n 3, 1) := ky_dc db_X6_isSound_1 13 rfl
theorem dc_X6_mixedAnswers_15 : decode prog_1_method_56_code 15 = .ok (.iload 7, 2) := ky_dc db_X6_isSound_1 14 rfl
theorem dc_X6_mixedAnswers_17 : decode prog_1_method_56_code 17 = .ok (.invokestatic 134, 3) := ky_dc db_X6_isSound_1 15 rfl
theorem dc_X6_mixedAnswers_20 : decode prog_1_method_56_code 20 = .ok (.i2l, 1) := ky_dc db_X6_isSound_1 16 rfl
theorem dc_X6_mixedAnswers_21 : decode prog_1_method_56_code 21 = .ok (.invokestatic 199, 3) := ky_dc db_X6_isSound_1 17 rfl
theorem dc_X6_mixedAnswers_24 : decode prog_1_method_56_code 24 = .ok (.lstore 5, 2) := ky_dc db_X6_isSound_1 18 rfl
theorem dc_X6_mixedAnswers_26 : decode prog_1_method_56_code 26 = .ok (.iinc 7 1, 3) := ky_dc db_X6_isSound_1 19 rfl
theorem dc_X6_mixedAnswers_29 : decode prog_1_method_56_code 29 = .ok (.goto (-23), 3) := ky_dc db_X6_isSound_1 20 rfl
theorem dc_X6_mixedAnswers_32 : decode prog_1_method_56_code 32 = .ok (.lload 5, 2) := ky_dc db_X6_isSound_1 21 rfl
theorem dc_X6_mixedAnswers_34 : decode prog_1_method_56_code 34 = .ok (.lload_n 3, 1) := ky_dc db_X6_isSound_1 22 rfl
theorem dc_X6_mixedAnswers_35 : decode prog_1_method_56_code 35 = .ok (.invokestatic 131, 3) := ky_dc db_X6_isSound_1 23 rfl
theorem dc_X6_mixedAnswers_38 : decode prog_1_method_56_code 38 = .ok (.i2l, 1) := ky_dc db_X6_isSound_1 24 rfl
theorem dc_X6_mixedAnswers_39 : decode prog_1_method_56_code 39 = .ok (.invokestatic 199, 3) := ky_dc db_X6_isSound_1 25 rfl
theorem dc_X6_mixedAnswers_42 : decode prog_1_method_56_code 42 = .ok (.lstore 5, 2) := ky_dc db_X6_isSound_1 26 rfl
theorem dc_X6_mixedAnswers_44 : decode prog_1_method_56_code 44 = .ok (.lload 5, 2) := ky_dc db_X6_isSound_1 27 rfl
theorem dc_X6_mixedAnswers_46 : decode prog_1_method_56_code 46 = .ok (.aload_n 0, 1) := ky_dc db_X6_isSound_1 28 rfl
theorem dc_X6_mixedAnswers_47 : decode prog_1_method_56_code 47 = .ok (.getfield 16, 3) := ky_dc db_X6_isSound_1 29 rfl
theorem dc_X6_mixedAnswers_50 : decode prog_1_method_56_code 50 = .ok (.lload_n 3, 1) := ky_dc db_X6_isSound_1 30 rfl
theorem dc_X6_mixedAnswers_51 : decode prog_1_method_56_code 51 = .ok (.invokevirtual 208, 3) := ky_dc db_X6_isSound_1 31 rfl
theorem dc_X6_mixedAnswers_54 : decode prog_1_method_56_code 54 = .ok (.i2l, 1) := ky_dc db_X6_isSound_1 32 rfl
theorem dc_X6_mixedAnswers_55 : decode prog_1_method_56_code 55 = .ok (.invokestatic 199, 3) := ky_dc db_X6_isSound_1 33 rfl
theorem dc_X6_mixedAnswers_58 : decode prog_1_method_56_code 58 = .ok (.lstore 5, 2) := ky_dc db_X6_isSound_1 34 rfl
theorem dc_X6_mixedAnswers_60 : decode prog_1_method_56_code 60 = .ok (.lload 5, 2) := ky_dc db_X6_isSound_1 35 rfl
theorem dc_X6_mixedAnswers_62 : decode prog_1_method_56_code 62 = .ok (.lload_n 3, 1) := ky_dc db_X6_isSound_1 36 rfl
theorem dc_X6_mixedAnswers_63 : decode prog_1_method_56_code 63 = .ok (.invokestatic 114, 3) := ky_dc db_X6_isSound_1 37 rfl
theorem dc_X6_mixedAnswers_66 : decode prog_1_method_56_code 66 = .ok (.i2l, 1) := ky_dc db_X6_isSound_1 38 rfl
theorem dc_X6_mixedAnswers_67 : decode prog_1_method_56_code 67 = .ok (.invokestatic 199, 3) := ky_dc db_X6_isSound_1 39 rfl
theorem dc_X6_mixedAnswers_70 : decode prog_1_method_56_code 70 = .ok (.lstore 5, 2) := ky_dc db_X6_isSound_1 40 rfl
theorem dc_X6_mixedAnswers_72 : decode prog_1_method_56_code 72 = .ok (.lload_n 3, 1) := ky_dc db_X6_isSound_1 41 rfl
theorem dc_X6_mixedAnswers_73 : decode prog_1_method_56_code 73 = .ok (.invokestatic 142, 3) := ky_dc db_X6_isSound_1 42 rfl
theorem dc_X6_mixedAnswers_76 : decode prog_1_method_56_code 76 = .ok (.lstore 7, 2) := ky_dc db_X6_isSound_1 43 rfl
theorem dc_X6_mixedAnswers_78 : decode prog_1_method_56_code 78 = .ok (.lload 5, 2) := ky_dc db_X6_isSound_1 44 rfl
theorem dc_X6_mixedAnswers_80 : decode prog_1_method_56_code 80 = .ok (.lload 7, 2) := ky_dc db_X6_isSound_1 45 rfl
theorem dc_X6_mixedAnswers_82 : decode prog_1_method_56_code 82 = .ok (.iconst 1, 1) := ky_dc db_X6_isSound_1 46 rfl
theorem dc_X6_mixedAnswers_83 : decode prog_1_method_56_code 83 = .ok (.invokestatic 147, 3) := ky_dc db_X6_isSound_1 47 rfl
theorem dc_X6_mixedAnswers_86 : decode prog_1_method_56_code 86 = .ok (.i2l, 1) := ky_dc db_X6_isSound_1 48 rfl
theorem dc_X6_mixedAnswers_87 : decode prog_1_method_56_code 87 = .ok (.invokestatic 199, 3) := ky_dc db_X6_isSound_1 49 rfl
theorem dc_X6_mixedAnswers_90 : decode prog_1_method_56_code 90 = .ok (.lstore 5, 2) := ky_dc db_X6_isSound_1 50 rfl
theorem dc_X6_mixedAnswers_92 : decode prog_1_method_56_code 92 = .ok (.lload 5, 2) := ky_dc db_X6_isSound_1 51 rfl
theorem dc_X6_mixedAnswers_94 : decode prog_1_method_56_code 94 = .ok (.lload 7, 2) := ky_dc db_X6_isSound_1 52 rfl
theorem dc_X6_mixedAnswers_96 : decode prog_1_method_56_code 96 = .ok (.iconst 0, 1) := ky_dc db_X6_isSound_1 53 rfl
theorem dc_X6_mixedAnswers_97 : decode prog_1_method_56_code 97 = .ok (.invokestatic 147, 3) := ky_dc db_X6_isSound_1 54 rfl
theorem dc_X6_mixedAnswers_100 : decode prog_1_method_56_code 100 = .ok (.i2l, 1) := ky_dc db_X6_isSound_1 55 rfl
theorem dc_X6_mixedAnswers_101 : decode prog_1_method_56_code 101 = .ok (.invokestatic 199, 3) := ky_dc db_X6_isSound_1 56 rfl
theorem dc_X6_mixedAnswers_104 : decode prog_1_method_56_code 104 = .ok (.lstore 5, 2) := ky_dc db_X6_isSound_1 57 rfl
theorem dc_X6_mixedAnswers_106 : decode prog_1_method_56_code 106 = .ok (.lload 5, 2) := ky_dc db_X6_isSound_1 58 rfl
theorem dc_X6_mixedAnswers_108 : decode prog_1_method_56_code 108 = .ok (.aload_n 0, 1) := ky_dc db_X6_isSound_1 59 rfl
def dl_X6_mixedAnswers_109 : List (ByteArray × Nat × Jvm.ClassFile.Instr × Nat) := [(prog_1_method_56_code, 109, .getfield 16, 3), (prog_1_method_56_code, 112, .lload 7, 2), (prog_1_method_56_code, 114, .invokevirtual 213, 3), (prog_1_method_56_code, 117, .i2l, 1), (prog_1_method_56_code, 118, .invokestatic 199, 3), (prog_1_method_56_code, 121, .lstore 5, 2), (prog_1_method_56_code, 123, .lload 5, 2), (prog_1_method_56_code, 125, .aload_n 0, 1), (prog_1_method_56_code, 126, .getfield 16, 3), (prog_1_method_56_code, 129, .lload_n 3, 1), (prog_1_method_56_code, 130, .invokestatic 154, 3), (prog_1_method_56_code, 133, .invokevirtual 213, 3), (prog_1_method_56_code, 136, .i2l, 1), (prog_1_method_56_code, 137, .invokestatic 199, 3), (prog_1_method_56_code, 140, .lstore 5, 2), (prog_1_method_56_code, 142, .lload 5, 2), (prog_1_method_56_code, 144, .lload_n 3, 1), (prog_1_method_56_code, 145, .invokestatic 157, 3), (prog_1_method_56_code, 148, .i2l, 1), (prog_1_method_56_code, 149, .invokestatic 199, 3), (prog_1_method_56_code, 152, .lstore 5, 2), (prog_1_method_56_code, 154, .lload 5, 2), (prog_1_method_56_code, 156, .lload_n 3, 1), (prog_1_method_56_code, 157, .invokestatic 160, 3), (prog_1_method_56_code, 160, .i2l, 1), (prog_1_method_56_code, 161, .invokestatic 199, 3), (prog_1_method_56_code, 164, .lstore 5, 2), (prog_1_method_56_code, 166, .lload 5, 2), (prog_1_method_56_code, 168, .aload_n 0, 1), (prog_1_method_56_code, 169, .lload_n 3, 1), (prog_1_method_56_code, 170, .invokevirtual 176, 3), (prog_1_method_56_code, 173, .i2l, 1), (prog_1_method_56_code, 174, .invokestatic 199, 3), (prog_1_method_56_code, 177, .lreturn, 1), (prog_1_method_57_code, 0, .lload_n 1, 1), (prog_1_method_57_code, 1, .aload_n 0, 1), (prog_1_method_57_code, 2, .getfield 16, 3), (prog_1_method_57_code, 5, .lload_n 3, 1), (prog_1_method_57_code, 6, .invokestatic 85, 3), (prog_1_method_57_code, 9, .invokevirtual 208, 3), (prog_1_method_57_code, 12, .i2l, 1), (prog_1_method_57_code, 13, .invokestatic 199, 3), (prog_1_method_57_code, 16, .lstore 5, 2), (prog_1_method_57_code, 18, .lload 5, 2), (prog_1_method_57_code, 20, .aload_n 0, 1), (prog_1_method_57_code, 21, .getfield 16, 3), (prog_1_method_57_code, 24, .lload_n 3, 1), (prog_1_method_57_code, 25, .invokestatic 90, 3), (prog_1_method_57_code, 28, .invokevirtual 208, 3), (prog_1_method_57_code, 31, .i2l, 1), (prog_1_method_57_code, 32, .invokestatic 199, 3), (prog_1_method_57_code, 35, .lstore 5, 2), (prog_1_method_57_code, 37, .lload 5, 2), (prog_1_method_57_code, 39, .aload_n 0, 1), (prog_1_method_57_code, 40, .getfield 16, 3), (prog_1_method_57_code, 43, .lload_n 3, 1), (prog_1_method_57_code, 44, .invokestatic 93, 3), (prog_1_method_57_code, 47, .invokevirtual 208, 3), (prog_1_method_57_code, 50, .i2l, 1), (prog_1_method_57_code, 51, .invokestatic 199, 3)]
theorem db_X6_mixedAnswers_109 : dl_X6_mixedAnswers_109.all (fun x => decide (decode x.1 x.2.1 = .ok x.2.2)) = true := by decide +kernel
theorem dc_X6_mixedAnswers_109 : decode prog_1_method_56_code 109 = .ok (.getfield 16, 3) := ky_dc db_X6_mixedAnswers_109 0 rfl
theorem dc_X6_mixedAnswers_112 : decode prog_1_method_56_code 112 = .ok (.lload 7, 2) := ky_dc db_X6_mixedAnswers_109 1 rfl
theorem dc_X6_mixedAnswers_114 : decode prog_1_method_56_code 114 = .ok (.invokevirtual 213, 3) := ky_dc db_X6_mixedAnswers_109 2 rfl
theorem dc_X6_mixedAnswers_117 : decode prog_1_method_56_code 117 = .ok (.i2l, 1) := ky_dc db_X6_mixedAnswers_109 3 rfl
theorem dc_X6_mixedAnswers_118 : decode prog_1_method_56_code 118 = .ok (.invokestatic 199, 3) := ky_dc db_X6_mixedAnswers_109 4 rfl
theorem dc_X6_mixedAnswers_121 : decode prog_1_method_56_code 121 = .ok (.lstore 5, 2) := ky_dc db_X6_mixedAnswers_109 5 rfl
theorem dc_X6_mixedAnswers_123 : decode prog_1_method_56_code 123 = .ok (.lload 5, 2) := ky_dc db_X6_mixedAnswers_109 6 rfl
theorem dc_X6_mixedAnswers_125 : decode prog_1_method_56_code 125 = .ok (.aload_n 0, 1) := ky_dc db_X6_mixedAnswers_109 7 rfl
theorem dc_X6_mixedAnswers_126 : decode prog_1_method_56_code 126 = .ok (.getfield 16, 3) := ky_dc db_X6_mixedAnswers_109 8 rfl
theorem dc_X6_mixedAnswers_129 : decode prog_1_method_56_code 129 = .ok (.lload_n 3, 1) := ky_dc db_X6_mixedAnswers_109 9 rfl
theorem dc_X6_mixedAnswers_130 : decode prog_1_method_56_code 130 = .ok (.invokestatic 154, 3) := ky_dc db_X6_mixedAnswers_109 10 rfl
theorem dc_X6_mixedAnswers_133 : decode prog_1_method_56_code 133 = .ok (.invokevirtual 213, 3) := ky_dc db_X6_mixedAnswers_109 11 rfl
theorem dc_X6_mixedAnswers_136 : decode prog_1_method_56_code 136 = .ok (.i2l, 1) := ky_dc db_X6_mixedAnswers_109 12 rfl
theorem dc_X6_mixedAnswers_137 : decode prog_1_method_56_code 137 = .ok (.invokestatic 199, 3) := ky_dc db_X6_mixedAnswers_109 13 rfl
theorem dc_X6_mixedAnswers_140 : decode prog_1_method_56_code 140 = .ok (.lstore 5, 2) := ky_dc db_X6_mixedAnswers_109 14 rfl
theorem dc_X6_mixedAnswers_142 : decode prog_1_method_56_code 142 = .ok (.lload 5, 2) := ky_dc db_X6_mixedAnswers_109 15 rfl
theorem dc_X6_mixedAnswers_144 : decode prog_1_method_56_code 144 = .ok (.lload_n 3, 1) := ky_dc db_X6_mixedAnswers_109 16 rfl
theorem dc_X6_mixedAnswers_145 : decode prog_1_method_56_code 145 = .ok (.invokestatic 157, 3) := ky_dc db_X6_mixedAnswers_109 17 rfl
theorem dc_X6_mixedAnswers_148 : decode prog_1_method_56_code 148 = .ok (.i2l, 1) := ky_dc db_X6_mixedAnswers_109 18 rfl
theorem dc_X6_mixedAnswers_149 : decode prog_1_method_56_code 149 = .ok (.invokestatic 199, 3) := ky_dc db_X6_mixedAnswers_109 19 rfl
theorem dc_X6_mixedAnswers_152 : decode prog_1_method_56_code 152 = .ok (.lstore 5, 2) := ky_dc db_X6_mixedAnswers_109 20 rfl
theorem dc_X6_mixedAnswers_154 : decode prog_1_method_56_code 154 = .ok (.lload 5, 2) := ky_dc db_X6_mixedAnswers_109 21 rfl
theorem dc_X6_mixedAnswers_156 : decode prog_1_method_56_code 156 = .ok (.lload_n 3, 1) := ky_dc db_X6_mixedAnswers_109 22 rfl
theorem dc_X6_mixedAnswers_157 : decode prog_1_method_56_code 157 = .ok (.invokestatic 160, 3) := ky_dc db_X6_mixedAnswers_109 23 rfl
theorem dc_X6_mixedAnswers_160 : decode prog_1_method_56_code 160 = .ok (.i2l, 1) := ky_dc db_X6_mixedAnswers_109 24 rfl
theorem dc_X6_mixedAnswers_161 : decode prog_1_method_56_code 161 = .ok (.invokestatic 199, 3) := ky_dc db_X6_mixedAnswers_109 25 rfl
theorem dc_X6_mixedAnswers_164 : decode prog_1_method_56_code 164 = .ok (.lstore 5, 2) := ky_dc db_X6_mixedAnswers_109 26 rfl
theorem dc_X6_mixedAnswers_166 : decode prog_1_method_56_code 166 = .ok (.lload 5, 2) := ky_dc db_X6_mixedAnswers_109 27 rfl
theorem dc_X6_mixedAnswers_168 : decode prog_1_method_56_code 168 = .ok (.aload_n 0, 1) := ky_dc db_X6_mixedAnswers_109 28 rfl
theorem dc_X6_mixedAnswers_169 : decode prog_1_method_56_code 169 = .ok (.lload_n 3, 1) := ky_dc db_X6_mixedAnswers_109 29 rfl
theorem dc_X6_mixedAnswers_170 : decode prog_1_method_56_code 170 = .ok (.invokevirtual 176, 3) := ky_dc db_X6_mixedAnswers_109 30 rfl
theorem dc_X6_mixedAnswers_173 : decode prog_1_method_56_code 173 = .ok (.i2l, 1) := ky_dc db_X6_mixedAnswers_109 31 rfl
theorem dc_X6_mixedAnswers_174 : decode prog_1_method_56_code 174 = .ok (.invokestatic 199, 3) := ky_dc db_X6_mixedAnswers_109 32 rfl
theorem dc_X6_mixedAnswers_177 : decode prog_1_method_56_code 177 = .ok (.lreturn, 1) := ky_dc db_X6_mixedAnswers_109 33 rfl
theorem dc_X6_mixedTexts_0 : decode prog_1_method_57_code 0 = .ok (.lload_n 1, 1) := ky_dc db_X6_mixedAnswers_109 34 rfl
theorem dc_X6_mixedTexts_1 : decode prog_1_method_57_code 1 = .ok (.aload_n 0, 1) := ky_dc db_X6_mixedAnswers_109 35 rfl
theorem dc_X6_mixedTexts_2 : decode prog_1_method_57_code 2 = .ok (.getfield 16, 3) := ky_dc db_X6_mixedAnswers_109 36 rfl
theorem dc_X6_mixedTexts_5 : decode prog_1_method_57_code 5 = .ok (.lload_n 3, 1) := ky_dc db_X6_mixedAnswers_109 37 rfl
theorem dc_X6_mixedTexts_6 : decode prog_1_method_57_code 6 = .ok (.invokestatic 85, 3) := ky_dc db_X6_mixedAnswers_109 38 rfl
theorem dc_X6_mixedTexts_9 : decode prog_1_method_57_code 9 = .ok (.invokevirtual 208, 3) := ky_dc db_X6_mixedAnswers_109 39 rfl
theorem dc_X6_mixedTexts_12 : decode prog_1_method_57_code 12 = .ok (.i2l, 1) := ky_dc db_X6_mixedAnswers_109 40 rfl
theorem dc_X6_mixedTexts_13 : decode prog_1_method_57_code 13 = .ok (.invokestatic 199, 3) := ky_dc db_X6_mixedAnswers_109 41 rfl
theorem dc_X6_mixedTexts_16 : decode prog_1_method_57_code 16 = .ok (.lstore 5, 2) := ky_dc db_X6_mixedAnswers_109 42 rfl
theorem dc_X6_mixedTexts_18 : decode prog_1_method_57_code 18 = .ok (.lload 5, 2) := ky_dc db_X6_mixedAnswers_109 43 rfl
theorem dc_X6_mixedTexts_20 : decode prog_1_method_57_code 20 = .ok (.aload_n 0, 1) := ky_dc db_X6_mixedAnswers_109 44 rfl
theorem dc_X6_mixedTexts_21 : decode prog_1_method_57_code 21 = .ok (.getfield 16, 3) := ky_dc db_X6_mixedAnswers_109 45 rfl
theorem dc_X6_mixedTexts_24 : decode prog_1_method_57_code 24 = .ok (.lload_n 3, 1) := ky_dc db_X6_mixedAnswers_109 46 rfl
theorem dc_X6_mixedTexts_25 : decode prog_1_method_57_code 25 = .ok (.invokestatic 90, 3) := ky_dc db_X6_mixedAnswers_109 47 rfl
theorem dc_X6_mixedTexts_28 : decode prog_1_method_57_code 28 = .ok (.invokevirtual 208, 3) := ky_dc db_X6_mixedAnswers_109 48 rfl
theorem dc_X6_mixedTexts_31 : decode prog_1_method_57_code 31 = .ok (.i2l, 1) := ky_dc db_X6_mixedAnswers_109 49 rfl
theorem dc_X6_mixedTexts_32 : decode prog_1_method_57_code 32 = .ok (.invokestatic 199, 3) := ky_dc db_X6_mixedAnswers_109 50 rfl
theorem dc_X6_mixedTexts_35 : decode prog_1_method_57_code 35 = .ok (.lstore 5, 2) := ky_dc db_X6_mixedAnswers_109 51 rfl
theorem dc_X6_mixedTexts_37 : decode prog_1_method_57_code 37 = .ok (.lload 5, 2) := ky_dc db_X6_mixedAnswers_109 52 rfl
theorem dc_X6_mixedTexts_39 : decode prog_1_method_57_code 39 = .ok (.aload_n 0, 1) := ky_dc db_X6_mixedAnswers_109 53 rfl
theorem dc_X6_mixedTexts_40 : decode prog_1_method_57_code 40 = .ok (.getfield 16, 3) := ky_dc db_X6_mixedAnswers_109 54 rfl
theorem dc_X6_mixedTexts_43 : decode prog_1_method_57_code 43 = .ok (.lload_n 3, 1) := ky_dc db_X6_mixedAnswers_109 55 rfl
theorem dc_X6_mixedTexts_44 : decode prog_1_method_57_code 44 = .ok (.invokestatic 93, 3) := ky_dc db_X6_mixedAnswers_109 56 rfl
theorem dc_X6_mixedTexts_47 : decode prog_1_method_57_code 47 = .ok (.invokevirtual 208, 3) := ky_dc db_X6_mixedAnswers_109 57 rfl
theorem dc_X6_mixedTexts_50 : decode prog_1_method_57_code 50 = .ok (.i2l, 1) := ky_dc db_X6_mixedAnswers_109 58 rfl
theorem dc_X6_mixedTexts_51 : decode prog_1_method_57_code 51 = .ok (.invokestatic 199, 3) := ky_dc db_X6_mixedAnswers_109 59 rfl
def dl_X6_mixedTexts_54 : List (ByteArray × Nat × Jvm.ClassFile.Instr × Nat) := [(prog_1_method_57_code, 54, .lstore 5, 2), (prog_1_method_57_code, 56, .lload 5, 2), (prog_1_method_57_code, 58, .aload_n 0, 1), (prog_1_method_57_code, 59, .getfield 16, 3), (prog_1_method_57_code, 62, .lload_n 3, 1), (prog_1_method_57_code, 63, .invokestatic 111, 3), (prog_1_method_57_code, 66, .invokevirtual 208, 3), (prog_1_method_57_code, 69, .i2l, 1), (prog_1_method_57_code, 70, .invokestatic 199, 3), (prog_1_method_57_code, 73, .lstore 5, 2), (prog_1_method_57_code, 75, .lload 5, 2), (prog_1_method_57_code, 77, .aload_n 0, 1), (prog_1_method_57_code, 78, .getfield 16, 3), (prog_1_method_57_code, 81, .lload_n 3, 1), (prog_1_method_57_code, 82, .invokestatic 105, 3), (prog_1_method_57_code, 85, .invokevirtual 208, 3), (prog_1_method_57_code, 88, .i2l, 1), (prog_1_method_57_code, 89, .invokestatic 199, 3), (prog_1_method_57_code, 92, .lstore 5, 2), (prog_1_method_57_code, 94, .lload 5, 2), (prog_1_method_57_code, 96, .aload_n 0, 1), (prog_1_method_57_code, 97, .getfield 16, 3), (prog_1_method_57_code, 100, .lload_n 3, 1), (prog_1_method_57_code, 101, .invokestatic 108, 3), (prog_1_method_57_code, 104, .invokevirtual 208, 3), (prog_1_method_57_code, 107, .i2l, 1), (prog_1_method_57_code, 108, .invokestatic 199, 3), (prog_1_method_57_code, 111, .lreturn, 1), (prog_1_method_54_code, 0, .ldc2_w 197, 3), (prog_1_method_54_code, 3, .lstore_n 1, 1), (prog_1_method_54_code, 4, .iconst 0, 1), (prog_1_method_54_code, 5, .istore_n 3, 1), (prog_1_method_54_code, 6, .iload_n 3, 1), (prog_1_method_54_code, 7, .iconst 3, 1), (prog_1_method_54_code, 8, .if_icmp .gt 20, 3), (prog_1_method_54_code, 11, .lload_n 1, 1), (prog_1_method_54_code, 12, .aload_n 0, 1), (prog_1_method_54_code, 13, .iload_n 3, 1), (prog_1_method_54_code, 14, .invokevirtual 189, 3), (prog_1_method_54_code, 17, .i2l, 1), (prog_1_method_54_code, 18, .invokestatic 199, 3), (prog_1_method_54_code, 21, .lstore_n 1, 1), (prog_1_method_54_code, 22, .iinc 3 1, 3), (prog_1_method_54_code, 25, .goto (-19), 3), (prog_1_method_54_code, 28, .iconst 0, 1), (prog_1_method_54_code, 29, .istore_n 3, 1), (prog_1_method_54_code, 30, .iload_n 3, 1), (prog_1_method_54_code, 31, .bipush 6, 2), (prog_1_method_54_code, 33, .if_icmp .ge 33, 3), (prog_1_method_54_code, 66, .iconst 0, 1), (prog_1_method_54_code, 67, .istore_n 3, 1), (prog_1_method_54_code, 68, .iload_n 3, 1), (prog_1_method_54_code, 69, .bipush 6, 2), (prog_1_method_54_code, 71, .if_icmp .ge 69, 3), (prog_1_method_54_code, 140, .lload_n 1, 1), (prog_1_method_54_code, 141, .aload_n 0, 1), (prog_1_method_54_code, 142, .getfield 16, 3), (prog_1_method_54_code, 145, .aload_n 0, 1), (prog_1_method_54_code, 146, .invokevirtual 179, 3), (prog_1_method_54_code, 149, .invokevirtual 208, 3)]
theorem db_X6_mixedTexts_54 : dl_X6_mixedTexts_54.all (fun x => decide (decode x.1 x.2.1 = .ok x.2.2)) = true := by decide +kernel
theorem dc_X6_mixedTexts_54 : decode prog_1_method_57_code 54 = .ok (.lstore 5, 2) := ky_dc db_X6_mixedTexts_54 0 rfl
theorem dc_X6_mixedTexts_56 : decode prog_1_method_57_code 56 = .ok (.lload 5, 2) := ky_dc db_X6_mixedTexts_54 1 rfl
theorem dc_X6_mixedTexts_58 : decode prog_1_method_57_code 58 = .ok (.aload_n 0, 1) := ky_dc db_X6_mixedTexts_54 2 rfl
theorem dc_X6_mixedTexts_59 : decode prog_1_method_57_code 59 = .ok (.getfield 16, 3) := ky_dc db_X6_mixedTexts_54 3 rfl
theorem dc_X6_mixedTexts_62 : decode prog_1_method_57_code 62 = .ok (.lload_n 3, 1) := ky_dc db_X6_mixedTexts_54 4 rfl
theorem dc_X6_mixedTexts_63 : decode prog_1_method_57_code 63 = .ok (.invokestatic 111, 3) := ky_dc db_X6_mixedTexts_54 5 rfl
theorem dc_X6_mixedTexts_66 : decode prog_1_method_57_code 66 = .ok (.invokevirtual 208, 3) := ky_dc db_X6_mixedTexts_54 6 rfl
theorem dc_X6_mixedTexts_69 : decode prog_1_method_57_code 69 = .ok (.i2l, 1) := ky_dc db_X6_mixedTexts_54 7 rfl
theorem dc_X6_mixedTexts_70 : decode prog_1_method_57_code 70 = .ok (.invokestatic 199, 3) := ky_dc db_X6_mixedTexts_54 8 rfl
theorem dc_X6_mixedTexts_73 : decode prog_1_method_57_code 73 = .ok (.lstore 5, 2) := ky_dc db_X6_mixedTexts_54 9 rfl
theorem dc_X6_mixedTexts_75 : decode prog_1_method_57_code 75 = .ok (.lload 5, 2) := ky_dc db_X6_mixedTexts_54 10 rfl
theorem dc_X6_mixedTexts_77 : decode prog_1_method_57_code 77 = .ok (.aload_n 0, 1) := ky_dc db_X6_mixedTexts_54 11 rfl
theorem dc_X6_mixedTexts_78 : decode prog_1_method_57_code 78 = .ok (.getfield 16, 3) := ky_dc db_X6_mixedTexts_54 12 rfl
theorem dc_X6_mixedTexts_81 : decode prog_1_method_57_code 81 = .ok (.lload_n 3, 1) := ky_dc db_X6_mixedTexts_54 13 rfl
theorem dc_X6_mixedTexts_82 : decode prog_1_method_57_code 82 = .ok (.invokestatic 105, 3) := ky_dc db_X6_mixedTexts_54 14 rfl
theorem dc_X6_mixedTexts_85 : decode prog_1_method_57_code 85 = .ok (.invokevirtual 208, 3) := ky_dc db_X6_mixedTexts_54 15 rfl
theorem dc_X6_mixedTexts_88 : decode prog_1_method_57_code 88 = .ok (.i2l, 1) := ky_dc db_X6_mixedTexts_54 16 rfl
theorem dc_X6_mixedTexts_89 : decode prog_1_method_57_code 89 = .ok (.invokestatic 199, 3) := ky_dc db_X6_mixedTexts_54 17 rfl
theorem dc_X6_mixedTexts_92 : decode prog_1_method_57_code 92 = .ok (.lstore 5, 2) := ky_dc db_X6_mixedTexts_54 18 rfl
theorem dc_X6_mixedTexts_94 : decode prog_1_method_57_code 94 = .ok (.lload 5, 2) := ky_dc db_X6_mixedTexts_54 19 rfl
theorem dc_X6_mixedTexts_96 : decode prog_1_method_57_code 96 = .ok (.aload_n 0, 1) := ky_dc db_X6_mixedTexts_54 20 rfl
theorem dc_X6_mixedTexts_97 : decode prog_1_method_57_code 97 = .ok (.getfield 16, 3) := ky_dc db_X6_mixedTexts_54 21 rfl
theorem dc_X6_mixedTexts_100 : decode prog_1_method_57_code 100 = .ok (.lload_n 3, 1) := ky_dc db_X6_mixedTexts_54 22 rfl
theorem dc_X6_mixedTexts_101 : decode prog_1_method_57_code 101 = .ok (.invokestatic 108, 3) := ky_dc db_X6_mixedTexts_54 23 rfl
theorem dc_X6_mixedTexts_104 : decode prog_1_method_57_code 104 = .ok (.invokevirtual 208, 3) := ky_dc db_X6_mixedTexts_54 24 rfl
theorem dc_X6_mixedTexts_107 : decode prog_1_method_57_code 107 = .ok (.i2l, 1) := ky_dc db_X6_mixedTexts_54 25 rfl
theorem dc_X6_mixedTexts_108 : decode prog_1_method_57_code 108 = .ok (.invokestatic 199, 3) := ky_dc db_X6_mixedTexts_54 26 rfl
theorem dc_X6_mixedTexts_111 : decode prog_1_method_57_code 111 = .ok (.lreturn, 1) := ky_dc db_X6_mixedTexts_54 27 rfl
theorem dc_X6_digest_0 : decode prog_1_method_54_code 0 = .ok (.ldc2_w 197, 3) := ky_dc db_X6_mixedTexts_54 28 rfl
theorem dc_X6_digest_3 : decode prog_1_method_54_code 3 = .ok (.lstore_n 1, 1) := ky_dc db_X6_mixedTexts_54 29 rfl
theorem dc_X6_digest_4 : decode prog_1_method_54_code 4 = .ok (.iconst 0, 1) := ky_dc db_X6_mixedTexts_54 30 rfl
theorem dc_X6_digest_5 : decode prog_1_method_54_code 5 = .ok (.istore_n 3, 1) := ky_dc db_X6_mixedTexts_54 31 rfl
theorem dc_X6_digest_6 : decode prog_1_method_54_code 6 = .ok (.iload_n 3, 1) := ky_dc db_X6_mixedTexts_54 32 rfl
theorem dc_X6_digest_7 : decode prog_1_method_54_code 7 = .ok (.iconst 3, 1) := ky_dc db_X6_mixedTexts_54 33 rfl
theorem dc_X6_digest_8 : decode prog_1_method_54_code 8 = .ok (.if_icmp .gt 20, 3) := ky_dc db_X6_mixedTexts_54 34 rfl
theorem dc_X6_digest_11 : decode prog_1_method_54_code 11 = .ok (.lload_n 1, 1) := ky_dc db_X6_mixedTexts_54 35 rfl
theorem dc_X6_digest_12 : decode prog_1_method_54_code 12 = .ok (.aload_n 0, 1) := ky_dc db_X6_mixedTexts_54 36 rfl
theorem dc_X6_digest_13 : decode prog_1_method_54_code 13 = .ok (.iload_n 3, 1) := ky_dc db_X6_mixedTexts_54 37 rfl
theorem dc_X6_digest_14 : decode prog_1_method_54_code 14 = .ok (.invokevirtual 189, 3) := ky_dc db_X6_mixedTexts_54 38 rfl
theorem dc_X6_digest_17 : decode prog_1_method_54_code 17 = .ok (.i2l, 1) := ky_dc db_X6_mixedTexts_54 39 rfl
theorem dc_X6_digest_18 : decode prog_1_method_54_code 18 = .ok (.invokestatic 199, 3) := ky_dc db_X6_mixedTexts_54 40 rfl
theorem dc_X6_digest_21 : decode prog_1_method_54_code 21 = .ok (.lstore_n 1, 1) := ky_dc db_X6_mixedTexts_54 41 rfl
theorem dc_X6_digest_22 : decode prog_1_method_54_code 22 = .ok (.iinc 3 1, 3) := ky_dc db_X6_mixedTexts_54 42 rfl
theorem dc_X6_digest_25 : decode prog_1_method_54_code 25 = .ok (.goto (-19), 3) := ky_dc db_X6_mixedTexts_54 43 rfl
theorem dc_X6_digest_28 : decode prog_1_method_54_code 28 = .ok (.iconst 0, 1) := ky_dc db_X6_mixedTexts_54 44 rfl
theorem dc_X6_digest_29 : decode prog_1_method_54_code 29 = .ok (.istore_n 3, 1) := ky_dc db_X6_mixedTexts_54 45 rfl
theorem dc_X6_digest_30 : decode prog_1_method_54_code 30 = .ok (.iload_n 3, 1) := ky_dc db_X6_mixedTexts_54 46 rfl
theorem dc_X6_digest_31 : decode prog_1_method_54_code 31 = .ok (.bipush 6, 2) := ky_dc db_X6_mixedTexts_54 47 rfl
theorem dc_X6_digest_33 : decode prog_1_method_54_code 33 = .ok (.if_icmp .ge 33, 3) := ky_dc db_X6_mixedTexts_54 48 rfl
theorem dc_X6_digest_66 : decode prog_1_method_54_code 66 = .ok (.iconst 0, 1) := ky_dc db_X6_mixedTexts_54 49 rfl
theorem dc_X6_digest_67 : decode prog_1_method_54_code 67 = .ok (.istore_n 3, 1) := ky_dc db_X6_mixedTexts_54 50 rfl
theorem dc_X6_digest_68 : decode prog_1_method_54_code 68 = .ok (.iload_n 3, 1) := ky_dc db_X6_mixedTexts_54 51 rfl
theorem dc_X6_digest_69 : decode prog_1_method_54_code 69 = .ok (.bipush 6, 2) := ky_dc db_X6_mixedTexts_54 52 rfl
theorem dc_X6_digest_71 : decode prog_1_method_54_code 71 = .ok (.if_icmp .ge 69, 3) := ky_dc db_X6_mixedTexts_54 53 rfl
theorem dc_X6_digest_140 : decode prog_1_method_54_code 140 = .ok (.lload_n 1, 1) := ky_dc db_X6_mixedTexts_54 54 rfl
theorem dc_X6_digest_141 : decode prog_1_method_54_code 141 = .ok (.aload_n 0, 1) := ky_dc db_X6_mixedTexts_54 55 rfl
theorem dc_X6_digest_142 : decode prog_1_method_54_code 142 = .ok (.getfield 16, 3) := ky_dc db_X6_mixedTexts_54 56 rfl
theorem dc_X6_digest_145 : decode prog_1_method_54_code 145 = .ok (.aload_n 0, 1) := ky_dc db_X6_mixedTexts_54 57 rfl
theorem dc_X6_digest_146 : decode prog_1_method_54_code 146 = .ok (.invokevirtual 179, 3) := ky_dc db_X6_mixedTexts_54 58 rfl
theorem dc_X6_digest_149 : decode prog_1_method_54_code 149 = .ok (.invokevirtual 208, 3) := ky_dc db_X6_mixedTexts_54 59 rfl
def dl_X6_digest_152 : List (ByteArray × Nat × Jvm.ClassFile.Instr × Nat) := [(prog_1_method_54_code, 152, .i2l, 1), (prog_1_method_54_code, 153, .invokestatic 199, 3), (prog_1_method_54_code, 156, .lstore_n 1, 1), (prog_1_method_54_code, 157, .lload_n 1, 1), (prog_1_method_54_code, 158, .aload_n 0, 1), (prog_1_method_54_code, 159, .getfield 16, 3), (prog_1_method_54_code, 162, .aload_n 0, 1), (prog_1_method_54_code, 163, .invokevirtual 183, 3), (prog_1_method_54_code, 166, .invokevirtual 208, 3), (prog_1_method_54_code, 169, .i2l, 1), (prog_1_method_54_code, 170, .invokestatic 199, 3), (prog_1_method_54_code, 173, .lstore_n 1, 1), (prog_1_method_54_code, 174, .lload_n 1, 1), (prog_1_method_54_code, 175, .aload_n 0, 1), (prog_1_method_54_code, 176, .getfield 23, 3), (prog_1_method_54_code, 179, .aload_n 0, 1), (prog_1_method_54_code, 180, .getfield 9, 3), (prog_1_method_54_code, 183, .invokevirtual 193, 3), (prog_1_method_54_code, 186, .ifCond .eq 7, 3), (prog_1_method_54_code, 193, .lconst 0, 1), (prog_1_method_54_code, 194, .invokestatic 199, 3), (prog_1_method_54_code, 197, .lreturn, 1), (prog_1_method_54_code, 189, .lconst 1, 1), (prog_1_method_54_code, 190, .goto 4, 3), (prog_1_method_54_code, 74, .iconst 0, 1), (prog_1_method_54_code, 75, .istore 4, 2), (prog_1_method_54_code, 77, .iload 4, 2), (prog_1_method_54_code, 79, .bipush 6, 2), (prog_1_method_54_code, 81, .if_icmp .ge 53, 3), (prog_1_method_54_code, 84, .lload_n 1, 1), (prog_1_method_54_code, 85, .aload_n 0, 1), (prog_1_method_54_code, 86, .getfield 9, 3), (prog_1_method_54_code, 89, .iload_n 3, 1), (prog_1_method_54_code, 90, .laload, 1), (prog_1_method_54_code, 91, .aload_n 0, 1), (prog_1_method_54_code, 92, .getfield 9, 3), (prog_1_method_54_code, 95, .iload 4, 2), (prog_1_method_54_code, 97, .laload, 1), (prog_1_method_54_code, 98, .invokestatic 166, 3), (prog_1_method_54_code, 101, .i2l, 1), (prog_1_method_54_code, 102, .invokestatic 199, 3), (prog_1_method_54_code, 105, .lstore_n 1, 1), (prog_1_method_54_code, 106, .lload_n 1, 1), (prog_1_method_54_code, 107, .aload_n 0, 1), (prog_1_method_54_code, 108, .getfield 9, 3), (prog_1_method_54_code, 111, .iload_n 3, 1), (prog_1_method_54_code, 112, .laload, 1), (prog_1_method_54_code, 113, .aload_n 0, 1), (prog_1_method_54_code, 114, .getfield 9, 3), (prog_1_method_54_code, 117, .iload 4, 2), (prog_1_method_54_code, 119, .laload, 1), (prog_1_method_54_code, 120, .invokestatic 173, 3), (prog_1_method_54_code, 123, .i2l, 1), (prog_1_method_54_code, 124, .invokestatic 199, 3), (prog_1_method_54_code, 127, .lstore_n 1, 1), (prog_1_method_54_code, 128, .iinc 4 1, 3), (prog_1_method_54_code, 131, .goto (-54), 3), (prog_1_method_54_code, 134, .iinc 3 1, 3), (prog_1_method_54_code, 137, .goto (-69), 3), (prog_1_method_54_code, 36, .aload_n 0, 1)]
theorem db_X6_digest_152 : dl_X6_digest_152.all (fun x => decide (decode x.1 x.2.1 = .ok x.2.2)) = true := by decide +kernel
theorem dc_X6_digest_152 : decode prog_1_method_54_code 152 = .ok (.i2l, 1) := ky_dc db_X6_digest_152 0 rfl
theorem dc_X6_digest_153 : decode prog_1_method_54_code 153 = .ok (.invokestatic 199, 3) := ky_dc db_X6_digest_152 1 rfl
theorem dc_X6_digest_156 : decode prog_1_method_54_code 156 = .ok (.lstore_n 1, 1) := ky_dc db_X6_digest_152 2 rfl
theorem dc_X6_digest_157 : decode prog_1_method_54_code 157 = .ok (.lload_n 1, 1) := ky_dc db_X6_digest_152 3 rfl
theorem dc_X6_digest_158 : decode prog_1_method_54_code 158 = .ok (.aload_n 0, 1) := ky_dc db_X6_digest_152 4 rfl
theorem dc_X6_digest_159 : decode prog_1_method_54_code 159 = .ok (.getfield 16, 3) := ky_dc db_X6_digest_152 5 rfl
theorem dc_X6_digest_162 : decode prog_1_method_54_code 162 = .ok (.aload_n 0, 1) := ky_dc db_X6_digest_152 6 rfl
theorem dc_X6_digest_163 : decode prog_1_method_54_code 163 = .ok (.invokevirtual 183, 3) := ky_dc db_X6_digest_152 7 rfl
theorem dc_X6_digest_166 : decode prog_1_method_54_code 166 = .ok (.invokevirtual 208, 3) := ky_dc db_X6_digest_152 8 rfl
theorem dc_X6_digest_169 : decode prog_1_method_54_code 169 = .ok (.i2l, 1) := ky_dc db_X6_digest_152 9 rfl
theorem dc_X6_digest_170 : decode prog_1_method_54_code 170 = .ok (.invokestatic 199, 3) := ky_dc db_X6_digest_152 10 rfl
theorem dc_X6_digest_173 : decode prog_1_method_54_code 173 = .ok (.lstore_n 1, 1) := ky_dc db_X6_digest_152 11 rfl
theorem dc_X6_digest_174 : decode prog_1_method_54_code 174 = .ok (.lload_n 1, 1) := ky_dc db_X6_digest_152 12 rfl
theorem dc_X6_digest_175 : decode prog_1_method_54_code 175 = .ok (.aload_n 0, 1) := ky_dc db_X6_digest_152 13 rfl
theorem dc_X6_digest_176 : decode prog_1_method_54_code 176 = .ok (.getfield 23, 3) := ky_dc db_X6_digest_152 14 rfl
theorem dc_X6_digest_179 : decode prog_1_method_54_code 179 = .ok (.aload_n 0, 1) := ky_dc db_X6_digest_152 15 rfl
theorem dc_X6_digest_180 : decode prog_1_method_54_code 180 = .ok (.getfield 9, 3) := ky_dc db_X6_digest_152 16 rfl
theorem dc_X6_digest_183 : decode prog_1_method_54_code 183 = .ok (.invokevirtual 193, 3) := ky_dc db_X6_digest_152 17 rfl
theorem dc_X6_digest_186 : decode prog_1_method_54_code 186 = .ok (.ifCond .eq 7, 3) := ky_dc db_X6_digest_152 18 rfl
theorem dc_X6_digest_193 : decode prog_1_method_54_code 193 = .ok (.lconst 0, 1) := ky_dc db_X6_digest_152 19 rfl
theorem dc_X6_digest_194 : decode prog_1_method_54_code 194 = .ok (.invokestatic 199, 3) := ky_dc db_X6_digest_152 20 rfl
theorem dc_X6_digest_197 : decode prog_1_method_54_code 197 = .ok (.lreturn, 1) := ky_dc db_X6_digest_152 21 rfl
theorem dc_X6_digest_189 : decode prog_1_method_54_code 189 = .ok (.lconst 1, 1) := ky_dc db_X6_digest_152 22 rfl
theorem dc_X6_digest_190 : decode prog_1_method_54_code 190 = .ok (.goto 4, 3) := ky_dc db_X6_digest_152 23 rfl
theorem dc_X6_digest_74 : decode prog_1_method_54_code 74 = .ok (.iconst 0, 1) := ky_dc db_X6_digest_152 24 rfl
theorem dc_X6_digest_75 : decode prog_1_method_54_code 75 = .ok (.istore 4, 2) := ky_dc db_X6_digest_152 25 rfl
theorem dc_X6_digest_77 : decode prog_1_method_54_code 77 = .ok (.iload 4, 2) := ky_dc db_X6_digest_152 26 rfl
theorem dc_X6_digest_79 : decode prog_1_method_54_code 79 = .ok (.bipush 6, 2) := ky_dc db_X6_digest_152 27 rfl
theorem dc_X6_digest_81 : decode prog_1_method_54_code 81 = .ok (.if_icmp .ge 53, 3) := ky_dc db_X6_digest_152 28 rfl
theorem dc_X6_digest_84 : decode prog_1_method_54_code 84 = .ok (.lload_n 1, 1) := ky_dc db_X6_digest_152 29 rfl
theorem dc_X6_digest_85 : decode prog_1_method_54_code 85 = .ok (.aload_n 0, 1) := ky_dc db_X6_digest_152 30 rfl
theorem dc_X6_digest_86 : decode prog_1_method_54_code 86 = .ok (.getfield 9, 3) := ky_dc db_X6_digest_152 31 rfl
theorem dc_X6_digest_89 : decode prog_1_method_54_code 89 = .ok (.iload_n 3, 1) := ky_dc db_X6_digest_152 32 rfl
theorem dc_X6_digest_90 : decode prog_1_method_54_code 90 = .ok (.laload, 1) := ky_dc db_X6_digest_152 33 rfl
theorem dc_X6_digest_91 : decode prog_1_method_54_code 91 = .ok (.aload_n 0, 1) := ky_dc db_X6_digest_152 34 rfl
theorem dc_X6_digest_92 : decode prog_1_method_54_code 92 = .ok (.getfield 9, 3) := ky_dc db_X6_digest_152 35 rfl
theorem dc_X6_digest_95 : decode prog_1_method_54_code 95 = .ok (.iload 4, 2) := ky_dc db_X6_digest_152 36 rfl
theorem dc_X6_digest_97 : decode prog_1_method_54_code 97 = .ok (.laload, 1) := ky_dc db_X6_digest_152 37 rfl
theorem dc_X6_digest_98 : decode prog_1_method_54_code 98 = .ok (.invokestatic 166, 3) := ky_dc db_X6_digest_152 38 rfl
theorem dc_X6_digest_101 : decode prog_1_method_54_code 101 = .ok (.i2l, 1) := ky_dc db_X6_digest_152 39 rfl
theorem dc_X6_digest_102 : decode prog_1_method_54_code 102 = .ok (.invokestatic 199, 3) := ky_dc db_X6_digest_152 40 rfl
theorem dc_X6_digest_105 : decode prog_1_method_54_code 105 = .ok (.lstore_n 1, 1) := ky_dc db_X6_digest_152 41 rfl
theorem dc_X6_digest_106 : decode prog_1_method_54_code 106 = .ok (.lload_n 1, 1) := ky_dc db_X6_digest_152 42 rfl
theorem dc_X6_digest_107 : decode prog_1_method_54_code 107 = .ok (.aload_n 0, 1) := ky_dc db_X6_digest_152 43 rfl
theorem dc_X6_digest_108 : decode prog_1_method_54_code 108 = .ok (.getfield 9, 3) := ky_dc db_X6_digest_152 44 rfl
theorem dc_X6_digest_111 : decode prog_1_method_54_code 111 = .ok (.iload_n 3, 1) := ky_dc db_X6_digest_152 45 rfl
theorem dc_X6_digest_112 : decode prog_1_method_54_code 112 = .ok (.laload, 1) := ky_dc db_X6_digest_152 46 rfl
theorem dc_X6_digest_113 : decode prog_1_method_54_code 113 = .ok (.aload_n 0, 1) := ky_dc db_X6_digest_152 47 rfl
theorem dc_X6_digest_114 : decode prog_1_method_54_code 114 = .ok (.getfield 9, 3) := ky_dc db_X6_digest_152 48 rfl
theorem dc_X6_digest_117 : decode prog_1_method_54_code 117 = .ok (.iload 4, 2) := ky_dc db_X6_digest_152 49 rfl
theorem dc_X6_digest_119 : decode prog_1_method_54_code 119 = .ok (.laload, 1) := ky_dc db_X6_digest_152 50 rfl
theorem dc_X6_digest_120 : decode prog_1_method_54_code 120 = .ok (.invokestatic 173, 3) := ky_dc db_X6_digest_152 51 rfl
theorem dc_X6_digest_123 : decode prog_1_method_54_code 123 = .ok (.i2l, 1) := ky_dc db_X6_digest_152 52 rfl
theorem dc_X6_digest_124 : decode prog_1_method_54_code 124 = .ok (.invokestatic 199, 3) := ky_dc db_X6_digest_152 53 rfl
theorem dc_X6_digest_127 : decode prog_1_method_54_code 127 = .ok (.lstore_n 1, 1) := ky_dc db_X6_digest_152 54 rfl
theorem dc_X6_digest_128 : decode prog_1_method_54_code 128 = .ok (.iinc 4 1, 3) := ky_dc db_X6_digest_152 55 rfl
theorem dc_X6_digest_131 : decode prog_1_method_54_code 131 = .ok (.goto (-54), 3) := ky_dc db_X6_digest_152 56 rfl
theorem dc_X6_digest_134 : decode prog_1_method_54_code 134 = .ok (.iinc 3 1, 3) := ky_dc db_X6_digest_152 57 rfl
theorem dc_X6_digest_137 : decode prog_1_method_54_code 137 = .ok (.goto (-69), 3) := ky_dc db_X6_digest_152 58 rfl
theorem dc_X6_digest_36 : decode prog_1_method_54_code 36 = .ok (.aload_n 0, 1) := ky_dc db_X6_digest_152 59 rfl
def dl_X6_digest_37 : List (ByteArray × Nat × Jvm.ClassFile.Instr × Nat) := [(prog_1_method_54_code, 37, .lload_n 1, 1), (prog_1_method_54_code, 38, .aload_n 0, 1), (prog_1_method_54_code, 39, .getfield 9, 3), (prog_1_method_54_code, 42, .iload_n 3, 1), (prog_1_method_54_code, 43, .laload, 1), (prog_1_method_54_code, 44, .invokevirtual 202, 3), (prog_1_method_54_code, 47, .lstore_n 1, 1), (prog_1_method_54_code, 48, .aload_n 0, 1), (prog_1_method_54_code, 49, .lload_n 1, 1), (prog_1_method_54_code, 50, .aload_n 0, 1), (prog_1_method_54_code, 51, .getfield 9, 3), (prog_1_method_54_code, 54, .iload_n 3, 1), (prog_1_method_54_code, 55, .laload, 1), (prog_1_method_54_code, 56, .invokevirtual 205, 3), (prog_1_method_54_code, 59, .lstore_n 1, 1), (prog_1_method_54_code, 60, .iinc 3 1, 3), (prog_1_method_54_code, 63, .goto (-33), 3)]
theorem db_X6_digest_37 : dl_X6_digest_37.all (fun x => decide (decode x.1 x.2.1 = .ok x.2.2)) = true := by decide +kernel
theorem dc_X6_digest_37 : decode prog_1_method_54_code 37 = .ok (.lload_n 1, 1) := ky_dc db_X6_digest_37 0 rfl
theorem dc_X6_digest_38 : decode prog_1_method_54_code 38 = .ok (.aload_n 0, 1) := ky_dc db_X6_digest_37 1 rfl
theorem dc_X6_digest_39 : decode prog_1_method_54_code 39 = .ok (.getfield 9, 3) := ky_dc db_X6_digest_37 2 rfl
theorem dc_X6_digest_42 : decode prog_1_method_54_code 42 = .ok (.iload_n 3, 1) := ky_dc db_X6_digest_37 3 rfl
theorem dc_X6_digest_43 : decode prog_1_method_54_code 43 = .ok (.laload, 1) := ky_dc db_X6_digest_37 4 rfl
theorem dc_X6_digest_44 : decode prog_1_method_54_code 44 = .ok (.invokevirtual 202, 3) := ky_dc db_X6_digest_37 5 rfl
theorem dc_X6_digest_47 : decode prog_1_method_54_code 47 = .ok (.lstore_n 1, 1) := ky_dc db_X6_digest_37 6 rfl
theorem dc_X6_digest_48 : decode prog_1_method_54_code 48 = .ok (.aload_n 0, 1) := ky_dc db_X6_digest_37 7 rfl
theorem dc_X6_digest_49 : decode prog_1_method_54_code 49 = .ok (.lload_n 1, 1) := ky_dc db_X6_digest_37 8 rfl
theorem dc_X6_digest_50 : decode prog_1_method_54_code 50 = .ok (.aload_n 0, 1) := ky_dc db_X6_digest_37 9 rfl
theorem dc_X6_digest_51 : decode prog_1_method_54_code 51 = .ok (.getfield 9, 3) := ky_dc db_X6_digest_37 10 rfl
theorem dc_X6_digest_54 : decode prog_1_method_54_code 54 = .ok (.iload_n 3, 1) := ky_dc db_X6_digest_37 11 rfl
theorem dc_X6_digest_55 : decode prog_1_method_54_code 55 = .ok (.laload, 1) := ky_dc db_X6_digest_37 12 rfl
theorem dc_X6_digest_56 : decode prog_1_method_54_code 56 = .ok (.invokevirtual 205, 3) := ky_dc db_X6_digest_37 13 rfl
theorem dc_X6_digest_59 : decode prog_1_method_54_code 59 = .ok (.lstore_n 1, 1) := ky_dc db_X6_digest_37 14 rfl
theorem dc_X6_digest_60 : decode prog_1_method_54_code 60 = .ok (.iinc 3 1, 3) := ky_dc db_X6_digest_37 15 rfl
theorem dc_X6_digest_63 : decode prog_1_method_54_code 63 = .ok (.goto (-33), 3) := ky_dc db_X6_digest_37 16 rfl
