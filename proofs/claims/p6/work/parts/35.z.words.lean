abbrev my_J6_getChars_ba4f3 : MethodName := ⟨"java/lang/Integer", "getChars", "(II[B)I"⟩
abbrev my_J13_getChars_11360 : MethodName := ⟨"java/lang/Long", "getChars", "(JI[B)I"⟩
abbrev my_J5_append_c97b9 : MethodName := ⟨"java/lang/AbstractStringBuilder", "append", "(I)Ljava/lang/AbstractStringBuilder;"⟩
abbrev my_J4_append_bf812 : MethodName := ⟨"java/lang/StringBuilder", "append", "(I)Ljava/lang/StringBuilder;"⟩
abbrev my_J5_append_66267 : MethodName := ⟨"java/lang/AbstractStringBuilder", "append", "(J)Ljava/lang/AbstractStringBuilder;"⟩
abbrev my_J4_append_f7089 : MethodName := ⟨"java/lang/StringBuilder", "append", "(J)Ljava/lang/StringBuilder;"⟩
theorem kw_2_55 : (Jvm.Cond.fieldLink "java/lang/Integer" (83 : Nat) "java/lang/Integer" "DigitOnes" "[B") ∈ ky_B := ky_mem (kc_2 _ (List.mem_of_getElem? (i := 55) rfl)) (by decide +kernel)
theorem kw_2_57 : (Jvm.Cond.fieldLink "java/lang/Integer" (87 : Nat) "java/lang/Integer" "DigitTens" "[B") ∈ ky_B := ky_mem (kc_2 _ (List.mem_of_getElem? (i := 57) rfl)) (by decide +kernel)
theorem kw_7_76 : (Jvm.Cond.constantLong "java/lang/Long" (129 : Nat) (-2147483648 : Int64)) ∈ ky_B := ky_mem (kc_7 _ (List.mem_of_getElem? (i := 76) rfl)) (by decide +kernel)
theorem kw_7_78 : (Jvm.Cond.fieldLink "java/lang/Long" (133 : Nat) "java/lang/Integer" "DigitOnes" "[B") ∈ ky_B := ky_mem (kc_7 _ (List.mem_of_getElem? (i := 78) rfl)) (by decide +kernel)
theorem kw_7_79 : (Jvm.Cond.fieldLink "java/lang/Long" (137 : Nat) "java/lang/Integer" "DigitTens" "[B") ∈ ky_B := ky_mem (kc_7 _ (List.mem_of_getElem? (i := 79) rfl)) (by decide +kernel)
theorem kw_7_77 : (Jvm.Cond.constantLong "java/lang/Long" (131 : Nat) (100 : Int64)) ∈ ky_B := ky_mem (kc_7 _ (List.mem_of_getElem? (i := 77) rfl)) (by decide +kernel)
theorem kw_2_49 : (Jvm.Cond.methodLink "java/lang/AbstractStringBuilder" (245 : Nat) ({ cls := "java/lang/Integer", name := "stringSize", desc := "(I)I" } : Jvm.MethodName)) ∈ ky_B := ky_mem (kc_2 _ (List.mem_of_getElem? (i := 49) rfl)) (by decide +kernel)
theorem kw_2_50 : (Jvm.Cond.static ({ cls := "java/lang/Integer", name := "stringSize", desc := "(I)I" } : Jvm.MethodName)) ∈ ky_B := ky_mem (kc_2 _ (List.mem_of_getElem? (i := 50) rfl)) (by decide +kernel)
theorem kw_1_26 : (Jvm.Cond.initialized "java/lang/Integer") ∈ ky_B := ky_mem (kc_1 _ (List.mem_of_getElem? (i := 26) rfl)) (by decide +kernel)
theorem kw_2_51 : (Jvm.Cond.code ({ cls := "java/lang/Integer", name := "stringSize", desc := "(I)I" } : Jvm.MethodName) prog_18_method_13_code (4 : Nat) (Option.some Jvm.ClassFile.FieldType.int)) ∈ ky_B := ky_mem (kc_2 _ (List.mem_of_getElem? (i := 51) rfl)) (by decide +kernel)
theorem kw_2_52 : (Jvm.Cond.methodLink "java/lang/AbstractStringBuilder" (248 : Nat) ({ cls := "java/lang/Integer", name := "getChars", desc := "(II[B)I" } : Jvm.MethodName)) ∈ ky_B := ky_mem (kc_2 _ (List.mem_of_getElem? (i := 52) rfl)) (by decide +kernel)
theorem kw_2_53 : (Jvm.Cond.static ({ cls := "java/lang/Integer", name := "getChars", desc := "(II[B)I" } : Jvm.MethodName)) ∈ ky_B := ky_mem (kc_2 _ (List.mem_of_getElem? (i := 53) rfl)) (by decide +kernel)
theorem kw_2_54 : (Jvm.Cond.code ({ cls := "java/lang/Integer", name := "getChars", desc := "(II[B)I" } : Jvm.MethodName) prog_18_method_12_code (7 : Nat) (Option.some Jvm.ClassFile.FieldType.int)) ∈ ky_B := ky_mem (kc_2 _ (List.mem_of_getElem? (i := 54) rfl)) (by decide +kernel)
theorem kw_8_47 : (Jvm.Cond.sameMethod "java/lang/AbstractStringBuilder" "java/lang/AbstractStringBuilder" "append" "(I)Ljava/lang/AbstractStringBuilder;") ∈ ky_B := ky_mem (kc_8 _ (List.mem_of_getElem? (i := 47) rfl)) (by decide +kernel)
theorem kw_2_46 : (Jvm.Cond.methodLink "java/lang/StringBuilder" (53 : Nat) ({ cls := "java/lang/AbstractStringBuilder", name := "append", desc := "(I)Ljava/lang/AbstractStringBuilder;" } : Jvm.MethodName)) ∈ ky_B := ky_mem (kc_2 _ (List.mem_of_getElem? (i := 46) rfl)) (by decide +kernel)
theorem kw_2_47 : (Jvm.Cond.instanceMethod ({ cls := "java/lang/AbstractStringBuilder", name := "append", desc := "(I)Ljava/lang/AbstractStringBuilder;" } : Jvm.MethodName)) ∈ ky_B := ky_mem (kc_2 _ (List.mem_of_getElem? (i := 47) rfl)) (by decide +kernel)
theorem kw_2_48 : (Jvm.Cond.code ({ cls := "java/lang/AbstractStringBuilder", name := "append", desc := "(I)Ljava/lang/AbstractStringBuilder;" } : Jvm.MethodName) prog_12_method_32_code (4 : Nat) (Option.some (Jvm.ClassFile.FieldType.object "java/lang/AbstractStringBuilder"))) ∈ ky_B := ky_mem (kc_2 _ (List.mem_of_getElem? (i := 48) rfl)) (by decide +kernel)
theorem kw_7_68 : (Jvm.Cond.methodLink "java/lang/AbstractStringBuilder" (254 : Nat) ({ cls := "java/lang/Long", name := "stringSize", desc := "(J)I" } : Jvm.MethodName)) ∈ ky_B := ky_mem (kc_7 _ (List.mem_of_getElem? (i := 68) rfl)) (by decide +kernel)
theorem kw_7_69 : (Jvm.Cond.static ({ cls := "java/lang/Long", name := "stringSize", desc := "(J)I" } : Jvm.MethodName)) ∈ ky_B := ky_mem (kc_7 _ (List.mem_of_getElem? (i := 69) rfl)) (by decide +kernel)
theorem kw_7_70 : (Jvm.Cond.code ({ cls := "java/lang/Long", name := "stringSize", desc := "(J)I" } : Jvm.MethodName) prog_19_method_15_code (6 : Nat) (Option.some Jvm.ClassFile.FieldType.int)) ∈ ky_B := ky_mem (kc_7 _ (List.mem_of_getElem? (i := 70) rfl)) (by decide +kernel)
theorem kw_7_73 : (Jvm.Cond.methodLink "java/lang/AbstractStringBuilder" (259 : Nat) ({ cls := "java/lang/Long", name := "getChars", desc := "(JI[B)I" } : Jvm.MethodName)) ∈ ky_B := ky_mem (kc_7 _ (List.mem_of_getElem? (i := 73) rfl)) (by decide +kernel)
theorem kw_7_74 : (Jvm.Cond.static ({ cls := "java/lang/Long", name := "getChars", desc := "(JI[B)I" } : Jvm.MethodName)) ∈ ky_B := ky_mem (kc_7 _ (List.mem_of_getElem? (i := 74) rfl)) (by decide +kernel)
theorem kw_7_75 : (Jvm.Cond.code ({ cls := "java/lang/Long", name := "getChars", desc := "(JI[B)I" } : Jvm.MethodName) prog_19_method_14_code (11 : Nat) (Option.some Jvm.ClassFile.FieldType.int)) ∈ ky_B := ky_mem (kc_7 _ (List.mem_of_getElem? (i := 75) rfl)) (by decide +kernel)
theorem kw_8_51 : (Jvm.Cond.sameMethod "java/lang/AbstractStringBuilder" "java/lang/AbstractStringBuilder" "append" "(J)Ljava/lang/AbstractStringBuilder;") ∈ ky_B := ky_mem (kc_8 _ (List.mem_of_getElem? (i := 51) rfl)) (by decide +kernel)
theorem kw_7_65 : (Jvm.Cond.methodLink "java/lang/StringBuilder" (56 : Nat) ({ cls := "java/lang/AbstractStringBuilder", name := "append", desc := "(J)Ljava/lang/AbstractStringBuilder;" } : Jvm.MethodName)) ∈ ky_B := ky_mem (kc_7 _ (List.mem_of_getElem? (i := 65) rfl)) (by decide +kernel)
theorem kw_7_66 : (Jvm.Cond.instanceMethod ({ cls := "java/lang/AbstractStringBuilder", name := "append", desc := "(J)Ljava/lang/AbstractStringBuilder;" } : Jvm.MethodName)) ∈ ky_B := ky_mem (kc_7 _ (List.mem_of_getElem? (i := 66) rfl)) (by decide +kernel)
theorem kw_7_67 : (Jvm.Cond.code ({ cls := "java/lang/AbstractStringBuilder", name := "append", desc := "(J)Ljava/lang/AbstractStringBuilder;" } : Jvm.MethodName) prog_12_method_33_code (5 : Nat) (Option.some (Jvm.ClassFile.FieldType.object "java/lang/AbstractStringBuilder"))) ∈ ky_B := ky_mem (kc_7 _ (List.mem_of_getElem? (i := 67) rfl)) (by decide +kernel)
theorem ks_J5_245 : ky_wS "java/lang/AbstractStringBuilder" 245 my_J6_stringSize_0f7a4 prog_18_method_13_code 4 (Option.some Jvm.ClassFile.FieldType.int) 1 := ⟨kw_2_49, kw_2_50, kw_1_26, kw_2_51, by decide, by decide, by decide +kernel⟩
theorem ks_J5_248 : ky_wS "java/lang/AbstractStringBuilder" 248 my_J6_getChars_ba4f3 prog_18_method_12_code 7 (Option.some Jvm.ClassFile.FieldType.int) 3 := ⟨kw_2_52, kw_2_53, kw_1_26, kw_2_54, by decide, by decide, by decide +kernel⟩
theorem ku_J4_53 : ky_wSU "java/lang/StringBuilder" 53 my_J5_append_c97b9 prog_12_method_32_code 4 (Option.some (Jvm.ClassFile.FieldType.object "java/lang/AbstractStringBuilder")) 1 := ⟨kw_2_46, kw_8_47, kw_1_75, kw_2_47, kw_1_3, kw_2_48, by decide, by decide +kernel⟩
theorem ks_J5_254 : ky_wS "java/lang/AbstractStringBuilder" 254 my_J13_stringSize_95d88 prog_19_method_15_code 6 (Option.some Jvm.ClassFile.FieldType.int) 1 := ⟨kw_7_68, kw_7_69, kw_1_28, kw_7_70, by decide, by decide, by decide +kernel⟩
theorem ks_J5_259 : ky_wS "java/lang/AbstractStringBuilder" 259 my_J13_getChars_11360 prog_19_method_14_code 11 (Option.some Jvm.ClassFile.FieldType.int) 3 := ⟨kw_7_73, kw_7_74, kw_1_28, kw_7_75, by decide, by decide, by decide +kernel⟩
theorem ku_J4_56 : ky_wSU "java/lang/StringBuilder" 56 my_J5_append_66267 prog_12_method_33_code 5 (Option.some (Jvm.ClassFile.FieldType.object "java/lang/AbstractStringBuilder")) 1 := ⟨kw_7_65, kw_8_51, kw_1_75, kw_7_66, kw_1_3, kw_7_67, by decide, by decide +kernel⟩
def dl_J6_getChars_ba4f3_0 : List (ByteArray × Nat × Jvm.ClassFile.Instr × Nat) := [(prog_18_method_12_code, 0, .iload_n 1, 1), (prog_18_method_12_code, 1, .istore 5, 2), (prog_18_method_12_code, 3, .iload_n 0, 1), (prog_18_method_12_code, 4, .ifCond .ge 7, 3), (prog_18_method_12_code, 11, .iconst 0, 1), (prog_18_method_12_code, 12, .istore 6, 2), (prog_18_method_12_code, 14, .iload 6, 2), (prog_18_method_12_code, 16, .ifCond .ne 6, 3), (prog_18_method_12_code, 19, .iload_n 0, 1), (prog_18_method_12_code, 20, .ineg, 1), (prog_18_method_12_code, 21, .istore_n 0, 1), (prog_18_method_12_code, 22, .iload_n 0, 1), (prog_18_method_12_code, 23, .bipush (-100), 2), (prog_18_method_12_code, 25, .if_icmp .gt 47, 3), (prog_18_method_12_code, 72, .aload_n 2, 1), (prog_18_method_12_code, 73, .iinc 5 (-1), 3), (prog_18_method_12_code, 76, .iload 5, 2), (prog_18_method_12_code, 78, .getstatic 83, 3), (prog_18_method_12_code, 81, .iload_n 0, 1), (prog_18_method_12_code, 82, .ineg, 1), (prog_18_method_12_code, 83, .baload, 1), (prog_18_method_12_code, 84, .bastore, 1), (prog_18_method_12_code, 85, .iload_n 0, 1), (prog_18_method_12_code, 86, .bipush (-9), 2), (prog_18_method_12_code, 88, .if_icmp .ge 16, 3), (prog_18_method_12_code, 104, .iload 6, 2), (prog_18_method_12_code, 106, .ifCond .eq 12, 3), (prog_18_method_12_code, 118, .iload 5, 2), (prog_18_method_12_code, 120, .ireturn, 1), (prog_18_method_12_code, 109, .aload_n 2, 1), (prog_18_method_12_code, 110, .iinc 5 (-1), 3), (prog_18_method_12_code, 113, .iload 5, 2), (prog_18_method_12_code, 115, .bipush 45, 2), (prog_18_method_12_code, 117, .bastore, 1), (prog_18_method_12_code, 91, .aload_n 2, 1), (prog_18_method_12_code, 92, .iinc 5 (-1), 3), (prog_18_method_12_code, 95, .iload 5, 2), (prog_18_method_12_code, 97, .getstatic 87, 3), (prog_18_method_12_code, 100, .iload_n 0, 1), (prog_18_method_12_code, 101, .ineg, 1), (prog_18_method_12_code, 102, .baload, 1), (prog_18_method_12_code, 103, .bastore, 1), (prog_18_method_12_code, 28, .iload_n 0, 1), (prog_18_method_12_code, 29, .bipush 100, 2), (prog_18_method_12_code, 31, .idiv, 1), (prog_18_method_12_code, 32, .istore_n 3, 1), (prog_18_method_12_code, 33, .iload_n 3, 1), (prog_18_method_12_code, 34, .bipush 100, 2), (prog_18_method_12_code, 36, .imul, 1), (prog_18_method_12_code, 37, .iload_n 0, 1), (prog_18_method_12_code, 38, .isub, 1), (prog_18_method_12_code, 39, .istore 4, 2), (prog_18_method_12_code, 41, .iload_n 3, 1), (prog_18_method_12_code, 42, .istore_n 0, 1), (prog_18_method_12_code, 43, .aload_n 2, 1), (prog_18_method_12_code, 44, .iinc 5 (-1), 3), (prog_18_method_12_code, 47, .iload 5, 2), (prog_18_method_12_code, 49, .getstatic 83, 3), (prog_18_method_12_code, 52, .iload 4, 2), (prog_18_method_12_code, 54, .baload, 1)]
theorem db_J6_getChars_ba4f3_0 : dl_J6_getChars_ba4f3_0.all (fun x => decide (decode x.1 x.2.1 = .ok x.2.2)) = true := by decide +kernel
theorem dc_J6_getChars_ba4f3_0 : decode prog_18_method_12_code 0 = .ok (.iload_n 1, 1) := ky_dc db_J6_getChars_ba4f3_0 0 rfl
theorem dc_J6_getChars_ba4f3_1 : decode prog_18_method_12_code 1 = .ok (.istore 5, 2) := ky_dc db_J6_getChars_ba4f3_0 1 rfl
theorem dc_J6_getChars_ba4f3_3 : decode prog_18_method_12_code 3 = .ok (.iload_n 0, 1) := ky_dc db_J6_getChars_ba4f3_0 2 rfl
theorem dc_J6_getChars_ba4f3_4 : decode prog_18_method_12_code 4 = .ok (.ifCond .ge 7, 3) := ky_dc db_J6_getChars_ba4f3_0 3 rfl
theorem dc_J6_getChars_ba4f3_11 : decode prog_18_method_12_code 11 = .ok (.iconst 0, 1) := ky_dc db_J6_getChars_ba4f3_0 4 rfl
theorem dc_J6_getChars_ba4f3_12 : decode prog_18_method_12_code 12 = .ok (.istore 6, 2) := ky_dc db_J6_getChars_ba4f3_0 5 rfl
theorem dc_J6_getChars_ba4f3_14 : decode prog_18_method_12_code 14 = .ok (.iload 6, 2) := ky_dc db_J6_getChars_ba4f3_0 6 rfl
theorem dc_J6_getChars_ba4f3_16 : decode prog_18_method_12_code 16 = .ok (.ifCond .ne 6, 3) := ky_dc db_J6_getChars_ba4f3_0 7 rfl
theorem dc_J6_getChars_ba4f3_19 : decode prog_18_method_12_code 19 = .ok (.iload_n 0, 1) := ky_dc db_J6_getChars_ba4f3_0 8 rfl
theorem dc_J6_getChars_ba4f3_20 : decode prog_18_method_12_code 20 = .ok (.ineg, 1) := ky_dc db_J6_getChars_ba4f3_0 9 rfl
theorem dc_J6_getChars_ba4f3_21 : decode prog_18_method_12_code 21 = .ok (.istore_n 0, 1) := ky_dc db_J6_getChars_ba4f3_0 10 rfl
theorem dc_J6_getChars_ba4f3_22 : decode prog_18_method_12_code 22 = .ok (.iload_n 0, 1) := ky_dc db_J6_getChars_ba4f3_0 11 rfl
theorem dc_J6_getChars_ba4f3_23 : decode prog_18_method_12_code 23 = .ok (.bipush (-100), 2) := ky_dc db_J6_getChars_ba4f3_0 12 rfl
theorem dc_J6_getChars_ba4f3_25 : decode prog_18_method_12_code 25 = .ok (.if_icmp .gt 47, 3) := ky_dc db_J6_getChars_ba4f3_0 13 rfl
theorem dc_J6_getChars_ba4f3_72 : decode prog_18_method_12_code 72 = .ok (.aload_n 2, 1) := ky_dc db_J6_getChars_ba4f3_0 14 rfl
theorem dc_J6_getChars_ba4f3_73 : decode prog_18_method_12_code 73 = .ok (.iinc 5 (-1), 3) := ky_dc db_J6_getChars_ba4f3_0 15 rfl
theorem dc_J6_getChars_ba4f3_76 : decode prog_18_method_12_code 76 = .ok (.iload 5, 2) := ky_dc db_J6_getChars_ba4f3_0 16 rfl
theorem dc_J6_getChars_ba4f3_78 : decode prog_18_method_12_code 78 = .ok (.getstatic 83, 3) := ky_dc db_J6_getChars_ba4f3_0 17 rfl
theorem dc_J6_getChars_ba4f3_81 : decode prog_18_method_12_code 81 = .ok (.iload_n 0, 1) := ky_dc db_J6_getChars_ba4f3_0 18 rfl
theorem dc_J6_getChars_ba4f3_82 : decode prog_18_method_12_code 82 = .ok (.ineg, 1) := ky_dc db_J6_getChars_ba4f3_0 19 rfl
theorem dc_J6_getChars_ba4f3_83 : decode prog_18_method_12_code 83 = .ok (.baload, 1) := ky_dc db_J6_getChars_ba4f3_0 20 rfl
theorem dc_J6_getChars_ba4f3_84 : decode prog_18_method_12_code 84 = .ok (.bastore, 1) := ky_dc db_J6_getChars_ba4f3_0 21 rfl
theorem dc_J6_getChars_ba4f3_85 : decode prog_18_method_12_code 85 = .ok (.iload_n 0, 1) := ky_dc db_J6_getChars_ba4f3_0 22 rfl
theorem dc_J6_getChars_ba4f3_86 : decode prog_18_method_12_code 86 = .ok (.bipush (-9), 2) := ky_dc db_J6_getChars_ba4f3_0 23 rfl
theorem dc_J6_getChars_ba4f3_88 : decode prog_18_method_12_code 88 = .ok (.if_icmp .ge 16, 3) := ky_dc db_J6_getChars_ba4f3_0 24 rfl
theorem dc_J6_getChars_ba4f3_104 : decode prog_18_method_12_code 104 = .ok (.iload 6, 2) := ky_dc db_J6_getChars_ba4f3_0 25 rfl
theorem dc_J6_getChars_ba4f3_106 : decode prog_18_method_12_code 106 = .ok (.ifCond .eq 12, 3) := ky_dc db_J6_getChars_ba4f3_0 26 rfl
theorem dc_J6_getChars_ba4f3_118 : decode prog_18_method_12_code 118 = .ok (.iload 5, 2) := ky_dc db_J6_getChars_ba4f3_0 27 rfl
theorem dc_J6_getChars_ba4f3_120 : decode prog_18_method_12_code 120 = .ok (.ireturn, 1) := ky_dc db_J6_getChars_ba4f3_0 28 rfl
theorem dc_J6_getChars_ba4f3_109 : decode prog_18_method_12_code 109 = .ok (.aload_n 2, 1) := ky_dc db_J6_getChars_ba4f3_0 29 rfl
theorem dc_J6_getChars_ba4f3_110 : decode prog_18_method_12_code 110 = .ok (.iinc 5 (-1), 3) := ky_dc db_J6_getChars_ba4f3_0 30 rfl
theorem dc_J6_getChars_ba4f3_113 : decode prog_18_method_12_code 113 = .ok (.iload 5, 2) := ky_dc db_J6_getChars_ba4f3_0 31 rfl
theorem dc_J6_getChars_ba4f3_115 : decode prog_18_method_12_code 115 = .ok (.bipush 45, 2) := ky_dc db_J6_getChars_ba4f3_0 32 rfl
theorem dc_J6_getChars_ba4f3_117 : decode prog_18_method_12_code 117 = .ok (.bastore, 1) := ky_dc db_J6_getChars_ba4f3_0 33 rfl
theorem dc_J6_getChars_ba4f3_91 : decode prog_18_method_12_code 91 = .ok (.aload_n 2, 1) := ky_dc db_J6_getChars_ba4f3_0 34 rfl
theorem dc_J6_getChars_ba4f3_92 : decode prog_18_method_12_code 92 = .ok (.iinc 5 (-1), 3) := ky_dc db_J6_getChars_ba4f3_0 35 rfl
theorem dc_J6_getChars_ba4f3_95 : decode prog_18_method_12_code 95 = .ok (.iload 5, 2) := ky_dc db_J6_getChars_ba4f3_0 36 rfl
theorem dc_J6_getChars_ba4f3_97 : decode prog_18_method_12_code 97 = .ok (.getstatic 87, 3) := ky_dc db_J6_getChars_ba4f3_0 37 rfl
theorem dc_J6_getChars_ba4f3_100 : decode prog_18_method_12_code 100 = .ok (.iload_n 0, 1) := ky_dc db_J6_getChars_ba4f3_0 38 rfl
theorem dc_J6_getChars_ba4f3_101 : decode prog_18_method_12_code 101 = .ok (.ineg, 1) := ky_dc db_J6_getChars_ba4f3_0 39 rfl
theorem dc_J6_getChars_ba4f3_102 : decode prog_18_method_12_code 102 = .ok (.baload, 1) := ky_dc db_J6_getChars_ba4f3_0 40 rfl
theorem dc_J6_getChars_ba4f3_103 : decode prog_18_method_12_code 103 = .ok (.bastore, 1) := ky_dc db_J6_getChars_ba4f3_0 41 rfl
theorem dc_J6_getChars_ba4f3_28 : decode prog_18_method_12_code 28 = .ok (.iload_n 0, 1) := ky_dc db_J6_getChars_ba4f3_0 42 rfl
theorem dc_J6_getChars_ba4f3_29 : decode prog_18_method_12_code 29 = .ok (.bipush 100, 2) := ky_dc db_J6_getChars_ba4f3_0 43 rfl
theorem dc_J6_getChars_ba4f3_31 : decode prog_18_method_12_code 31 = .ok (.idiv, 1) := ky_dc db_J6_getChars_ba4f3_0 44 rfl
theorem dc_J6_getChars_ba4f3_32 : decode prog_18_method_12_code 32 = .ok (.istore_n 3, 1) := ky_dc db_J6_getChars_ba4f3_0 45 rfl
theorem dc_J6_getChars_ba4f3_33 : decode prog_18_method_12_code 33 = .ok (.iload_n 3, 1) := ky_dc db_J6_getChars_ba4f3_0 46 rfl
theorem dc_J6_getChars_ba4f3_34 : decode prog_18_method_12_code 34 = .ok (.bipush 100, 2) := ky_dc db_J6_getChars_ba4f3_0 47 rfl
theorem dc_J6_getChars_ba4f3_36 : decode prog_18_method_12_code 36 = .ok (.imul, 1) := ky_dc db_J6_getChars_ba4f3_0 48 rfl
theorem dc_J6_getChars_ba4f3_37 : decode prog_18_method_12_code 37 = .ok (.iload_n 0, 1) := ky_dc db_J6_getChars_ba4f3_0 49 rfl
theorem dc_J6_getChars_ba4f3_38 : decode prog_18_method_12_code 38 = .ok (.isub, 1) := ky_dc db_J6_getChars_ba4f3_0 50 rfl
theorem dc_J6_getChars_ba4f3_39 : decode prog_18_method_12_code 39 = .ok (.istore 4, 2) := ky_dc db_J6_getChars_ba4f3_0 51 rfl
theorem dc_J6_getChars_ba4f3_41 : decode prog_18_method_12_code 41 = .ok (.iload_n 3, 1) := ky_dc db_J6_getChars_ba4f3_0 52 rfl
theorem dc_J6_getChars_ba4f3_42 : decode prog_18_method_12_code 42 = .ok (.istore_n 0, 1) := ky_dc db_J6_getChars_ba4f3_0 53 rfl
theorem dc_J6_getChars_ba4f3_43 : decode prog_18_method_12_code 43 = .ok (.aload_n 2, 1) := ky_dc db_J6_getChars_ba4f3_0 54 rfl
theorem dc_J6_getChars_ba4f3_44 : decode prog_18_method_12_code 44 = .ok (.iinc 5 (-1), 3) := ky_dc db_J6_getChars_ba4f3_0 55 rfl
theorem dc_J6_getChars_ba4f3_47 : decode prog_18_method_12_code 47 = .ok (.iload 5, 2) := ky_dc db_J6_getChars_ba4f3_0 56 rfl
theorem dc_J6_getChars_ba4f3_49 : decode prog_18_method_12_code 49 = .ok (.getstatic 83, 3) := ky_dc db_J6_getChars_ba4f3_0 57 rfl
theorem dc_J6_getChars_ba4f3_52 : decode prog_18_method_12_code 52 = .ok (.iload 4, 2) := ky_dc db_J6_getChars_ba4f3_0 58 rfl
theorem dc_J6_getChars_ba4f3_54 : decode prog_18_method_12_code 54 = .ok (.baload, 1) := ky_dc db_J6_getChars_ba4f3_0 59 rfl
def dl_J6_getChars_ba4f3_55 : List (ByteArray × Nat × Jvm.ClassFile.Instr × Nat) := [(prog_18_method_12_code, 55, .bastore, 1), (prog_18_method_12_code, 56, .aload_n 2, 1), (prog_18_method_12_code, 57, .iinc 5 (-1), 3), (prog_18_method_12_code, 60, .iload 5, 2), (prog_18_method_12_code, 62, .getstatic 87, 3), (prog_18_method_12_code, 65, .iload 4, 2), (prog_18_method_12_code, 67, .baload, 1), (prog_18_method_12_code, 68, .bastore, 1), (prog_18_method_12_code, 69, .goto (-47), 3), (prog_18_method_12_code, 7, .iconst 1, 1), (prog_18_method_12_code, 8, .goto 4, 3), (prog_19_method_14_code, 0, .iload_n 2, 1), (prog_19_method_14_code, 1, .istore 7, 2), (prog_19_method_14_code, 3, .lload_n 0, 1), (prog_19_method_14_code, 4, .lconst 0, 1), (prog_19_method_14_code, 5, .lcmp, 1), (prog_19_method_14_code, 6, .ifCond .ge 7, 3), (prog_19_method_14_code, 13, .iconst 0, 1), (prog_19_method_14_code, 14, .istore 8, 2), (prog_19_method_14_code, 16, .iload 8, 2), (prog_19_method_14_code, 18, .ifCond .ne 6, 3), (prog_19_method_14_code, 21, .lload_n 0, 1), (prog_19_method_14_code, 22, .lneg, 1), (prog_19_method_14_code, 23, .lstore_n 0, 1), (prog_19_method_14_code, 24, .lload_n 0, 1), (prog_19_method_14_code, 25, .ldc2_w 129, 3), (prog_19_method_14_code, 28, .lcmp, 1), (prog_19_method_14_code, 29, .ifCond .gt 53, 3), (prog_19_method_14_code, 82, .lload_n 0, 1), (prog_19_method_14_code, 83, .l2i, 1), (prog_19_method_14_code, 84, .istore 10, 2), (prog_19_method_14_code, 86, .iload 10, 2), (prog_19_method_14_code, 88, .bipush (-100), 2), (prog_19_method_14_code, 90, .if_icmp .gt 53, 3), (prog_19_method_14_code, 143, .aload_n 3, 1), (prog_19_method_14_code, 144, .iinc 7 (-1), 3), (prog_19_method_14_code, 147, .iload 7, 2), (prog_19_method_14_code, 149, .getstatic 133, 3), (prog_19_method_14_code, 152, .iload 10, 2), (prog_19_method_14_code, 154, .ineg, 1), (prog_19_method_14_code, 155, .baload, 1), (prog_19_method_14_code, 156, .bastore, 1), (prog_19_method_14_code, 157, .iload 10, 2), (prog_19_method_14_code, 159, .bipush (-9), 2), (prog_19_method_14_code, 161, .if_icmp .ge 17, 3), (prog_19_method_14_code, 178, .iload 8, 2), (prog_19_method_14_code, 180, .ifCond .eq 12, 3), (prog_19_method_14_code, 192, .iload 7, 2), (prog_19_method_14_code, 194, .ireturn, 1), (prog_19_method_14_code, 183, .aload_n 3, 1), (prog_19_method_14_code, 184, .iinc 7 (-1), 3), (prog_19_method_14_code, 187, .iload 7, 2), (prog_19_method_14_code, 189, .bipush 45, 2), (prog_19_method_14_code, 191, .bastore, 1), (prog_19_method_14_code, 164, .aload_n 3, 1), (prog_19_method_14_code, 165, .iinc 7 (-1), 3), (prog_19_method_14_code, 168, .iload 7, 2), (prog_19_method_14_code, 170, .getstatic 137, 3), (prog_19_method_14_code, 173, .iload 10, 2), (prog_19_method_14_code, 175, .ineg, 1)]
theorem db_J6_getChars_ba4f3_55 : dl_J6_getChars_ba4f3_55.all (fun x => decide (decode x.1 x.2.1 = .ok x.2.2)) = true := by decide +kernel
theorem dc_J6_getChars_ba4f3_55 : decode prog_18_method_12_code 55 = .ok (.bastore, 1) := ky_dc db_J6_getChars_ba4f3_55 0 rfl
theorem dc_J6_getChars_ba4f3_56 : decode prog_18_method_12_code 56 = .ok (.aload_n 2, 1) := ky_dc db_J6_getChars_ba4f3_55 1 rfl
theorem dc_J6_getChars_ba4f3_57 : decode prog_18_method_12_code 57 = .ok (.iinc 5 (-1), 3) := ky_dc db_J6_getChars_ba4f3_55 2 rfl
theorem dc_J6_getChars_ba4f3_60 : decode prog_18_method_12_code 60 = .ok (.iload 5, 2) := ky_dc db_J6_getChars_ba4f3_55 3 rfl
theorem dc_J6_getChars_ba4f3_62 : decode prog_18_method_12_code 62 = .ok (.getstatic 87, 3) := ky_dc db_J6_getChars_ba4f3_55 4 rfl
theorem dc_J6_getChars_ba4f3_65 : decode prog_18_method_12_code 65 = .ok (.iload 4, 2) := ky_dc db_J6_getChars_ba4f3_55 5 rfl
theorem dc_J6_getChars_ba4f3_67 : decode prog_18_method_12_code 67 = .ok (.baload, 1) := ky_dc db_J6_getChars_ba4f3_55 6 rfl
theorem dc_J6_getChars_ba4f3_68 : decode prog_18_method_12_code 68 = .ok (.bastore, 1) := ky_dc db_J6_getChars_ba4f3_55 7 rfl
theorem dc_J6_getChars_ba4f3_69 : decode prog_18_method_12_code 69 = .ok (.goto (-47), 3) := ky_dc db_J6_getChars_ba4f3_55 8 rfl
theorem dc_J6_getChars_ba4f3_7 : decode prog_18_method_12_code 7 = .ok (.iconst 1, 1) := ky_dc db_J6_getChars_ba4f3_55 9 rfl
theorem dc_J6_getChars_ba4f3_8 : decode prog_18_method_12_code 8 = .ok (.goto 4, 3) := ky_dc db_J6_getChars_ba4f3_55 10 rfl
theorem dc_J13_getChars_11360_0 : decode prog_19_method_14_code 0 = .ok (.iload_n 2, 1) := ky_dc db_J6_getChars_ba4f3_55 11 rfl
theorem dc_J13_getChars_11360_1 : decode prog_19_method_14_code 1 = .ok (.istore 7, 2) := ky_dc db_J6_getChars_ba4f3_55 12 rfl
theorem dc_J13_getChars_11360_3 : decode prog_19_method_14_code 3 = .ok (.lload_n 0, 1) := ky_dc db_J6_getChars_ba4f3_55 13 rfl
theorem dc_J13_getChars_11360_4 : decode prog_19_method_14_code 4 = .ok (.lconst 0, 1) := ky_dc db_J6_getChars_ba4f3_55 14 rfl
theorem dc_J13_getChars_11360_5 : decode prog_19_method_14_code 5 = .ok (.lcmp, 1) := ky_dc db_J6_getChars_ba4f3_55 15 rfl
theorem dc_J13_getChars_11360_6 : decode prog_19_method_14_code 6 = .ok (.ifCond .ge 7, 3) := ky_dc db_J6_getChars_ba4f3_55 16 rfl
theorem dc_J13_getChars_11360_13 : decode prog_19_method_14_code 13 = .ok (.iconst 0, 1) := ky_dc db_J6_getChars_ba4f3_55 17 rfl
theorem dc_J13_getChars_11360_14 : decode prog_19_method_14_code 14 = .ok (.istore 8, 2) := ky_dc db_J6_getChars_ba4f3_55 18 rfl
theorem dc_J13_getChars_11360_16 : decode prog_19_method_14_code 16 = .ok (.iload 8, 2) := ky_dc db_J6_getChars_ba4f3_55 19 rfl
theorem dc_J13_getChars_11360_18 : decode prog_19_method_14_code 18 = .ok (.ifCond .ne 6, 3) := ky_dc db_J6_getChars_ba4f3_55 20 rfl
theorem dc_J13_getChars_11360_21 : decode prog_19_method_14_code 21 = .ok (.lload_n 0, 1) := ky_dc db_J6_getChars_ba4f3_55 21 rfl
theorem dc_J13_getChars_11360_22 : decode prog_19_method_14_code 22 = .ok (.lneg, 1) := ky_dc db_J6_getChars_ba4f3_55 22 rfl
theorem dc_J13_getChars_11360_23 : decode prog_19_method_14_code 23 = .ok (.lstore_n 0, 1) := ky_dc db_J6_getChars_ba4f3_55 23 rfl
theorem dc_J13_getChars_11360_24 : decode prog_19_method_14_code 24 = .ok (.lload_n 0, 1) := ky_dc db_J6_getChars_ba4f3_55 24 rfl
theorem dc_J13_getChars_11360_25 : decode prog_19_method_14_code 25 = .ok (.ldc2_w 129, 3) := ky_dc db_J6_getChars_ba4f3_55 25 rfl
theorem dc_J13_getChars_11360_28 : decode prog_19_method_14_code 28 = .ok (.lcmp, 1) := ky_dc db_J6_getChars_ba4f3_55 26 rfl
theorem dc_J13_getChars_11360_29 : decode prog_19_method_14_code 29 = .ok (.ifCond .gt 53, 3) := ky_dc db_J6_getChars_ba4f3_55 27 rfl
theorem dc_J13_getChars_11360_82 : decode prog_19_method_14_code 82 = .ok (.lload_n 0, 1) := ky_dc db_J6_getChars_ba4f3_55 28 rfl
theorem dc_J13_getChars_11360_83 : decode prog_19_method_14_code 83 = .ok (.l2i, 1) := ky_dc db_J6_getChars_ba4f3_55 29 rfl
theorem dc_J13_getChars_11360_84 : decode prog_19_method_14_code 84 = .ok (.istore 10, 2) := ky_dc db_J6_getChars_ba4f3_55 30 rfl
theorem dc_J13_getChars_11360_86 : decode prog_19_method_14_code 86 = .ok (.iload 10, 2) := ky_dc db_J6_getChars_ba4f3_55 31 rfl
theorem dc_J13_getChars_11360_88 : decode prog_19_method_14_code 88 = .ok (.bipush (-100), 2) := ky_dc db_J6_getChars_ba4f3_55 32 rfl
theorem dc_J13_getChars_11360_90 : decode prog_19_method_14_code 90 = .ok (.if_icmp .gt 53, 3) := ky_dc db_J6_getChars_ba4f3_55 33 rfl
theorem dc_J13_getChars_11360_143 : decode prog_19_method_14_code 143 = .ok (.aload_n 3, 1) := ky_dc db_J6_getChars_ba4f3_55 34 rfl
theorem dc_J13_getChars_11360_144 : decode prog_19_method_14_code 144 = .ok (.iinc 7 (-1), 3) := ky_dc db_J6_getChars_ba4f3_55 35 rfl
theorem dc_J13_getChars_11360_147 : decode prog_19_method_14_code 147 = .ok (.iload 7, 2) := ky_dc db_J6_getChars_ba4f3_55 36 rfl
theorem dc_J13_getChars_11360_149 : decode prog_19_method_14_code 149 = .ok (.getstatic 133, 3) := ky_dc db_J6_getChars_ba4f3_55 37 rfl
theorem dc_J13_getChars_11360_152 : decode prog_19_method_14_code 152 = .ok (.iload 10, 2) := ky_dc db_J6_getChars_ba4f3_55 38 rfl
theorem dc_J13_getChars_11360_154 : decode prog_19_method_14_code 154 = .ok (.ineg, 1) := ky_dc db_J6_getChars_ba4f3_55 39 rfl
theorem dc_J13_getChars_11360_155 : decode prog_19_method_14_code 155 = .ok (.baload, 1) := ky_dc db_J6_getChars_ba4f3_55 40 rfl
theorem dc_J13_getChars_11360_156 : decode prog_19_method_14_code 156 = .ok (.bastore, 1) := ky_dc db_J6_getChars_ba4f3_55 41 rfl
theorem dc_J13_getChars_11360_157 : decode prog_19_method_14_code 157 = .ok (.iload 10, 2) := ky_dc db_J6_getChars_ba4f3_55 42 rfl
theorem dc_J13_getChars_11360_159 : decode prog_19_method_14_code 159 = .ok (.bipush (-9), 2) := ky_dc db_J6_getChars_ba4f3_55 43 rfl
theorem dc_J13_getChars_11360_161 : decode prog_19_method_14_code 161 = .ok (.if_icmp .ge 17, 3) := ky_dc db_J6_getChars_ba4f3_55 44 rfl
theorem dc_J13_getChars_11360_178 : decode prog_19_method_14_code 178 = .ok (.iload 8, 2) := ky_dc db_J6_getChars_ba4f3_55 45 rfl
theorem dc_J13_getChars_11360_180 : decode prog_19_method_14_code 180 = .ok (.ifCond .eq 12, 3) := ky_dc db_J6_getChars_ba4f3_55 46 rfl
theorem dc_J13_getChars_11360_192 : decode prog_19_method_14_code 192 = .ok (.iload 7, 2) := ky_dc db_J6_getChars_ba4f3_55 47 rfl
theorem dc_J13_getChars_11360_194 : decode prog_19_method_14_code 194 = .ok (.ireturn, 1) := ky_dc db_J6_getChars_ba4f3_55 48 rfl
theorem dc_J13_getChars_11360_183 : decode prog_19_method_14_code 183 = .ok (.aload_n 3, 1) := ky_dc db_J6_getChars_ba4f3_55 49 rfl
theorem dc_J13_getChars_11360_184 : decode prog_19_method_14_code 184 = .ok (.iinc 7 (-1), 3) := ky_dc db_J6_getChars_ba4f3_55 50 rfl
theorem dc_J13_getChars_11360_187 : decode prog_19_method_14_code 187 = .ok (.iload 7, 2) := ky_dc db_J6_getChars_ba4f3_55 51 rfl
theorem dc_J13_getChars_11360_189 : decode prog_19_method_14_code 189 = .ok (.bipush 45, 2) := ky_dc db_J6_getChars_ba4f3_55 52 rfl
theorem dc_J13_getChars_11360_191 : decode prog_19_method_14_code 191 = .ok (.bastore, 1) := ky_dc db_J6_getChars_ba4f3_55 53 rfl
theorem dc_J13_getChars_11360_164 : decode prog_19_method_14_code 164 = .ok (.aload_n 3, 1) := ky_dc db_J6_getChars_ba4f3_55 54 rfl
theorem dc_J13_getChars_11360_165 : decode prog_19_method_14_code 165 = .ok (.iinc 7 (-1), 3) := ky_dc db_J6_getChars_ba4f3_55 55 rfl
theorem dc_J13_getChars_11360_168 : decode prog_19_method_14_code 168 = .ok (.iload 7, 2) := ky_dc db_J6_getChars_ba4f3_55 56 rfl
theorem dc_J13_getChars_11360_170 : decode prog_19_method_14_code 170 = .ok (.getstatic 137, 3) := ky_dc db_J6_getChars_ba4f3_55 57 rfl
theorem dc_J13_getChars_11360_173 : decode prog_19_method_14_code 173 = .ok (.iload 10, 2) := ky_dc db_J6_getChars_ba4f3_55 58 rfl
theorem dc_J13_getChars_11360_175 : decode prog_19_method_14_code 175 = .ok (.ineg, 1) := ky_dc db_J6_getChars_ba4f3_55 59 rfl
def dl_J13_getChars_11360_176 : List (ByteArray × Nat × Jvm.ClassFile.Instr × Nat) := [(prog_19_method_14_code, 176, .baload, 1), (prog_19_method_14_code, 177, .bastore, 1), (prog_19_method_14_code, 93, .iload 10, 2), (prog_19_method_14_code, 95, .bipush 100, 2), (prog_19_method_14_code, 97, .idiv, 1), (prog_19_method_14_code, 98, .istore 9, 2), (prog_19_method_14_code, 100, .iload 9, 2), (prog_19_method_14_code, 102, .bipush 100, 2), (prog_19_method_14_code, 104, .imul, 1), (prog_19_method_14_code, 105, .iload 10, 2), (prog_19_method_14_code, 107, .isub, 1), (prog_19_method_14_code, 108, .istore 6, 2), (prog_19_method_14_code, 110, .iload 9, 2), (prog_19_method_14_code, 112, .istore 10, 2), (prog_19_method_14_code, 114, .aload_n 3, 1), (prog_19_method_14_code, 115, .iinc 7 (-1), 3), (prog_19_method_14_code, 118, .iload 7, 2), (prog_19_method_14_code, 120, .getstatic 133, 3), (prog_19_method_14_code, 123, .iload 6, 2), (prog_19_method_14_code, 125, .baload, 1), (prog_19_method_14_code, 126, .bastore, 1), (prog_19_method_14_code, 127, .aload_n 3, 1), (prog_19_method_14_code, 128, .iinc 7 (-1), 3), (prog_19_method_14_code, 131, .iload 7, 2), (prog_19_method_14_code, 133, .getstatic 137, 3), (prog_19_method_14_code, 136, .iload 6, 2), (prog_19_method_14_code, 138, .baload, 1), (prog_19_method_14_code, 139, .bastore, 1), (prog_19_method_14_code, 140, .goto (-54), 3), (prog_19_method_14_code, 32, .lload_n 0, 1), (prog_19_method_14_code, 33, .ldc2_w 131, 3), (prog_19_method_14_code, 36, .ldiv, 1), (prog_19_method_14_code, 37, .lstore 4, 2), (prog_19_method_14_code, 39, .lload 4, 2), (prog_19_method_14_code, 41, .ldc2_w 131, 3), (prog_19_method_14_code, 44, .lmul, 1), (prog_19_method_14_code, 45, .lload_n 0, 1), (prog_19_method_14_code, 46, .lsub, 1), (prog_19_method_14_code, 47, .l2i, 1), (prog_19_method_14_code, 48, .istore 6, 2), (prog_19_method_14_code, 50, .lload 4, 2), (prog_19_method_14_code, 52, .lstore_n 0, 1), (prog_19_method_14_code, 53, .aload_n 3, 1), (prog_19_method_14_code, 54, .iinc 7 (-1), 3), (prog_19_method_14_code, 57, .iload 7, 2), (prog_19_method_14_code, 59, .getstatic 133, 3), (prog_19_method_14_code, 62, .iload 6, 2), (prog_19_method_14_code, 64, .baload, 1), (prog_19_method_14_code, 65, .bastore, 1), (prog_19_method_14_code, 66, .aload_n 3, 1), (prog_19_method_14_code, 67, .iinc 7 (-1), 3), (prog_19_method_14_code, 70, .iload 7, 2), (prog_19_method_14_code, 72, .getstatic 137, 3), (prog_19_method_14_code, 75, .iload 6, 2), (prog_19_method_14_code, 77, .baload, 1), (prog_19_method_14_code, 78, .bastore, 1), (prog_19_method_14_code, 79, .goto (-55), 3), (prog_19_method_14_code, 9, .iconst 1, 1), (prog_19_method_14_code, 10, .goto 4, 3), (prog_12_method_32_code, 0, .aload_n 0, 1)]
theorem db_J13_getChars_11360_176 : dl_J13_getChars_11360_176.all (fun x => decide (decode x.1 x.2.1 = .ok x.2.2)) = true := by decide +kernel
theorem dc_J13_getChars_11360_176 : decode prog_19_method_14_code 176 = .ok (.baload, 1) := ky_dc db_J13_getChars_11360_176 0 rfl
theorem dc_J13_getChars_11360_177 : decode prog_19_method_14_code 177 = .ok (.bastore, 1) := ky_dc db_J13_getChars_11360_176 1 rfl
theorem dc_J13_getChars_11360_93 : decode prog_19_method_14_code 93 = .ok (.iload 10, 2) := ky_dc db_J13_getChars_11360_176 2 rfl
theorem dc_J13_getChars_11360_95 : decode prog_19_method_14_code 95 = .ok (.bipush 100, 2) := ky_dc db_J13_getChars_11360_176 3 rfl
theorem dc_J13_getChars_11360_97 : decode prog_19_method_14_code 97 = .ok (.idiv, 1) := ky_dc db_J13_getChars_11360_176 4 rfl
theorem dc_J13_getChars_11360_98 : decode prog_19_method_14_code 98 = .ok (.istore 9, 2) := ky_dc db_J13_getChars_11360_176 5 rfl
theorem dc_J13_getChars_11360_100 : decode prog_19_method_14_code 100 = .ok (.iload 9, 2) := ky_dc db_J13_getChars_11360_176 6 rfl
theorem dc_J13_getChars_11360_102 : decode prog_19_method_14_code 102 = .ok (.bipush 100, 2) := ky_dc db_J13_getChars_11360_176 7 rfl
theorem dc_J13_getChars_11360_104 : decode prog_19_method_14_code 104 = .ok (.imul, 1) := ky_dc db_J13_getChars_11360_176 8 rfl
theorem dc_J13_getChars_11360_105 : decode prog_19_method_14_code 105 = .ok (.iload 10, 2) := ky_dc db_J13_getChars_11360_176 9 rfl
theorem dc_J13_getChars_11360_107 : decode prog_19_method_14_code 107 = .ok (.isub, 1) := ky_dc db_J13_getChars_11360_176 10 rfl
theorem dc_J13_getChars_11360_108 : decode prog_19_method_14_code 108 = .ok (.istore 6, 2) := ky_dc db_J13_getChars_11360_176 11 rfl
theorem dc_J13_getChars_11360_110 : decode prog_19_method_14_code 110 = .ok (.iload 9, 2) := ky_dc db_J13_getChars_11360_176 12 rfl
theorem dc_J13_getChars_11360_112 : decode prog_19_method_14_code 112 = .ok (.istore 10, 2) := ky_dc db_J13_getChars_11360_176 13 rfl
theorem dc_J13_getChars_11360_114 : decode prog_19_method_14_code 114 = .ok (.aload_n 3, 1) := ky_dc db_J13_getChars_11360_176 14 rfl
theorem dc_J13_getChars_11360_115 : decode prog_19_method_14_code 115 = .ok (.iinc 7 (-1), 3) := ky_dc db_J13_getChars_11360_176 15 rfl
theorem dc_J13_getChars_11360_118 : decode prog_19_method_14_code 118 = .ok (.iload 7, 2) := ky_dc db_J13_getChars_11360_176 16 rfl
theorem dc_J13_getChars_11360_120 : decode prog_19_method_14_code 120 = .ok (.getstatic 133, 3) := ky_dc db_J13_getChars_11360_176 17 rfl
theorem dc_J13_getChars_11360_123 : decode prog_19_method_14_code 123 = .ok (.iload 6, 2) := ky_dc db_J13_getChars_11360_176 18 rfl
theorem dc_J13_getChars_11360_125 : decode prog_19_method_14_code 125 = .ok (.baload, 1) := ky_dc db_J13_getChars_11360_176 19 rfl
theorem dc_J13_getChars_11360_126 : decode prog_19_method_14_code 126 = .ok (.bastore, 1) := ky_dc db_J13_getChars_11360_176 20 rfl
theorem dc_J13_getChars_11360_127 : decode prog_19_method_14_code 127 = .ok (.aload_n 3, 1) := ky_dc db_J13_getChars_11360_176 21 rfl
theorem dc_J13_getChars_11360_128 : decode prog_19_method_14_code 128 = .ok (.iinc 7 (-1), 3) := ky_dc db_J13_getChars_11360_176 22 rfl
theorem dc_J13_getChars_11360_131 : decode prog_19_method_14_code 131 = .ok (.iload 7, 2) := ky_dc db_J13_getChars_11360_176 23 rfl
theorem dc_J13_getChars_11360_133 : decode prog_19_method_14_code 133 = .ok (.getstatic 137, 3) := ky_dc db_J13_getChars_11360_176 24 rfl
theorem dc_J13_getChars_11360_136 : decode prog_19_method_14_code 136 = .ok (.iload 6, 2) := ky_dc db_J13_getChars_11360_176 25 rfl
theorem dc_J13_getChars_11360_138 : decode prog_19_method_14_code 138 = .ok (.baload, 1) := ky_dc db_J13_getChars_11360_176 26 rfl
theorem dc_J13_getChars_11360_139 : decode prog_19_method_14_code 139 = .ok (.bastore, 1) := ky_dc db_J13_getChars_11360_176 27 rfl
theorem dc_J13_getChars_11360_140 : decode prog_19_method_14_code 140 = .ok (.goto (-54), 3) := ky_dc db_J13_getChars_11360_176 28 rfl
theorem dc_J13_getChars_11360_32 : decode prog_19_method_14_code 32 = .ok (.lload_n 0, 1) := ky_dc db_J13_getChars_11360_176 29 rfl
theorem dc_J13_getChars_11360_33 : decode prog_19_method_14_code 33 = .ok (.ldc2_w 131, 3) := ky_dc db_J13_getChars_11360_176 30 rfl
theorem dc_J13_getChars_11360_36 : decode prog_19_method_14_code 36 = .ok (.ldiv, 1) := ky_dc db_J13_getChars_11360_176 31 rfl
theorem dc_J13_getChars_11360_37 : decode prog_19_method_14_code 37 = .ok (.lstore 4, 2) := ky_dc db_J13_getChars_11360_176 32 rfl
theorem dc_J13_getChars_11360_39 : decode prog_19_method_14_code 39 = .ok (.lload 4, 2) := ky_dc db_J13_getChars_11360_176 33 rfl
theorem dc_J13_getChars_11360_41 : decode prog_19_method_14_code 41 = .ok (.ldc2_w 131, 3) := ky_dc db_J13_getChars_11360_176 34 rfl
theorem dc_J13_getChars_11360_44 : decode prog_19_method_14_code 44 = .ok (.lmul, 1) := ky_dc db_J13_getChars_11360_176 35 rfl
theorem dc_J13_getChars_11360_45 : decode prog_19_method_14_code 45 = .ok (.lload_n 0, 1) := ky_dc db_J13_getChars_11360_176 36 rfl
theorem dc_J13_getChars_11360_46 : decode prog_19_method_14_code 46 = .ok (.lsub, 1) := ky_dc db_J13_getChars_11360_176 37 rfl
theorem dc_J13_getChars_11360_47 : decode prog_19_method_14_code 47 = .ok (.l2i, 1) := ky_dc db_J13_getChars_11360_176 38 rfl
theorem dc_J13_getChars_11360_48 : decode prog_19_method_14_code 48 = .ok (.istore 6, 2) := ky_dc db_J13_getChars_11360_176 39 rfl
theorem dc_J13_getChars_11360_50 : decode prog_19_method_14_code 50 = .ok (.lload 4, 2) := ky_dc db_J13_getChars_11360_176 40 rfl
theorem dc_J13_getChars_11360_52 : decode prog_19_method_14_code 52 = .ok (.lstore_n 0, 1) := ky_dc db_J13_getChars_11360_176 41 rfl
theorem dc_J13_getChars_11360_53 : decode prog_19_method_14_code 53 = .ok (.aload_n 3, 1) := ky_dc db_J13_getChars_11360_176 42 rfl
theorem dc_J13_getChars_11360_54 : decode prog_19_method_14_code 54 = .ok (.iinc 7 (-1), 3) := ky_dc db_J13_getChars_11360_176 43 rfl
theorem dc_J13_getChars_11360_57 : decode prog_19_method_14_code 57 = .ok (.iload 7, 2) := ky_dc db_J13_getChars_11360_176 44 rfl
theorem dc_J13_getChars_11360_59 : decode prog_19_method_14_code 59 = .ok (.getstatic 133, 3) := ky_dc db_J13_getChars_11360_176 45 rfl
theorem dc_J13_getChars_11360_62 : decode prog_19_method_14_code 62 = .ok (.iload 6, 2) := ky_dc db_J13_getChars_11360_176 46 rfl
theorem dc_J13_getChars_11360_64 : decode prog_19_method_14_code 64 = .ok (.baload, 1) := ky_dc db_J13_getChars_11360_176 47 rfl
theorem dc_J13_getChars_11360_65 : decode prog_19_method_14_code 65 = .ok (.bastore, 1) := ky_dc db_J13_getChars_11360_176 48 rfl
theorem dc_J13_getChars_11360_66 : decode prog_19_method_14_code 66 = .ok (.aload_n 3, 1) := ky_dc db_J13_getChars_11360_176 49 rfl
theorem dc_J13_getChars_11360_67 : decode prog_19_method_14_code 67 = .ok (.iinc 7 (-1), 3) := ky_dc db_J13_getChars_11360_176 50 rfl
theorem dc_J13_getChars_11360_70 : decode prog_19_method_14_code 70 = .ok (.iload 7, 2) := ky_dc db_J13_getChars_11360_176 51 rfl
theorem dc_J13_getChars_11360_72 : decode prog_19_method_14_code 72 = .ok (.getstatic 137, 3) := ky_dc db_J13_getChars_11360_176 52 rfl
theorem dc_J13_getChars_11360_75 : decode prog_19_method_14_code 75 = .ok (.iload 6, 2) := ky_dc db_J13_getChars_11360_176 53 rfl
theorem dc_J13_getChars_11360_77 : decode prog_19_method_14_code 77 = .ok (.baload, 1) := ky_dc db_J13_getChars_11360_176 54 rfl
theorem dc_J13_getChars_11360_78 : decode prog_19_method_14_code 78 = .ok (.bastore, 1) := ky_dc db_J13_getChars_11360_176 55 rfl
theorem dc_J13_getChars_11360_79 : decode prog_19_method_14_code 79 = .ok (.goto (-55), 3) := ky_dc db_J13_getChars_11360_176 56 rfl
theorem dc_J13_getChars_11360_9 : decode prog_19_method_14_code 9 = .ok (.iconst 1, 1) := ky_dc db_J13_getChars_11360_176 57 rfl
theorem dc_J13_getChars_11360_10 : decode prog_19_method_14_code 10 = .ok (.goto 4, 3) := ky_dc db_J13_getChars_11360_176 58 rfl
theorem dc_J5_append_c97b9_0 : decode prog_12_method_32_code 0 = .ok (.aload_n 0, 1) := ky_dc db_J13_getChars_11360_176 59 rfl
def dl_J5_append_c97b9_1 : List (ByteArray × Nat × Jvm.ClassFile.Instr × Nat) := [(prog_12_method_32_code, 1, .getfield 79, 3), (prog_12_method_32_code, 4, .istore_n 2, 1), (prog_12_method_32_code, 5, .iload_n 2, 1), (prog_12_method_32_code, 6, .iload_n 1, 1), (prog_12_method_32_code, 7, .invokestatic 245, 3), (prog_12_method_32_code, 10, .iadd, 1), (prog_12_method_32_code, 11, .istore_n 3, 1), (prog_12_method_32_code, 12, .aload_n 0, 1), (prog_12_method_32_code, 13, .iload_n 3, 1), (prog_12_method_32_code, 14, .invokevirtual 100, 3), (prog_12_method_32_code, 17, .aload_n 0, 1), (prog_12_method_32_code, 18, .invokevirtual 83, 3), (prog_12_method_32_code, 21, .ifCond .eq 16, 3), (prog_12_method_32_code, 24, .iload_n 1, 1), (prog_12_method_32_code, 25, .iload_n 3, 1), (prog_12_method_32_code, 26, .aload_n 0, 1), (prog_12_method_32_code, 27, .getfield 15, 3), (prog_12_method_32_code, 30, .invokestatic 248, 3), (prog_12_method_32_code, 33, .pop, 1), (prog_12_method_32_code, 34, .goto 14, 3), (prog_12_method_32_code, 48, .aload_n 0, 1), (prog_12_method_32_code, 49, .iload_n 3, 1), (prog_12_method_32_code, 50, .putfield 79, 3), (prog_12_method_32_code, 53, .aload_n 0, 1), (prog_12_method_32_code, 54, .areturn, 1), (prog_23_method_15_code, 0, .aload_n 0, 1), (prog_23_method_15_code, 1, .iload_n 1, 1), (prog_23_method_15_code, 2, .invokespecial 53, 3), (prog_23_method_15_code, 5, .pop, 1), (prog_23_method_15_code, 6, .aload_n 0, 1), (prog_23_method_15_code, 7, .areturn, 1), (prog_12_method_33_code, 0, .aload_n 0, 1), (prog_12_method_33_code, 1, .getfield 79, 3), (prog_12_method_33_code, 4, .istore_n 3, 1), (prog_12_method_33_code, 5, .iload_n 3, 1), (prog_12_method_33_code, 6, .lload_n 1, 1), (prog_12_method_33_code, 7, .invokestatic 254, 3), (prog_12_method_33_code, 10, .iadd, 1), (prog_12_method_33_code, 11, .istore 4, 2), (prog_12_method_33_code, 13, .aload_n 0, 1), (prog_12_method_33_code, 14, .iload 4, 2), (prog_12_method_33_code, 16, .invokevirtual 100, 3), (prog_12_method_33_code, 19, .aload_n 0, 1), (prog_12_method_33_code, 20, .invokevirtual 83, 3), (prog_12_method_33_code, 23, .ifCond .eq 17, 3), (prog_12_method_33_code, 26, .lload_n 1, 1), (prog_12_method_33_code, 27, .iload 4, 2), (prog_12_method_33_code, 29, .aload_n 0, 1), (prog_12_method_33_code, 30, .getfield 15, 3), (prog_12_method_33_code, 33, .invokestatic 259, 3), (prog_12_method_33_code, 36, .pop, 1), (prog_12_method_33_code, 37, .goto 15, 3), (prog_12_method_33_code, 52, .aload_n 0, 1), (prog_12_method_33_code, 53, .iload 4, 2), (prog_12_method_33_code, 55, .putfield 79, 3), (prog_12_method_33_code, 58, .aload_n 0, 1), (prog_12_method_33_code, 59, .areturn, 1), (prog_23_method_16_code, 0, .aload_n 0, 1), (prog_23_method_16_code, 1, .lload_n 1, 1), (prog_23_method_16_code, 2, .invokespecial 56, 3)]
theorem db_J5_append_c97b9_1 : dl_J5_append_c97b9_1.all (fun x => decide (decode x.1 x.2.1 = .ok x.2.2)) = true := by decide +kernel
theorem dc_J5_append_c97b9_1 : decode prog_12_method_32_code 1 = .ok (.getfield 79, 3) := ky_dc db_J5_append_c97b9_1 0 rfl
theorem dc_J5_append_c97b9_4 : decode prog_12_method_32_code 4 = .ok (.istore_n 2, 1) := ky_dc db_J5_append_c97b9_1 1 rfl
theorem dc_J5_append_c97b9_5 : decode prog_12_method_32_code 5 = .ok (.iload_n 2, 1) := ky_dc db_J5_append_c97b9_1 2 rfl
theorem dc_J5_append_c97b9_6 : decode prog_12_method_32_code 6 = .ok (.iload_n 1, 1) := ky_dc db_J5_append_c97b9_1 3 rfl
theorem dc_J5_append_c97b9_7 : decode prog_12_method_32_code 7 = .ok (.invokestatic 245, 3) := ky_dc db_J5_append_c97b9_1 4 rfl
theorem dc_J5_append_c97b9_10 : decode prog_12_method_32_code 10 = .ok (.iadd, 1) := ky_dc db_J5_append_c97b9_1 5 rfl
theorem dc_J5_append_c97b9_11 : decode prog_12_method_32_code 11 = .ok (.istore_n 3, 1) := ky_dc db_J5_append_c97b9_1 6 rfl
theorem dc_J5_append_c97b9_12 : decode prog_12_method_32_code 12 = .ok (.aload_n 0, 1) := ky_dc db_J5_append_c97b9_1 7 rfl
theorem dc_J5_append_c97b9_13 : decode prog_12_method_32_code 13 = .ok (.iload_n 3, 1) := ky_dc db_J5_append_c97b9_1 8 rfl
theorem dc_J5_append_c97b9_14 : decode prog_12_method_32_code 14 = .ok (.invokevirtual 100, 3) := ky_dc db_J5_append_c97b9_1 9 rfl
theorem dc_J5_append_c97b9_17 : decode prog_12_method_32_code 17 = .ok (.aload_n 0, 1) := ky_dc db_J5_append_c97b9_1 10 rfl
theorem dc_J5_append_c97b9_18 : decode prog_12_method_32_code 18 = .ok (.invokevirtual 83, 3) := ky_dc db_J5_append_c97b9_1 11 rfl
theorem dc_J5_append_c97b9_21 : decode prog_12_method_32_code 21 = .ok (.ifCond .eq 16, 3) := ky_dc db_J5_append_c97b9_1 12 rfl
theorem dc_J5_append_c97b9_24 : decode prog_12_method_32_code 24 = .ok (.iload_n 1, 1) := ky_dc db_J5_append_c97b9_1 13 rfl
theorem dc_J5_append_c97b9_25 : decode prog_12_method_32_code 25 = .ok (.iload_n 3, 1) := ky_dc db_J5_append_c97b9_1 14 rfl
theorem dc_J5_append_c97b9_26 : decode prog_12_method_32_code 26 = .ok (.aload_n 0, 1) := ky_dc db_J5_append_c97b9_1 15 rfl
theorem dc_J5_append_c97b9_27 : decode prog_12_method_32_code 27 = .ok (.getfield 15, 3) := ky_dc db_J5_append_c97b9_1 16 rfl
theorem dc_J5_append_c97b9_30 : decode prog_12_method_32_code 30 = .ok (.invokestatic 248, 3) := ky_dc db_J5_append_c97b9_1 17 rfl
theorem dc_J5_append_c97b9_33 : decode prog_12_method_32_code 33 = .ok (.pop, 1) := ky_dc db_J5_append_c97b9_1 18 rfl
theorem dc_J5_append_c97b9_34 : decode prog_12_method_32_code 34 = .ok (.goto 14, 3) := ky_dc db_J5_append_c97b9_1 19 rfl
theorem dc_J5_append_c97b9_48 : decode prog_12_method_32_code 48 = .ok (.aload_n 0, 1) := ky_dc db_J5_append_c97b9_1 20 rfl
theorem dc_J5_append_c97b9_49 : decode prog_12_method_32_code 49 = .ok (.iload_n 3, 1) := ky_dc db_J5_append_c97b9_1 21 rfl
theorem dc_J5_append_c97b9_50 : decode prog_12_method_32_code 50 = .ok (.putfield 79, 3) := ky_dc db_J5_append_c97b9_1 22 rfl
theorem dc_J5_append_c97b9_53 : decode prog_12_method_32_code 53 = .ok (.aload_n 0, 1) := ky_dc db_J5_append_c97b9_1 23 rfl
theorem dc_J5_append_c97b9_54 : decode prog_12_method_32_code 54 = .ok (.areturn, 1) := ky_dc db_J5_append_c97b9_1 24 rfl
theorem dc_J4_append_bf812_0 : decode prog_23_method_15_code 0 = .ok (.aload_n 0, 1) := ky_dc db_J5_append_c97b9_1 25 rfl
theorem dc_J4_append_bf812_1 : decode prog_23_method_15_code 1 = .ok (.iload_n 1, 1) := ky_dc db_J5_append_c97b9_1 26 rfl
theorem dc_J4_append_bf812_2 : decode prog_23_method_15_code 2 = .ok (.invokespecial 53, 3) := ky_dc db_J5_append_c97b9_1 27 rfl
theorem dc_J4_append_bf812_5 : decode prog_23_method_15_code 5 = .ok (.pop, 1) := ky_dc db_J5_append_c97b9_1 28 rfl
theorem dc_J4_append_bf812_6 : decode prog_23_method_15_code 6 = .ok (.aload_n 0, 1) := ky_dc db_J5_append_c97b9_1 29 rfl
theorem dc_J4_append_bf812_7 : decode prog_23_method_15_code 7 = .ok (.areturn, 1) := ky_dc db_J5_append_c97b9_1 30 rfl
theorem dc_J5_append_66267_0 : decode prog_12_method_33_code 0 = .ok (.aload_n 0, 1) := ky_dc db_J5_append_c97b9_1 31 rfl
theorem dc_J5_append_66267_1 : decode prog_12_method_33_code 1 = .ok (.getfield 79, 3) := ky_dc db_J5_append_c97b9_1 32 rfl
theorem dc_J5_append_66267_4 : decode prog_12_method_33_code 4 = .ok (.istore_n 3, 1) := ky_dc db_J5_append_c97b9_1 33 rfl
theorem dc_J5_append_66267_5 : decode prog_12_method_33_code 5 = .ok (.iload_n 3, 1) := ky_dc db_J5_append_c97b9_1 34 rfl
theorem dc_J5_append_66267_6 : decode prog_12_method_33_code 6 = .ok (.lload_n 1, 1) := ky_dc db_J5_append_c97b9_1 35 rfl
theorem dc_J5_append_66267_7 : decode prog_12_method_33_code 7 = .ok (.invokestatic 254, 3) := ky_dc db_J5_append_c97b9_1 36 rfl
theorem dc_J5_append_66267_10 : decode prog_12_method_33_code 10 = .ok (.iadd, 1) := ky_dc db_J5_append_c97b9_1 37 rfl
theorem dc_J5_append_66267_11 : decode prog_12_method_33_code 11 = .ok (.istore 4, 2) := ky_dc db_J5_append_c97b9_1 38 rfl
theorem dc_J5_append_66267_13 : decode prog_12_method_33_code 13 = .ok (.aload_n 0, 1) := ky_dc db_J5_append_c97b9_1 39 rfl
theorem dc_J5_append_66267_14 : decode prog_12_method_33_code 14 = .ok (.iload 4, 2) := ky_dc db_J5_append_c97b9_1 40 rfl
theorem dc_J5_append_66267_16 : decode prog_12_method_33_code 16 = .ok (.invokevirtual 100, 3) := ky_dc db_J5_append_c97b9_1 41 rfl
theorem dc_J5_append_66267_19 : decode prog_12_method_33_code 19 = .ok (.aload_n 0, 1) := ky_dc db_J5_append_c97b9_1 42 rfl
theorem dc_J5_append_66267_20 : decode prog_12_method_33_code 20 = .ok (.invokevirtual 83, 3) := ky_dc db_J5_append_c97b9_1 43 rfl
theorem dc_J5_append_66267_23 : decode prog_12_method_33_code 23 = .ok (.ifCond .eq 17, 3) := ky_dc db_J5_append_c97b9_1 44 rfl
theorem dc_J5_append_66267_26 : decode prog_12_method_33_code 26 = .ok (.lload_n 1, 1) := ky_dc db_J5_append_c97b9_1 45 rfl
theorem dc_J5_append_66267_27 : decode prog_12_method_33_code 27 = .ok (.iload 4, 2) := ky_dc db_J5_append_c97b9_1 46 rfl
theorem dc_J5_append_66267_29 : decode prog_12_method_33_code 29 = .ok (.aload_n 0, 1) := ky_dc db_J5_append_c97b9_1 47 rfl
theorem dc_J5_append_66267_30 : decode prog_12_method_33_code 30 = .ok (.getfield 15, 3) := ky_dc db_J5_append_c97b9_1 48 rfl
theorem dc_J5_append_66267_33 : decode prog_12_method_33_code 33 = .ok (.invokestatic 259, 3) := ky_dc db_J5_append_c97b9_1 49 rfl
theorem dc_J5_append_66267_36 : decode prog_12_method_33_code 36 = .ok (.pop, 1) := ky_dc db_J5_append_c97b9_1 50 rfl
theorem dc_J5_append_66267_37 : decode prog_12_method_33_code 37 = .ok (.goto 15, 3) := ky_dc db_J5_append_c97b9_1 51 rfl
theorem dc_J5_append_66267_52 : decode prog_12_method_33_code 52 = .ok (.aload_n 0, 1) := ky_dc db_J5_append_c97b9_1 52 rfl
theorem dc_J5_append_66267_53 : decode prog_12_method_33_code 53 = .ok (.iload 4, 2) := ky_dc db_J5_append_c97b9_1 53 rfl
theorem dc_J5_append_66267_55 : decode prog_12_method_33_code 55 = .ok (.putfield 79, 3) := ky_dc db_J5_append_c97b9_1 54 rfl
theorem dc_J5_append_66267_58 : decode prog_12_method_33_code 58 = .ok (.aload_n 0, 1) := ky_dc db_J5_append_c97b9_1 55 rfl
theorem dc_J5_append_66267_59 : decode prog_12_method_33_code 59 = .ok (.areturn, 1) := ky_dc db_J5_append_c97b9_1 56 rfl
theorem dc_J4_append_f7089_0 : decode prog_23_method_16_code 0 = .ok (.aload_n 0, 1) := ky_dc db_J5_append_c97b9_1 57 rfl
theorem dc_J4_append_f7089_1 : decode prog_23_method_16_code 1 = .ok (.lload_n 1, 1) := ky_dc db_J5_append_c97b9_1 58 rfl
theorem dc_J4_append_f7089_2 : decode prog_23_method_16_code 2 = .ok (.invokespecial 56, 3) := ky_dc db_J5_append_c97b9_1 59 rfl
theorem dc_J4_append_f7089_5 : decode prog_23_method_16_code 5 = .ok (.pop, 1) := by decide +kernel
theorem dc_J4_append_f7089_6 : decode prog_23_method_16_code 6 = .ok (.aload_n 0, 1) := by decide +kernel
theorem dc_J4_append_f7089_7 : decode prog_23_method_16_code 7 = .ok (.areturn, 1) := by decide +kernel
