abbrev my_X8_text : MethodName := ⟨"ExactdoublesModel$Its", "text", "()Ljava/lang/String;"⟩
abbrev my_X9_whole : MethodName := ⟨"ExactdoublesModel", "whole", "(IZ)Ljava/lang/String;"⟩
abbrev my_X9_add_ : MethodName := ⟨"ExactdoublesModel", "add", "(JLjava/lang/String;)J"⟩
abbrev my_X9_text : MethodName := ⟨"ExactdoublesModel", "text", "(I)Ljava/lang/String;"⟩
abbrev my_X9_rounded : MethodName := ⟨"ExactdoublesModel", "rounded", "(I)Ljava/lang/String;"⟩
abbrev my_X9_cut : MethodName := ⟨"ExactdoublesModel", "cut", "(I)Ljava/lang/String;"⟩
abbrev my_X9_takenText : MethodName := ⟨"ExactdoublesModel", "takenText", "(II)Ljava/lang/String;"⟩
abbrev my_X9_floorOf : MethodName := ⟨"ExactdoublesModel", "floorOf", "(I)Ljava/lang/String;"⟩
abbrev my_X9_ceilOf : MethodName := ⟨"ExactdoublesModel", "ceilOf", "(I)Ljava/lang/String;"⟩
abbrev my_X9_rintOf : MethodName := ⟨"ExactdoublesModel", "rintOf", "(I)Ljava/lang/String;"⟩
abbrev my_X9_stepOf : MethodName := ⟨"ExactdoublesModel", "stepOf", "(I)Ljava/lang/String;"⟩
abbrev my_X9_nextOf : MethodName := ⟨"ExactdoublesModel", "nextOf", "(IZ)Ljava/lang/String;"⟩
abbrev my_X9_timesOf : MethodName := ⟨"ExactdoublesModel", "timesOf", "(II)Ljava/lang/String;"⟩
abbrev my_X9_end : MethodName := ⟨"ExactdoublesModel", "end", "(Z)Ljava/lang/String;"⟩
abbrev my_X9_greatest : MethodName := ⟨"ExactdoublesModel", "greatest", "()Ljava/lang/String;"⟩
abbrev my_X9_least : MethodName := ⟨"ExactdoublesModel", "least", "()Ljava/lang/String;"⟩
theorem kw_7_55 : (Jvm.Cond.classLink "ExactdoublesModel$Its" (59 : Nat) "java/lang/StringBuilder") ∈ ky_B := ky_mem (kc_7 _ (List.mem_of_getElem? (i := 55) rfl)) (by decide +kernel)
theorem kw_7_56 : (Jvm.Cond.methodLink "ExactdoublesModel$Its" (61 : Nat) ({ cls := "java/lang/StringBuilder", name := "<init>", desc := "()V" } : Jvm.MethodName)) ∈ ky_B := ky_mem (kc_7 _ (List.mem_of_getElem? (i := 56) rfl)) (by decide +kernel)
theorem kw_7_57 : (Jvm.Cond.methodLink "ExactdoublesModel$Its" (62 : Nat) ({ cls := "java/lang/StringBuilder", name := "append", desc := "(Ljava/lang/String;)Ljava/lang/StringBuilder;" } : Jvm.MethodName)) ∈ ky_B := ky_mem (kc_7 _ (List.mem_of_getElem? (i := 57) rfl)) (by decide +kernel)
theorem kw_7_60 : (Jvm.Cond.methodLink "ExactdoublesModel$Its" (70 : Nat) ({ cls := "java/lang/StringBuilder", name := "toString", desc := "()Ljava/lang/String;" } : Jvm.MethodName)) ∈ ky_B := ky_mem (kc_7 _ (List.mem_of_getElem? (i := 60) rfl)) (by decide +kernel)
theorem kw_7_61 : (Jvm.Cond.methodLink "ExactdoublesModel$Its" (76 : Nat) ({ cls := "java/lang/StringBuilder", name := "append", desc := "(J)Ljava/lang/StringBuilder;" } : Jvm.MethodName)) ∈ ky_B := ky_mem (kc_7 _ (List.mem_of_getElem? (i := 61) rfl)) (by decide +kernel)
theorem kw_7_62 : (Jvm.Cond.instanceMethod ({ cls := "java/lang/StringBuilder", name := "append", desc := "(J)Ljava/lang/StringBuilder;" } : Jvm.MethodName)) ∈ ky_B := ky_mem (kc_7 _ (List.mem_of_getElem? (i := 62) rfl)) (by decide +kernel)
theorem kw_7_63 : (Jvm.Cond.selects "java/lang/StringBuilder" ({ cls := "java/lang/StringBuilder", name := "append", desc := "(J)Ljava/lang/StringBuilder;" } : Jvm.MethodName) ({ cls := "java/lang/StringBuilder", name := "append", desc := "(J)Ljava/lang/StringBuilder;" } : Jvm.MethodName)) ∈ ky_B := ky_mem (kc_7 _ (List.mem_of_getElem? (i := 63) rfl)) (by decide +kernel)
theorem kw_7_64 : (Jvm.Cond.code ({ cls := "java/lang/StringBuilder", name := "append", desc := "(J)Ljava/lang/StringBuilder;" } : Jvm.MethodName) prog_23_method_16_code (3 : Nat) (Option.some (Jvm.ClassFile.FieldType.object "java/lang/StringBuilder"))) ∈ ky_B := ky_mem (kc_7 _ (List.mem_of_getElem? (i := 64) rfl)) (by decide +kernel)
theorem kw_7_89 : (Jvm.Cond.methodLink "ExactdoublesModel$Its" (81 : Nat) ({ cls := "java/lang/StringBuilder", name := "append", desc := "(I)Ljava/lang/StringBuilder;" } : Jvm.MethodName)) ∈ ky_B := ky_mem (kc_7 _ (List.mem_of_getElem? (i := 89) rfl)) (by decide +kernel)
theorem kw_7_116 : (Jvm.Cond.classLink "ExactdoublesModel" (185 : Nat) "java/lang/StringBuilder") ∈ ky_B := ky_mem (kc_7 _ (List.mem_of_getElem? (i := 116) rfl)) (by decide +kernel)
theorem kw_7_117 : (Jvm.Cond.methodLink "ExactdoublesModel" (187 : Nat) ({ cls := "java/lang/StringBuilder", name := "<init>", desc := "()V" } : Jvm.MethodName)) ∈ ky_B := ky_mem (kc_7 _ (List.mem_of_getElem? (i := 117) rfl)) (by decide +kernel)
theorem kw_7_118 : (Jvm.Cond.methodLink "ExactdoublesModel" (188 : Nat) ({ cls := "java/lang/StringBuilder", name := "append", desc := "(Ljava/lang/String;)Ljava/lang/StringBuilder;" } : Jvm.MethodName)) ∈ ky_B := ky_mem (kc_7 _ (List.mem_of_getElem? (i := 118) rfl)) (by decide +kernel)
theorem kw_7_119 : (Jvm.Cond.methodLink "ExactdoublesModel" (192 : Nat) ({ cls := "java/lang/StringBuilder", name := "append", desc := "(J)Ljava/lang/StringBuilder;" } : Jvm.MethodName)) ∈ ky_B := ky_mem (kc_7 _ (List.mem_of_getElem? (i := 119) rfl)) (by decide +kernel)
theorem kw_7_120 : (Jvm.Cond.methodLink "ExactdoublesModel" (195 : Nat) ({ cls := "java/lang/StringBuilder", name := "toString", desc := "()Ljava/lang/String;" } : Jvm.MethodName)) ∈ ky_B := ky_mem (kc_7 _ (List.mem_of_getElem? (i := 120) rfl)) (by decide +kernel)
theorem kw_8_38 : (Jvm.Cond.methodLink "ExactdoublesModel" (263 : Nat) ({ cls := "java/lang/String", name := "length", desc := "()I" } : Jvm.MethodName)) ∈ ky_B := ky_mem (kc_8 _ (List.mem_of_getElem? (i := 38) rfl)) (by decide +kernel)
theorem kw_8_31 : (Jvm.Cond.methodLink "ExactdoublesModel" (268 : Nat) ({ cls := "ExactdoublesModel", name := "add", desc := "(JJ)J" } : Jvm.MethodName)) ∈ ky_B := ky_mem (kc_8 _ (List.mem_of_getElem? (i := 31) rfl)) (by decide +kernel)
theorem kw_8_32 : (Jvm.Cond.static ({ cls := "ExactdoublesModel", name := "add", desc := "(JJ)J" } : Jvm.MethodName)) ∈ ky_B := ky_mem (kc_8 _ (List.mem_of_getElem? (i := 32) rfl)) (by decide +kernel)
theorem kw_8_33 : (Jvm.Cond.code ({ cls := "ExactdoublesModel", name := "add", desc := "(JJ)J" } : Jvm.MethodName) prog_10_method_78_code (4 : Nat) (Option.some Jvm.ClassFile.FieldType.long)) ∈ ky_B := ky_mem (kc_8 _ (List.mem_of_getElem? (i := 33) rfl)) (by decide +kernel)
theorem kw_7_49 : (Jvm.Cond.methodLink "ExactdoublesModel" (173 : Nat) ({ cls := "ExactdoublesModel$Its", name := "text", desc := "()Ljava/lang/String;" } : Jvm.MethodName)) ∈ ky_B := ky_mem (kc_7 _ (List.mem_of_getElem? (i := 49) rfl)) (by decide +kernel)
theorem kw_7_50 : (Jvm.Cond.instanceMethod ({ cls := "ExactdoublesModel$Its", name := "text", desc := "()Ljava/lang/String;" } : Jvm.MethodName)) ∈ ky_B := ky_mem (kc_7 _ (List.mem_of_getElem? (i := 50) rfl)) (by decide +kernel)
theorem kw_7_51 : (Jvm.Cond.selects "ExactdoublesModel$Its" ({ cls := "ExactdoublesModel$Its", name := "text", desc := "()Ljava/lang/String;" } : Jvm.MethodName) ({ cls := "ExactdoublesModel$Its", name := "text", desc := "()Ljava/lang/String;" } : Jvm.MethodName)) ∈ ky_B := ky_mem (kc_7 _ (List.mem_of_getElem? (i := 51) rfl)) (by decide +kernel)
theorem kw_7_52 : (Jvm.Cond.code ({ cls := "ExactdoublesModel$Its", name := "text", desc := "()Ljava/lang/String;" } : Jvm.MethodName) prog_11_method_15_code (5 : Nat) (Option.some (Jvm.ClassFile.FieldType.object "java/lang/String"))) ∈ ky_B := ky_mem (kc_7 _ (List.mem_of_getElem? (i := 52) rfl)) (by decide +kernel)
theorem kw_7_112 : (Jvm.Cond.methodLink "ExactdoublesModel" (198 : Nat) ({ cls := "ExactdoublesModel", name := "whole", desc := "(IZ)Ljava/lang/String;" } : Jvm.MethodName)) ∈ ky_B := ky_mem (kc_7 _ (List.mem_of_getElem? (i := 112) rfl)) (by decide +kernel)
theorem kw_7_114 : (Jvm.Cond.instanceMethod ({ cls := "ExactdoublesModel", name := "whole", desc := "(IZ)Ljava/lang/String;" } : Jvm.MethodName)) ∈ ky_B := ky_mem (kc_7 _ (List.mem_of_getElem? (i := 114) rfl)) (by decide +kernel)
theorem kp_X9_whole : (Jvm.Cond.selects "ExactdoublesModel" ({ cls := "ExactdoublesModel", name := "whole", desc := "(IZ)Ljava/lang/String;" } : Jvm.MethodName) ({ cls := "ExactdoublesModel", name := "whole", desc := "(IZ)Ljava/lang/String;" } : Jvm.MethodName)) ∈ ky_B := ky_mem (List.mem_append_left _ (List.mem_of_getElem? (i := 24) (by decide +kernel))) (by decide +kernel)
theorem kw_7_115 : (Jvm.Cond.code ({ cls := "ExactdoublesModel", name := "whole", desc := "(IZ)Ljava/lang/String;" } : Jvm.MethodName) prog_10_method_46_code (3 : Nat) (Option.some (Jvm.ClassFile.FieldType.object "java/lang/String"))) ∈ ky_B := ky_mem (kc_7 _ (List.mem_of_getElem? (i := 115) rfl)) (by decide +kernel)
theorem kw_7_209 : (Jvm.Cond.methodLink "ExactdoublesModel" (247 : Nat) ({ cls := "ExactdoublesModel", name := "takenText", desc := "(II)Ljava/lang/String;" } : Jvm.MethodName)) ∈ ky_B := ky_mem (kc_7 _ (List.mem_of_getElem? (i := 209) rfl)) (by decide +kernel)
theorem kw_7_211 : (Jvm.Cond.instanceMethod ({ cls := "ExactdoublesModel", name := "takenText", desc := "(II)Ljava/lang/String;" } : Jvm.MethodName)) ∈ ky_B := ky_mem (kc_7 _ (List.mem_of_getElem? (i := 211) rfl)) (by decide +kernel)
theorem kp_X9_takenText : (Jvm.Cond.selects "ExactdoublesModel" ({ cls := "ExactdoublesModel", name := "takenText", desc := "(II)Ljava/lang/String;" } : Jvm.MethodName) ({ cls := "ExactdoublesModel", name := "takenText", desc := "(II)Ljava/lang/String;" } : Jvm.MethodName)) ∈ ky_B := ky_mem (List.mem_append_left _ (List.mem_of_getElem? (i := 29) (by decide +kernel))) (by decide +kernel)
theorem kw_7_212 : (Jvm.Cond.code ({ cls := "ExactdoublesModel", name := "takenText", desc := "(II)Ljava/lang/String;" } : Jvm.MethodName) prog_10_method_63_code (3 : Nat) (Option.some (Jvm.ClassFile.FieldType.object "java/lang/String"))) ∈ ky_B := ky_mem (kc_7 _ (List.mem_of_getElem? (i := 212) rfl)) (by decide +kernel)
theorem kw_8_1 : (Jvm.Cond.methodLink "ExactdoublesModel" (251 : Nat) ({ cls := "ExactdoublesModel", name := "end", desc := "(Z)Ljava/lang/String;" } : Jvm.MethodName)) ∈ ky_B := ky_mem (kc_8 _ (List.mem_of_getElem? (i := 1) rfl)) (by decide +kernel)
theorem kw_8_3 : (Jvm.Cond.instanceMethod ({ cls := "ExactdoublesModel", name := "end", desc := "(Z)Ljava/lang/String;" } : Jvm.MethodName)) ∈ ky_B := ky_mem (kc_8 _ (List.mem_of_getElem? (i := 3) rfl)) (by decide +kernel)
theorem kp_X9_end : (Jvm.Cond.selects "ExactdoublesModel" ({ cls := "ExactdoublesModel", name := "end", desc := "(Z)Ljava/lang/String;" } : Jvm.MethodName) ({ cls := "ExactdoublesModel", name := "end", desc := "(Z)Ljava/lang/String;" } : Jvm.MethodName)) ∈ ky_B := ky_mem (List.mem_append_left _ (List.mem_of_getElem? (i := 30) (by decide +kernel))) (by decide +kernel)
theorem kw_8_4 : (Jvm.Cond.code ({ cls := "ExactdoublesModel", name := "end", desc := "(Z)Ljava/lang/String;" } : Jvm.MethodName) prog_10_method_71_code (7 : Nat) (Option.some (Jvm.ClassFile.FieldType.object "java/lang/String"))) ∈ ky_B := ky_mem (kc_8 _ (List.mem_of_getElem? (i := 4) rfl)) (by decide +kernel)
theorem kI_X8_61 : ky_wI "ExactdoublesModel$Its" 61 my_J4_init_da8c8 prog_23_method_1_code 1 0 := ⟨kw_7_56, kw_1_47, kw_1_4, kw_1_48, rfl, by decide, by decide, by decide +kernel⟩
theorem kv_X8_62 : ky_wV "ExactdoublesModel$Its" 62 my_J4_append_15ec4 prog_23_method_7_code 2 (Option.some (Jvm.ClassFile.FieldType.object "java/lang/StringBuilder")) 1 := ⟨kw_7_57, kw_1_163, kw_1_164, kw_1_4, kw_1_165, by decide, by decide, by decide +kernel⟩
theorem kv_X8_70 : ky_wV "ExactdoublesModel$Its" 70 my_J4_toString_0e30d prog_23_method_42_code 1 (Option.some (Jvm.ClassFile.FieldType.object "java/lang/String")) 0 := ⟨kw_7_60, kw_2_68, kw_2_69, kw_1_4, kw_2_70, by decide, by decide, by decide +kernel⟩
theorem kv_X8_76 : ky_wV "ExactdoublesModel$Its" 76 my_J4_append_f7089 prog_23_method_16_code 3 (Option.some (Jvm.ClassFile.FieldType.object "java/lang/StringBuilder")) 1 := ⟨kw_7_61, kw_7_62, kw_7_63, kw_1_4, kw_7_64, by decide, by decide, by decide +kernel⟩
theorem kv_X8_81 : ky_wV "ExactdoublesModel$Its" 81 my_J4_append_bf812 prog_23_method_15_code 2 (Option.some (Jvm.ClassFile.FieldType.object "java/lang/StringBuilder")) 1 := ⟨kw_7_89, kw_2_43, kw_2_44, kw_1_4, kw_2_45, by decide, by decide, by decide +kernel⟩
theorem kI_X9_187 : ky_wI "ExactdoublesModel" 187 my_J4_init_da8c8 prog_23_method_1_code 1 0 := ⟨kw_7_117, kw_1_47, kw_1_4, kw_1_48, rfl, by decide, by decide, by decide +kernel⟩
theorem kv_X9_188 : ky_wV "ExactdoublesModel" 188 my_J4_append_15ec4 prog_23_method_7_code 2 (Option.some (Jvm.ClassFile.FieldType.object "java/lang/StringBuilder")) 1 := ⟨kw_7_118, kw_1_163, kw_1_164, kw_1_4, kw_1_165, by decide, by decide, by decide +kernel⟩
theorem kv_X9_192 : ky_wV "ExactdoublesModel" 192 my_J4_append_f7089 prog_23_method_16_code 3 (Option.some (Jvm.ClassFile.FieldType.object "java/lang/StringBuilder")) 1 := ⟨kw_7_119, kw_7_62, kw_7_63, kw_1_4, kw_7_64, by decide, by decide, by decide +kernel⟩
theorem kv_X9_195 : ky_wV "ExactdoublesModel" 195 my_J4_toString_0e30d prog_23_method_42_code 1 (Option.some (Jvm.ClassFile.FieldType.object "java/lang/String")) 0 := ⟨kw_7_120, kw_2_68, kw_2_69, kw_1_4, kw_2_70, by decide, by decide, by decide +kernel⟩
theorem kv_X9_263 : ky_wV "ExactdoublesModel" 263 my_J0_length_8abf5 prog_22_method_54_code 1 (Option.some Jvm.ClassFile.FieldType.int) 0 := ⟨kw_8_38, kw_2_0, kw_2_1, kw_1_5, kw_2_2, by decide, by decide, by decide +kernel⟩
theorem ks_X9_268 : ky_wS "ExactdoublesModel" 268 my_X9_add prog_10_method_78_code 4 (Option.some Jvm.ClassFile.FieldType.long) 2 := ⟨kw_8_31, kw_8_32, kw_1_8, kw_8_33, by decide, by decide, by decide +kernel⟩
theorem kv_X9_173 : ky_wV "ExactdoublesModel" 173 my_X8_text prog_11_method_15_code 5 (Option.some (Jvm.ClassFile.FieldType.object "java/lang/String")) 0 := ⟨kw_7_49, kw_7_50, kw_7_51, kw_1_9, kw_7_52, by decide, by decide, by decide +kernel⟩
theorem kv_X9_198 : ky_wV "ExactdoublesModel" 198 my_X9_whole prog_10_method_46_code 3 (Option.some (Jvm.ClassFile.FieldType.object "java/lang/String")) 2 := ⟨kw_7_112, kw_7_114, kp_X9_whole, kw_1_8, kw_7_115, by decide, by decide, by decide +kernel⟩
theorem kv_X9_247 : ky_wV "ExactdoublesModel" 247 my_X9_takenText prog_10_method_63_code 3 (Option.some (Jvm.ClassFile.FieldType.object "java/lang/String")) 2 := ⟨kw_7_209, kw_7_211, kp_X9_takenText, kw_1_8, kw_7_212, by decide, by decide, by decide +kernel⟩
theorem kv_X9_251 : ky_wV "ExactdoublesModel" 251 my_X9_end prog_10_method_71_code 7 (Option.some (Jvm.ClassFile.FieldType.object "java/lang/String")) 1 := ⟨kw_8_1, kw_8_3, kp_X9_end, kw_1_8, kw_8_4, by decide, by decide, by decide +kernel⟩
theorem dc_X8_text_0 : decode prog_11_method_15_code 0 = .ok (.aload_n 0, 1) := by decide +kernel
theorem dc_X8_text_1 : decode prog_11_method_15_code 1 = .ok (.getfield 9, 3) := by decide +kernel
theorem dc_X8_text_4 : decode prog_11_method_15_code 4 = .ok (.ifCond .ne 8, 3) := by decide +kernel
theorem dc_X8_text_12 : decode prog_11_method_15_code 12 = .ok (.ldc 57, 2) := by decide +kernel
theorem dc_X8_text_14 : decode prog_11_method_15_code 14 = .ok (.astore_n 1, 1) := by decide +kernel
theorem dc_X8_text_15 : decode prog_11_method_15_code 15 = .ok (.aload_n 0, 1) := by decide +kernel
theorem dc_X8_text_16 : decode prog_11_method_15_code 16 = .ok (.getfield 15, 3) := by decide +kernel
theorem dc_X8_text_19 : decode prog_11_method_15_code 19 = .ok (.lconst 0, 1) := by decide +kernel
theorem dc_X8_text_20 : decode prog_11_method_15_code 20 = .ok (.lcmp, 1) := by decide +kernel
theorem dc_X8_text_21 : decode prog_11_method_15_code 21 = .ok (.ifCond .eq 10, 3) := by decide +kernel
theorem dc_X8_text_31 : decode prog_11_method_15_code 31 = .ok (.new 59, 3) := by decide +kernel
theorem dc_X8_text_34 : decode prog_11_method_15_code 34 = .ok (.dup, 1) := by decide +kernel
theorem dc_X8_text_35 : decode prog_11_method_15_code 35 = .ok (.invokespecial 61, 3) := by decide +kernel
theorem dc_X8_text_38 : decode prog_11_method_15_code 38 = .ok (.aload_n 1, 1) := by decide +kernel
theorem dc_X8_text_39 : decode prog_11_method_15_code 39 = .ok (.invokevirtual 62, 3) := by decide +kernel
theorem dc_X8_text_42 : decode prog_11_method_15_code 42 = .ok (.aload_n 0, 1) := by decide +kernel
theorem dc_X8_text_43 : decode prog_11_method_15_code 43 = .ok (.getfield 15, 3) := by decide +kernel
theorem dc_X8_text_46 : decode prog_11_method_15_code 46 = .ok (.lconst 0, 1) := by decide +kernel
theorem dc_X8_text_47 : decode prog_11_method_15_code 47 = .ok (.lcmp, 1) := by decide +kernel
theorem dc_X8_text_48 : decode prog_11_method_15_code 48 = .ok (.ifCond .ne 8, 3) := by decide +kernel
theorem dc_X8_text_51 : decode prog_11_method_15_code 51 = .ok (.ldc 66, 2) := by decide +kernel
theorem dc_X8_text_53 : decode prog_11_method_15_code 53 = .ok (.goto 5, 3) := by decide +kernel
theorem dc_X8_text_58 : decode prog_11_method_15_code 58 = .ok (.invokevirtual 62, 3) := by decide +kernel
theorem dc_X8_text_61 : decode prog_11_method_15_code 61 = .ok (.invokevirtual 70, 3) := by decide +kernel
theorem dc_X8_text_64 : decode prog_11_method_15_code 64 = .ok (.areturn, 1) := by decide +kernel
theorem dc_X8_text_24 : decode prog_11_method_15_code 24 = .ok (.aload_n 0, 1) := by decide +kernel
theorem dc_X8_text_25 : decode prog_11_method_15_code 25 = .ok (.invokevirtual 45, 3) := by decide +kernel
theorem dc_X8_text_28 : decode prog_11_method_15_code 28 = .ok (.ifCond .eq 37, 3) := by decide +kernel
theorem dc_X8_text_65 : decode prog_11_method_15_code 65 = .ok (.aload_n 0, 1) := by decide +kernel
theorem dc_X8_text_66 : decode prog_11_method_15_code 66 = .ok (.invokevirtual 39, 3) := by decide +kernel
theorem dc_X8_text_69 : decode prog_11_method_15_code 69 = .ok (.lstore_n 2, 1) := by decide +kernel
theorem dc_X8_text_70 : decode prog_11_method_15_code 70 = .ok (.aload_n 0, 1) := by decide +kernel
theorem dc_X8_text_71 : decode prog_11_method_15_code 71 = .ok (.invokevirtual 36, 3) := by decide +kernel
theorem dc_X8_text_74 : decode prog_11_method_15_code 74 = .ok (.istore 4, 2) := by decide +kernel
theorem dc_X8_text_76 : decode prog_11_method_15_code 76 = .ok (.lload_n 2, 1) := by decide +kernel
theorem dc_X8_text_77 : decode prog_11_method_15_code 77 = .ok (.ldc2_w 74, 3) := by decide +kernel
theorem dc_X8_text_80 : decode prog_11_method_15_code 80 = .ok (.lrem, 1) := by decide +kernel
theorem dc_X8_text_81 : decode prog_11_method_15_code 81 = .ok (.lconst 0, 1) := by decide +kernel
theorem dc_X8_text_82 : decode prog_11_method_15_code 82 = .ok (.lcmp, 1) := by decide +kernel
theorem dc_X8_text_83 : decode prog_11_method_15_code 83 = .ok (.ifCond .ne 15, 3) := by decide +kernel
theorem dc_X8_text_98 : decode prog_11_method_15_code 98 = .ok (.new 59, 3) := by decide +kernel
theorem dc_X8_text_101 : decode prog_11_method_15_code 101 = .ok (.dup, 1) := by decide +kernel
theorem dc_X8_text_102 : decode prog_11_method_15_code 102 = .ok (.invokespecial 61, 3) := by decide +kernel
theorem dc_X8_text_105 : decode prog_11_method_15_code 105 = .ok (.aload_n 1, 1) := by decide +kernel
theorem dc_X8_text_106 : decode prog_11_method_15_code 106 = .ok (.invokevirtual 62, 3) := by decide +kernel
theorem dc_X8_text_109 : decode prog_11_method_15_code 109 = .ok (.lload_n 2, 1) := by decide +kernel
theorem dc_X8_text_110 : decode prog_11_method_15_code 110 = .ok (.invokevirtual 76, 3) := by decide +kernel
theorem dc_X8_text_113 : decode prog_11_method_15_code 113 = .ok (.ldc 79, 2) := by decide +kernel
theorem dc_X8_text_115 : decode prog_11_method_15_code 115 = .ok (.invokevirtual 62, 3) := by decide +kernel
theorem dc_X8_text_118 : decode prog_11_method_15_code 118 = .ok (.iload 4, 2) := by decide +kernel
theorem dc_X8_text_120 : decode prog_11_method_15_code 120 = .ok (.invokevirtual 81, 3) := by decide +kernel
theorem dc_X8_text_123 : decode prog_11_method_15_code 123 = .ok (.invokevirtual 70, 3) := by decide +kernel
theorem dc_X8_text_126 : decode prog_11_method_15_code 126 = .ok (.areturn, 1) := by decide +kernel
theorem dc_X8_text_86 : decode prog_11_method_15_code 86 = .ok (.lload_n 2, 1) := by decide +kernel
theorem dc_X8_text_87 : decode prog_11_method_15_code 87 = .ok (.ldc2_w 74, 3) := by decide +kernel
theorem dc_X8_text_90 : decode prog_11_method_15_code 90 = .ok (.ldiv, 1) := by decide +kernel
theorem dc_X8_text_91 : decode prog_11_method_15_code 91 = .ok (.lstore_n 2, 1) := by decide +kernel
theorem dc_X8_text_92 : decode prog_11_method_15_code 92 = .ok (.iinc 4 1, 3) := by decide +kernel
theorem dc_X8_text_95 : decode prog_11_method_15_code 95 = .ok (.goto (-19), 3) := by decide +kernel
theorem dc_X8_text_56 : decode prog_11_method_15_code 56 = .ok (.ldc 68, 2) := by decide +kernel
theorem dc_X8_text_7 : decode prog_11_method_15_code 7 = .ok (.ldc 55, 2) := by decide +kernel
theorem dc_X8_text_9 : decode prog_11_method_15_code 9 = .ok (.goto 5, 3) := by decide +kernel
theorem dc_X9_whole_0 : decode prog_10_method_46_code 0 = .ok (.new 185, 3) := by decide +kernel
theorem dc_X9_whole_3 : decode prog_10_method_46_code 3 = .ok (.dup, 1) := by decide +kernel
theorem dc_X9_whole_4 : decode prog_10_method_46_code 4 = .ok (.invokespecial 187, 3) := by decide +kernel
theorem dc_X9_whole_7 : decode prog_10_method_46_code 7 = .ok (.ldc 171, 2) := by decide +kernel
theorem dc_X9_whole_9 : decode prog_10_method_46_code 9 = .ok (.invokevirtual 188, 3) := by decide +kernel
theorem dc_X9_whole_12 : decode prog_10_method_46_code 12 = .ok (.aload_n 0, 1) := by decide +kernel
theorem dc_X9_whole_13 : decode prog_10_method_46_code 13 = .ok (.getfield 25, 3) := by decide +kernel
theorem dc_X9_whole_16 : decode prog_10_method_46_code 16 = .ok (.iload_n 1, 1) := by decide +kernel
theorem dc_X9_whole_17 : decode prog_10_method_46_code 17 = .ok (.aaload, 1) := by decide +kernel
theorem dc_X9_whole_18 : decode prog_10_method_46_code 18 = .ok (.iload_n 2, 1) := by decide +kernel
theorem dc_X9_whole_19 : decode prog_10_method_46_code 19 = .ok (.invokevirtual 177, 3) := by decide +kernel
theorem dc_X9_whole_22 : decode prog_10_method_46_code 22 = .ok (.invokevirtual 192, 3) := by decide +kernel
theorem dc_X9_whole_25 : decode prog_10_method_46_code 25 = .ok (.invokevirtual 195, 3) := by decide +kernel
theorem dc_X9_whole_28 : decode prog_10_method_46_code 28 = .ok (.areturn, 1) := by decide +kernel
theorem dc_X9_add__0 : decode prog_10_method_79_code 0 = .ok (.lload_n 0, 1) := by decide +kernel
theorem dc_X9_add__1 : decode prog_10_method_79_code 1 = .ok (.aload_n 2, 1) := by decide +kernel
theorem dc_X9_add__2 : decode prog_10_method_79_code 2 = .ok (.invokevirtual 263, 3) := by decide +kernel
theorem dc_X9_add__5 : decode prog_10_method_79_code 5 = .ok (.i2l, 1) := by decide +kernel
theorem dc_X9_add__6 : decode prog_10_method_79_code 6 = .ok (.invokestatic 268, 3) := by decide +kernel
theorem dc_X9_add__9 : decode prog_10_method_79_code 9 = .ok (.lreturn, 1) := by decide +kernel
theorem dc_X9_text_0 : decode prog_10_method_42_code 0 = .ok (.aload_n 0, 1) := by decide +kernel
theorem dc_X9_text_1 : decode prog_10_method_42_code 1 = .ok (.iload_n 1, 1) := by decide +kernel
theorem dc_X9_text_2 : decode prog_10_method_42_code 2 = .ok (.invokestatic 51, 3) := by decide +kernel
theorem dc_X9_text_5 : decode prog_10_method_42_code 5 = .ok (.invokevirtual 55, 3) := by decide +kernel
theorem dc_X9_text_8 : decode prog_10_method_42_code 8 = .ok (.ifCond .eq 8, 3) := by decide +kernel
theorem dc_X9_text_16 : decode prog_10_method_42_code 16 = .ok (.aload_n 0, 1) := by decide +kernel
theorem dc_X9_text_17 : decode prog_10_method_42_code 17 = .ok (.getfield 25, 3) := by decide +kernel
theorem dc_X9_text_20 : decode prog_10_method_42_code 20 = .ok (.iload_n 1, 1) := by decide +kernel
theorem dc_X9_text_21 : decode prog_10_method_42_code 21 = .ok (.aaload, 1) := by decide +kernel
theorem dc_X9_text_22 : decode prog_10_method_42_code 22 = .ok (.invokevirtual 173, 3) := by decide +kernel
theorem dc_X9_text_25 : decode prog_10_method_42_code 25 = .ok (.areturn, 1) := by decide +kernel
theorem dc_X9_text_11 : decode prog_10_method_42_code 11 = .ok (.ldc 171, 2) := by decide +kernel
theorem dc_X9_text_13 : decode prog_10_method_42_code 13 = .ok (.goto 12, 3) := by decide +kernel
theorem dc_X9_rounded_0 : decode prog_10_method_47_code 0 = .ok (.aload_n 0, 1) := by decide +kernel
theorem dc_X9_rounded_1 : decode prog_10_method_47_code 1 = .ok (.iload_n 1, 1) := by decide +kernel
theorem dc_X9_rounded_2 : decode prog_10_method_47_code 2 = .ok (.invokestatic 51, 3) := by decide +kernel
theorem dc_X9_rounded_5 : decode prog_10_method_47_code 5 = .ok (.invokevirtual 55, 3) := by decide +kernel
theorem dc_X9_rounded_8 : decode prog_10_method_47_code 8 = .ok (.ifCond .eq 8, 3) := by decide +kernel
theorem dc_X9_rounded_16 : decode prog_10_method_47_code 16 = .ok (.aload_n 0, 1) := by decide +kernel
theorem dc_X9_rounded_17 : decode prog_10_method_47_code 17 = .ok (.iload_n 1, 1) := by decide +kernel
theorem dc_X9_rounded_18 : decode prog_10_method_47_code 18 = .ok (.iconst 0, 1) := by decide +kernel
theorem dc_X9_rounded_19 : decode prog_10_method_47_code 19 = .ok (.invokevirtual 198, 3) := by decide +kernel
theorem dc_X9_rounded_22 : decode prog_10_method_47_code 22 = .ok (.areturn, 1) := by decide +kernel
theorem dc_X9_rounded_11 : decode prog_10_method_47_code 11 = .ok (.ldc 171, 2) := by decide +kernel
theorem dc_X9_rounded_13 : decode prog_10_method_47_code 13 = .ok (.goto 9, 3) := by decide +kernel
theorem dc_X9_cut_0 : decode prog_10_method_48_code 0 = .ok (.aload_n 0, 1) := by decide +kernel
theorem dc_X9_cut_1 : decode prog_10_method_48_code 1 = .ok (.iload_n 1, 1) := by decide +kernel
theorem dc_X9_cut_2 : decode prog_10_method_48_code 2 = .ok (.invokestatic 51, 3) := by decide +kernel
theorem dc_X9_cut_5 : decode prog_10_method_48_code 5 = .ok (.invokevirtual 55, 3) := by decide +kernel
theorem dc_X9_cut_8 : decode prog_10_method_48_code 8 = .ok (.ifCond .eq 8, 3) := by decide +kernel
theorem dc_X9_cut_16 : decode prog_10_method_48_code 16 = .ok (.aload_n 0, 1) := by decide +kernel
theorem dc_X9_cut_17 : decode prog_10_method_48_code 17 = .ok (.iload_n 1, 1) := by decide +kernel
theorem dc_X9_cut_18 : decode prog_10_method_48_code 18 = .ok (.iconst 1, 1) := by decide +kernel
theorem dc_X9_cut_19 : decode prog_10_method_48_code 19 = .ok (.invokevirtual 198, 3) := by decide +kernel
theorem dc_X9_cut_22 : decode prog_10_method_48_code 22 = .ok (.areturn, 1) := by decide +kernel
theorem dc_X9_cut_11 : decode prog_10_method_48_code 11 = .ok (.ldc 171, 2) := by decide +kernel
theorem dc_X9_cut_13 : decode prog_10_method_48_code 13 = .ok (.goto 9, 3) := by decide +kernel
theorem dc_X9_takenText_0 : decode prog_10_method_63_code 0 = .ok (.aload_n 0, 1) := by decide +kernel
theorem dc_X9_takenText_1 : decode prog_10_method_63_code 1 = .ok (.iload_n 1, 1) := by decide +kernel
theorem dc_X9_takenText_2 : decode prog_10_method_63_code 2 = .ok (.invokestatic 51, 3) := by decide +kernel
theorem dc_X9_takenText_5 : decode prog_10_method_63_code 5 = .ok (.invokevirtual 55, 3) := by decide +kernel
theorem dc_X9_takenText_8 : decode prog_10_method_63_code 8 = .ok (.ifCond .eq 8, 3) := by decide +kernel
theorem dc_X9_takenText_16 : decode prog_10_method_63_code 16 = .ok (.aload_n 0, 1) := by decide +kernel
theorem dc_X9_takenText_17 : decode prog_10_method_63_code 17 = .ok (.getfield 25, 3) := by decide +kernel
theorem dc_X9_takenText_20 : decode prog_10_method_63_code 20 = .ok (.iload_n 1, 1) := by decide +kernel
theorem dc_X9_takenText_21 : decode prog_10_method_63_code 21 = .ok (.aaload, 1) := by decide +kernel
theorem dc_X9_takenText_22 : decode prog_10_method_63_code 22 = .ok (.iload_n 2, 1) := by decide +kernel
theorem dc_X9_takenText_23 : decode prog_10_method_63_code 23 = .ok (.invokevirtual 108, 3) := by decide +kernel
theorem dc_X9_takenText_26 : decode prog_10_method_63_code 26 = .ok (.invokevirtual 173, 3) := by decide +kernel
theorem dc_X9_takenText_29 : decode prog_10_method_63_code 29 = .ok (.areturn, 1) := by decide +kernel
theorem dc_X9_takenText_11 : decode prog_10_method_63_code 11 = .ok (.ldc 171, 2) := by decide +kernel
theorem dc_X9_takenText_13 : decode prog_10_method_63_code 13 = .ok (.goto 16, 3) := by decide +kernel
theorem dc_X9_floorOf_0 : decode prog_10_method_64_code 0 = .ok (.aload_n 0, 1) := by decide +kernel
theorem dc_X9_floorOf_1 : decode prog_10_method_64_code 1 = .ok (.iload_n 1, 1) := by decide +kernel
theorem dc_X9_floorOf_2 : decode prog_10_method_64_code 2 = .ok (.iconst 0, 1) := by decide +kernel
theorem dc_X9_floorOf_3 : decode prog_10_method_64_code 3 = .ok (.invokevirtual 247, 3) := by decide +kernel
theorem dc_X9_floorOf_6 : decode prog_10_method_64_code 6 = .ok (.areturn, 1) := by decide +kernel
theorem dc_X9_ceilOf_0 : decode prog_10_method_65_code 0 = .ok (.aload_n 0, 1) := by decide +kernel
theorem dc_X9_ceilOf_1 : decode prog_10_method_65_code 1 = .ok (.iload_n 1, 1) := by decide +kernel
theorem dc_X9_ceilOf_2 : decode prog_10_method_65_code 2 = .ok (.iconst 1, 1) := by decide +kernel
theorem dc_X9_ceilOf_3 : decode prog_10_method_65_code 3 = .ok (.invokevirtual 247, 3) := by decide +kernel
theorem dc_X9_ceilOf_6 : decode prog_10_method_65_code 6 = .ok (.areturn, 1) := by decide +kernel
theorem dc_X9_rintOf_0 : decode prog_10_method_66_code 0 = .ok (.aload_n 0, 1) := by decide +kernel
theorem dc_X9_rintOf_1 : decode prog_10_method_66_code 1 = .ok (.iload_n 1, 1) := by decide +kernel
theorem dc_X9_rintOf_2 : decode prog_10_method_66_code 2 = .ok (.iconst 2, 1) := by decide +kernel
theorem dc_X9_rintOf_3 : decode prog_10_method_66_code 3 = .ok (.invokevirtual 247, 3) := by decide +kernel
theorem dc_X9_rintOf_6 : decode prog_10_method_66_code 6 = .ok (.areturn, 1) := by decide +kernel
theorem dc_X9_stepOf_0 : decode prog_10_method_67_code 0 = .ok (.aload_n 0, 1) := by decide +kernel
theorem dc_X9_stepOf_1 : decode prog_10_method_67_code 1 = .ok (.iload_n 1, 1) := by decide +kernel
theorem dc_X9_stepOf_2 : decode prog_10_method_67_code 2 = .ok (.invokestatic 51, 3) := by decide +kernel
theorem dc_X9_stepOf_5 : decode prog_10_method_67_code 5 = .ok (.invokevirtual 55, 3) := by decide +kernel
theorem dc_X9_stepOf_8 : decode prog_10_method_67_code 8 = .ok (.ifCond .eq 8, 3) := by decide +kernel
theorem dc_X9_stepOf_16 : decode prog_10_method_67_code 16 = .ok (.aload_n 0, 1) := by decide +kernel
theorem dc_X9_stepOf_17 : decode prog_10_method_67_code 17 = .ok (.getfield 25, 3) := by decide +kernel
theorem dc_X9_stepOf_20 : decode prog_10_method_67_code 20 = .ok (.iload_n 1, 1) := by decide +kernel
theorem dc_X9_stepOf_21 : decode prog_10_method_67_code 21 = .ok (.aaload, 1) := by decide +kernel
theorem dc_X9_stepOf_22 : decode prog_10_method_67_code 22 = .ok (.invokevirtual 134, 3) := by decide +kernel
theorem dc_X9_stepOf_25 : decode prog_10_method_67_code 25 = .ok (.invokevirtual 173, 3) := by decide +kernel
theorem dc_X9_stepOf_28 : decode prog_10_method_67_code 28 = .ok (.areturn, 1) := by decide +kernel
theorem dc_X9_stepOf_11 : decode prog_10_method_67_code 11 = .ok (.ldc 171, 2) := by decide +kernel
theorem dc_X9_stepOf_13 : decode prog_10_method_67_code 13 = .ok (.goto 15, 3) := by decide +kernel
theorem dc_X9_nextOf_0 : decode prog_10_method_68_code 0 = .ok (.aload_n 0, 1) := by decide +kernel
theorem dc_X9_nextOf_1 : decode prog_10_method_68_code 1 = .ok (.iload_n 1, 1) := by decide +kernel
theorem dc_X9_nextOf_2 : decode prog_10_method_68_code 2 = .ok (.invokestatic 51, 3) := by decide +kernel
theorem dc_X9_nextOf_5 : decode prog_10_method_68_code 5 = .ok (.invokevirtual 55, 3) := by decide +kernel
theorem dc_X9_nextOf_8 : decode prog_10_method_68_code 8 = .ok (.ifCond .eq 8, 3) := by decide +kernel
theorem dc_X9_nextOf_16 : decode prog_10_method_68_code 16 = .ok (.aload_n 0, 1) := by decide +kernel
theorem dc_X9_nextOf_17 : decode prog_10_method_68_code 17 = .ok (.getfield 25, 3) := by decide +kernel
theorem dc_X9_nextOf_20 : decode prog_10_method_68_code 20 = .ok (.iload_n 1, 1) := by decide +kernel
theorem dc_X9_nextOf_21 : decode prog_10_method_68_code 21 = .ok (.aaload, 1) := by decide +kernel
theorem dc_X9_nextOf_22 : decode prog_10_method_68_code 22 = .ok (.iload_n 2, 1) := by decide +kernel
theorem dc_X9_nextOf_23 : decode prog_10_method_68_code 23 = .ok (.invokevirtual 130, 3) := by decide +kernel
theorem dc_X9_nextOf_26 : decode prog_10_method_68_code 26 = .ok (.invokevirtual 173, 3) := by decide +kernel
theorem dc_X9_nextOf_29 : decode prog_10_method_68_code 29 = .ok (.areturn, 1) := by decide +kernel
theorem dc_X9_nextOf_11 : decode prog_10_method_68_code 11 = .ok (.ldc 171, 2) := by decide +kernel
theorem dc_X9_nextOf_13 : decode prog_10_method_68_code 13 = .ok (.goto 16, 3) := by decide +kernel
theorem dc_X9_timesOf_0 : decode prog_10_method_69_code 0 = .ok (.aload_n 0, 1) := by decide +kernel
theorem dc_X9_timesOf_1 : decode prog_10_method_69_code 1 = .ok (.iload_n 1, 1) := by decide +kernel
theorem dc_X9_timesOf_2 : decode prog_10_method_69_code 2 = .ok (.invokestatic 51, 3) := by decide +kernel
theorem dc_X9_timesOf_5 : decode prog_10_method_69_code 5 = .ok (.invokevirtual 55, 3) := by decide +kernel
theorem dc_X9_timesOf_8 : decode prog_10_method_69_code 8 = .ok (.ifCond .eq 8, 3) := by decide +kernel
theorem dc_X9_timesOf_16 : decode prog_10_method_69_code 16 = .ok (.aload_n 0, 1) := by decide +kernel
theorem dc_X9_timesOf_17 : decode prog_10_method_69_code 17 = .ok (.getfield 25, 3) := by decide +kernel
theorem dc_X9_timesOf_20 : decode prog_10_method_69_code 20 = .ok (.iload_n 1, 1) := by decide +kernel
theorem dc_X9_timesOf_21 : decode prog_10_method_69_code 21 = .ok (.aaload, 1) := by decide +kernel
theorem dc_X9_timesOf_22 : decode prog_10_method_69_code 22 = .ok (.iload_n 2, 1) := by decide +kernel
theorem dc_X9_timesOf_23 : decode prog_10_method_69_code 23 = .ok (.i2l, 1) := by decide +kernel
theorem dc_X9_timesOf_24 : decode prog_10_method_69_code 24 = .ok (.invokevirtual 140, 3) := by decide +kernel
theorem dc_X9_timesOf_27 : decode prog_10_method_69_code 27 = .ok (.invokevirtual 173, 3) := by decide +kernel
theorem dc_X9_timesOf_30 : decode prog_10_method_69_code 30 = .ok (.areturn, 1) := by decide +kernel
theorem dc_X9_timesOf_11 : decode prog_10_method_69_code 11 = .ok (.ldc 171, 2) := by decide +kernel
theorem dc_X9_timesOf_13 : decode prog_10_method_69_code 13 = .ok (.goto 17, 3) := by decide +kernel
theorem dc_X9_end_0 : decode prog_10_method_71_code 0 = .ok (.aload_n 0, 1) := by decide +kernel
theorem dc_X9_end_1 : decode prog_10_method_71_code 1 = .ok (.getfield 25, 3) := by decide +kernel
theorem dc_X9_end_4 : decode prog_10_method_71_code 4 = .ok (.iconst 0, 1) := by decide +kernel
theorem dc_X9_end_5 : decode prog_10_method_71_code 5 = .ok (.aaload, 1) := by decide +kernel
theorem dc_X9_end_6 : decode prog_10_method_71_code 6 = .ok (.astore_n 2, 1) := by decide +kernel
theorem dc_X9_end_7 : decode prog_10_method_71_code 7 = .ok (.aload_n 0, 1) := by decide +kernel
theorem dc_X9_end_8 : decode prog_10_method_71_code 8 = .ok (.getfield 25, 3) := by decide +kernel
theorem dc_X9_end_11 : decode prog_10_method_71_code 11 = .ok (.astore_n 3, 1) := by decide +kernel
theorem dc_X9_end_12 : decode prog_10_method_71_code 12 = .ok (.aload_n 3, 1) := by decide +kernel
theorem dc_X9_end_13 : decode prog_10_method_71_code 13 = .ok (.arraylength, 1) := by decide +kernel
theorem dc_X9_end_14 : decode prog_10_method_71_code 14 = .ok (.istore 4, 2) := by decide +kernel
theorem dc_X9_end_16 : decode prog_10_method_71_code 16 = .ok (.iconst 0, 1) := by decide +kernel
theorem dc_X9_end_17 : decode prog_10_method_71_code 17 = .ok (.istore 5, 2) := by decide +kernel
theorem dc_X9_end_19 : decode prog_10_method_71_code 19 = .ok (.iload 5, 2) := by decide +kernel
theorem dc_X9_end_21 : decode prog_10_method_71_code 21 = .ok (.iload 4, 2) := by decide +kernel
theorem dc_X9_end_23 : decode prog_10_method_71_code 23 = .ok (.if_icmp .ge 44, 3) := by decide +kernel
theorem dc_X9_end_67 : decode prog_10_method_71_code 67 = .ok (.aload_n 2, 1) := by decide +kernel
theorem dc_X9_end_68 : decode prog_10_method_71_code 68 = .ok (.invokevirtual 173, 3) := by decide +kernel
theorem dc_X9_end_71 : decode prog_10_method_71_code 71 = .ok (.areturn, 1) := by decide +kernel
theorem dc_X9_end_26 : decode prog_10_method_71_code 26 = .ok (.aload_n 3, 1) := by decide +kernel
theorem dc_X9_end_27 : decode prog_10_method_71_code 27 = .ok (.iload 5, 2) := by decide +kernel
theorem dc_X9_end_29 : decode prog_10_method_71_code 29 = .ok (.aaload, 1) := by decide +kernel
theorem dc_X9_end_30 : decode prog_10_method_71_code 30 = .ok (.astore 6, 2) := by decide +kernel
theorem dc_X9_end_32 : decode prog_10_method_71_code 32 = .ok (.aload 6, 2) := by decide +kernel
theorem dc_X9_end_34 : decode prog_10_method_71_code 34 = .ok (.invokevirtual 147, 3) := by decide +kernel
theorem dc_X9_end_37 : decode prog_10_method_71_code 37 = .ok (.aload_n 2, 1) := by decide +kernel
theorem dc_X9_end_38 : decode prog_10_method_71_code 38 = .ok (.invokevirtual 147, 3) := by decide +kernel
theorem dc_X9_end_41 : decode prog_10_method_71_code 41 = .ok (.lcmp, 1) := by decide +kernel
theorem dc_X9_end_42 : decode prog_10_method_71_code 42 = .ok (.ifCond .le 7, 3) := by decide +kernel
theorem dc_X9_end_49 : decode prog_10_method_71_code 49 = .ok (.iconst 0, 1) := by decide +kernel
theorem dc_X9_end_50 : decode prog_10_method_71_code 50 = .ok (.iload_n 1, 1) := by decide +kernel
theorem dc_X9_end_51 : decode prog_10_method_71_code 51 = .ok (.if_icmp .ne 8, 3) := by decide +kernel
theorem dc_X9_end_59 : decode prog_10_method_71_code 59 = .ok (.aload_n 2, 1) := by decide +kernel
theorem dc_X9_end_60 : decode prog_10_method_71_code 60 = .ok (.astore_n 2, 1) := by decide +kernel
theorem dc_X9_end_61 : decode prog_10_method_71_code 61 = .ok (.iinc 5 1, 3) := by decide +kernel
theorem dc_X9_end_64 : decode prog_10_method_71_code 64 = .ok (.goto (-45), 3) := by decide +kernel
theorem dc_X9_end_54 : decode prog_10_method_71_code 54 = .ok (.aload 6, 2) := by decide +kernel
theorem dc_X9_end_56 : decode prog_10_method_71_code 56 = .ok (.goto 4, 3) := by decide +kernel
theorem dc_X9_end_45 : decode prog_10_method_71_code 45 = .ok (.iconst 1, 1) := by decide +kernel
theorem dc_X9_end_46 : decode prog_10_method_71_code 46 = .ok (.goto 4, 3) := by decide +kernel
theorem dc_X9_greatest_0 : decode prog_10_method_72_code 0 = .ok (.aload_n 0, 1) := by decide +kernel
theorem dc_X9_greatest_1 : decode prog_10_method_72_code 1 = .ok (.iconst 0, 1) := by decide +kernel
theorem dc_X9_greatest_2 : decode prog_10_method_72_code 2 = .ok (.putfield 32, 3) := by decide +kernel
theorem dc_X9_greatest_5 : decode prog_10_method_72_code 5 = .ok (.aload_n 0, 1) := by decide +kernel
theorem dc_X9_greatest_6 : decode prog_10_method_72_code 6 = .ok (.iconst 1, 1) := by decide +kernel
theorem dc_X9_greatest_7 : decode prog_10_method_72_code 7 = .ok (.invokevirtual 251, 3) := by decide +kernel
theorem dc_X9_greatest_10 : decode prog_10_method_72_code 10 = .ok (.areturn, 1) := by decide +kernel
theorem dc_X9_least_0 : decode prog_10_method_73_code 0 = .ok (.aload_n 0, 1) := by decide +kernel
theorem dc_X9_least_1 : decode prog_10_method_73_code 1 = .ok (.iconst 0, 1) := by decide +kernel
theorem dc_X9_least_2 : decode prog_10_method_73_code 2 = .ok (.putfield 32, 3) := by decide +kernel
theorem dc_X9_least_5 : decode prog_10_method_73_code 5 = .ok (.aload_n 0, 1) := by decide +kernel
theorem dc_X9_least_6 : decode prog_10_method_73_code 6 = .ok (.iconst 0, 1) := by decide +kernel
theorem dc_X9_least_7 : decode prog_10_method_73_code 7 = .ok (.invokevirtual 251, 3) := by decide +kernel
theorem dc_X9_least_10 : decode prog_10_method_73_code 10 = .ok (.areturn, 1) := by decide +kernel
