abbrev my_X8_text : MethodName := ⟨"ExactdoublesModel$Its", "text", "()Ljava/lang/String;"⟩
abbrev my_X9_whole : MethodName := ⟨"ExactdoublesModel", "whole", "(IZ)Ljava/lang/String;"⟩
abbrev my_X9_add_ : MethodName := ⟨"ExactdoublesModel", "add", "(JLjava/lang/String;)J"⟩
abbrev my_X9_text : MethodName := ⟨"ExactdoublesModel", "text", "(I)Ljava/lang/String;"⟩
abbrev my_X9_rounded : MethodName := ⟨"ExactdoublesModel", "rounded", "(I)Ljava/lang/String;"⟩
abbrev my_X9_cut : MethodName := ⟨"ExactdoublesModel", "cut", "(I)Ljava/lang/String;"⟩
abbrev my_X9_takenText : MethodName := ⟨"ExactdoublesModel", "takenText", "(II)Ljava/lang/String;"⟩
abbrev my_X9_floorOf : MethodName := ⟨"ExactdoublesModel", "floorOf", "(I)Ljava/lang/String;"⟩
abbrev my_X9_ceilOf : MethodName := ⟨"ExactdoublesModel", "ceilOf", "(I)Ljava/lang/String;"⟩
abbrev my_X9_rintOf : MethodName := ⟨"ExactdoublesModel", "rintOf", "(I)Ljava/lang/String;"⟩
abbrev my_X9_stepOf : MethodName := ⟨"ExactdoublesModel", "stepOf", "(I)Ljava/lang/String;"⟩
abbrev my_X9_nextOf : MethodName := ⟨"ExactdoublesModel", "nextOf", "(IZ)Ljava/lang/String;"⟩
abbrev my_X9_timesOf : MethodName := ⟨"ExactdoublesModel", "timesOf", "(II)Ljava/lang/String;"⟩
abbrev my_X9_end : MethodName := ⟨"ExactdoublesModel", "end", "(Z)Ljava/lang/String;"⟩
abbrev my_X9_greatest : MethodName := ⟨"ExactdoublesModel", "greatest", "()Ljava/lang/String;"⟩
abbrev my_X9_least : MethodName := ⟨"ExactdoublesModel", "least", "()Ljava/lang/String;"⟩
abbrev my_X9_digest : MethodName := ⟨"ExactdoublesModel", "digest", "()J"⟩
theorem kw_7_55 : (Jvm.Cond.classLink "ExactdoublesModel$Its" (59 : Nat) "java/lang/StringBuilder") ∈ ky_B := ky_mem (kc_7 _ (List.mem_of_getElem? (i := 55) rfl)) (by decide +kernel)
theorem kw_7_56 : (Jvm.Cond.methodLink "ExactdoublesModel$Its" (61 : Nat) ({ cls := "java/lang/StringBuilder", name := "<init>", desc := "()V" } : Jvm.MethodName)) ∈ ky_B := ky_mem (kc_7 _ (List.mem_of_getElem? (i := 56) rfl)) (by decide +kernel)
theorem kw_7_57 : (Jvm.Cond.methodLink "ExactdoublesModel$Its" (62 : Nat) ({ cls := "java/lang/StringBuilder", name := "append", desc := "(Ljava/lang/String;)Ljava/lang/StringBuilder;" } : Jvm.MethodName)) ∈ ky_B := ky_mem (kc_7 _ (List.mem_of_getElem? (i := 57) rfl)) (by decide +kernel)
theorem kw_7_60 : (Jvm.Cond.methodLink "ExactdoublesModel$Its" (70 : Nat) ({ cls := "java/lang/StringBuilder", name := "toString", desc := "()Ljava/lang/String;" } : Jvm.MethodName)) ∈ ky_B := ky_mem (kc_7 _ (List.mem_of_getElem? (i := 60) rfl)) (by decide +kernel)
theorem kw_7_61 : (Jvm.Cond.methodLink "ExactdoublesModel$Its" (76 : Nat) ({ cls := "java/lang/StringBuilder", name := "append", desc := "(J)Ljava/lang/StringBuilder;" } : Jvm.MethodName)) ∈ ky_B := ky_mem (kc_7 _ (List.mem_of_getElem? (i := 61) rfl)) (by decide +kernel)
theorem kw_7_62 : (Jvm.Cond.instanceMethod ({ cls := "java/lang/StringBuilder", name := "append", desc := "(J)Ljava/lang/StringBuilder;" } : Jvm.MethodName)) ∈ ky_B := ky_mem (kc_7 _ (List.mem_of_getElem? (i := 62) rfl)) (by decide +kernel)
theorem kw_7_63 : (Jvm.Cond.selects "java/lang/StringBuilder" ({ cls := "java/lang/StringBuilder", name := "append", desc := "(J)Ljava/lang/StringBuilder;" } : Jvm.MethodName) ({ cls := "java/lang/StringBuilder", name := "append", desc := "(J)Ljava/lang/StringBuilder;" } : Jvm.MethodName)) ∈ ky_B := ky_mem (kc_7 _ (List.mem_of_getElem? (i := 63) rfl)) (by decide +kernel)
theorem kw_7_64 : (Jvm.Cond.code ({ cls := "java/lang/StringBuilder", name := "append", desc := "(J)Ljava/lang/StringBuilder;" } : Jvm.MethodName) prog_23_method_16_code (3 : Nat) (Option.some (Jvm.ClassFile.FieldType.object "java/lang/StringBuilder"))) ∈ ky_B := ky_mem (kc_7 _ (List.mem_of_getElem? (i := 64) rfl)) (by decide +kernel)
theorem kw_7_89 : (Jvm.Cond.methodLink "ExactdoublesModel$Its" (81 : Nat) ({ cls := "java/lang/StringBuilder", name := "append", desc := "(I)Ljava/lang/StringBuilder;" } : Jvm.MethodName)) ∈ ky_B := ky_mem (kc_7 _ (List.mem_of_getElem? (i := 89) rfl)) (by decide +kernel)
theorem kw_7_116 : (Jvm.Cond.classLink "ExactdoublesModel" (185 : Nat) "java/lang/StringBuilder") ∈ ky_B := ky_mem (kc_7 _ (List.mem_of_getElem? (i := 116) rfl)) (by decide +kernel)
theorem kw_7_117 : (Jvm.Cond.methodLink "ExactdoublesModel" (187 : Nat) ({ cls := "java/lang/StringBuilder", name := "<init>", desc := "()V" } : Jvm.MethodName)) ∈ ky_B := ky_mem (kc_7 _ (List.mem_of_getElem? (i := 117) rfl)) (by decide +kernel)
theorem kw_7_118 : (Jvm.Cond.methodLink "ExactdoublesModel" (188 : Nat) ({ cls := "java/lang/StringBuilder", name := "append", desc := "(Ljava/lang/String;)Ljava/lang/StringBuilder;" } : Jvm.MethodName)) ∈ ky_B := ky_mem (kc_7 _ (List.mem_of_getElem? (i := 118) rfl)) (by decide +kernel)
theorem kw_7_119 : (Jvm.Cond.methodLink "ExactdoublesModel" (192 : Nat) ({ cls := "java/lang/StringBuilder", name := "append", desc := "(J)Ljava/lang/StringBuilder;" } : Jvm.MethodName)) ∈ ky_B := ky_mem (kc_7 _ (List.mem_of_getElem? (i := 119) rfl)) (by decide +kernel)
theorem kw_7_120 : (Jvm.Cond.methodLink "ExactdoublesModel" (195 : Nat) ({ cls := "java/lang/StringBuilder", name := "toString", desc := "()Ljava/lang/String;" } : Jvm.MethodName)) ∈ ky_B := ky_mem (kc_7 _ (List.mem_of_getElem? (i := 120) rfl)) (by decide +kernel)
theorem kw_8_38 : (Jvm.Cond.methodLink "ExactdoublesModel" (263 : Nat) ({ cls := "java/lang/String", name := "length", desc := "()I" } : Jvm.MethodName)) ∈ ky_B := ky_mem (kc_8 _ (List.mem_of_getElem? (i := 38) rfl)) (by decide +kernel)
theorem kw_8_31 : (Jvm.Cond.methodLink "ExactdoublesModel" (268 : Nat) ({ cls := "ExactdoublesModel", name := "add", desc := "(JJ)J" } : Jvm.MethodName)) ∈ ky_B := ky_mem (kc_8 _ (List.mem_of_getElem? (i := 31) rfl)) (by decide +kernel)
theorem kw_8_32 : (Jvm.Cond.static ({ cls := "ExactdoublesModel", name := "add", desc := "(JJ)J" } : Jvm.MethodName)) ∈ ky_B := ky_mem (kc_8 _ (List.mem_of_getElem? (i := 32) rfl)) (by decide +kernel)
theorem kw_8_33 : (Jvm.Cond.code ({ cls := "ExactdoublesModel", name := "add", desc := "(JJ)J" } : Jvm.MethodName) prog_10_method_78_code (4 : Nat) (Option.some Jvm.ClassFile.FieldType.long)) ∈ ky_B := ky_mem (kc_8 _ (List.mem_of_getElem? (i := 33) rfl)) (by decide +kernel)
theorem kw_7_49 : (Jvm.Cond.methodLink "ExactdoublesModel" (173 : Nat) ({ cls := "ExactdoublesModel$Its", name := "text", desc := "()Ljava/lang/String;" } : Jvm.MethodName)) ∈ ky_B := ky_mem (kc_7 _ (List.mem_of_getElem? (i := 49) rfl)) (by decide +kernel)
theorem kw_7_50 : (Jvm.Cond.instanceMethod ({ cls := "ExactdoublesModel$Its", name := "text", desc := "()Ljava/lang/String;" } : Jvm.MethodName)) ∈ ky_B := ky_mem (kc_7 _ (List.mem_of_getElem? (i := 50) rfl)) (by decide +kernel)
theorem kw_7_51 : (Jvm.Cond.selects "ExactdoublesModel$Its" ({ cls := "ExactdoublesModel$Its", name := "text", desc := "()Ljava/lang/String;" } : Jvm.MethodName) ({ cls := "ExactdoublesModel$Its", name := "text", desc := "()Ljava/lang/String;" } : Jvm.MethodName)) ∈ ky_B := ky_mem (kc_7 _ (List.mem_of_getElem? (i := 51) rfl)) (by decide +kernel)
theorem kw_7_52 : (Jvm.Cond.code ({ cls := "ExactdoublesModel$Its", name := "text", desc := "()Ljava/lang/String;" } : Jvm.MethodName) prog_11_method_15_code (5 : Nat) (Option.some (Jvm.ClassFile.FieldType.object "java/lang/String"))) ∈ ky_B := ky_mem (kc_7 _ (List.mem_of_getElem? (i := 52) rfl)) (by decide +kernel)
theorem kw_7_112 : (Jvm.Cond.methodLink "ExactdoublesModel" (198 : Nat) ({ cls := "ExactdoublesModel", name := "whole", desc := "(IZ)Ljava/lang/String;" } : Jvm.MethodName)) ∈ ky_B := ky_mem (kc_7 _ (List.mem_of_getElem? (i := 112) rfl)) (by decide +kernel)
theorem kw_7_114 : (Jvm.Cond.instanceMethod ({ cls := "ExactdoublesModel", name := "whole", desc := "(IZ)Ljava/lang/String;" } : Jvm.MethodName)) ∈ ky_B := ky_mem (kc_7 _ (List.mem_of_getElem? (i := 114) rfl)) (by decide +kernel)
theorem kp_X9_whole : (Jvm.Cond.selects "ExactdoublesModel" ({ cls := "ExactdoublesModel", name := "whole", desc := "(IZ)Ljava/lang/String;" } : Jvm.MethodName) ({ cls := "ExactdoublesModel", name := "whole", desc := "(IZ)Ljava/lang/String;" } : Jvm.MethodName)) ∈ ky_B := ky_mem (List.mem_append_left _ (List.mem_of_getElem? (i := 24) (by decide +kernel))) (by decide +kernel)
theorem kw_7_115 : (Jvm.Cond.code ({ cls := "ExactdoublesModel", name := "whole", desc := "(IZ)Ljava/lang/String;" } : Jvm.MethodName) prog_10_method_46_code (3 : Nat) (Option.some (Jvm.ClassFile.FieldType.object "java/lang/String"))) ∈ ky_B := ky_mem (kc_7 _ (List.mem_of_getElem? (i := 115) rfl)) (by decide +kernel)
theorem kw_7_209 : (Jvm.Cond.methodLink "ExactdoublesModel" (247 : Nat) ({ cls := "ExactdoublesModel", name := "takenText", desc := "(II)Ljava/lang/String;" } : Jvm.MethodName)) ∈ ky_B := ky_mem (kc_7 _ (List.mem_of_getElem? (i := 209) rfl)) (by decide +kernel)
theorem kw_7_211 : (Jvm.Cond.instanceMethod ({ cls := "ExactdoublesModel", name := "takenText", desc := "(II)Ljava/lang/String;" } : Jvm.MethodName)) ∈ ky_B := ky_mem (kc_7 _ (List.mem_of_getElem? (i := 211) rfl)) (by decide +kernel)
theorem kp_X9_takenText : (Jvm.Cond.selects "ExactdoublesModel" ({ cls := "ExactdoublesModel", name := "takenText", desc := "(II)Ljava/lang/String;" } : Jvm.MethodName) ({ cls := "ExactdoublesModel", name := "takenText", desc := "(II)Ljava/lang/String;" } : Jvm.MethodName)) ∈ ky_B := ky_mem (List.mem_append_left _ (List.mem_of_getElem? (i := 29) (by decide +kernel))) (by decide +kernel)
theorem kw_7_212 : (Jvm.Cond.code ({ cls := "ExactdoublesModel", name := "takenText", desc := "(II)Ljava/lang/String;" } : Jvm.MethodName) prog_10_method_63_code (3 : Nat) (Option.some (Jvm.ClassFile.FieldType.object "java/lang/String"))) ∈ ky_B := ky_mem (kc_7 _ (List.mem_of_getElem? (i := 212) rfl)) (by decide +kernel)
theorem kw_8_1 : (Jvm.Cond.methodLink "ExactdoublesModel" (251 : Nat) ({ cls := "ExactdoublesModel", name := "end", desc := "(Z)Ljava/lang/String;" } : Jvm.MethodName)) ∈ ky_B := ky_mem (kc_8 _ (List.mem_of_getElem? (i := 1) rfl)) (by decide +kernel)
theorem kw_8_3 : (Jvm.Cond.instanceMethod ({ cls := "ExactdoublesModel", name := "end", desc := "(Z)Ljava/lang/String;" } : Jvm.MethodName)) ∈ ky_B := ky_mem (kc_8 _ (List.mem_of_getElem? (i := 3) rfl)) (by decide +kernel)
theorem kp_X9_end : (Jvm.Cond.selects "ExactdoublesModel" ({ cls := "ExactdoublesModel", name := "end", desc := "(Z)Ljava/lang/String;" } : Jvm.MethodName) ({ cls := "ExactdoublesModel", name := "end", desc := "(Z)Ljava/lang/String;" } : Jvm.MethodName)) ∈ ky_B := ky_mem (List.mem_append_left _ (List.mem_of_getElem? (i := 30) (by decide +kernel))) (by decide +kernel)
theorem kw_8_4 : (Jvm.Cond.code ({ cls := "ExactdoublesModel", name := "end", desc := "(Z)Ljava/lang/String;" } : Jvm.MethodName) prog_10_method_71_code (7 : Nat) (Option.some (Jvm.ClassFile.FieldType.object "java/lang/String"))) ∈ ky_B := ky_mem (kc_8 _ (List.mem_of_getElem? (i := 4) rfl)) (by decide +kernel)
theorem kw_8_30 : (Jvm.Cond.constantLong "ExactdoublesModel" (271 : Nat) (7794 : Int64)) ∈ ky_B := ky_mem (kc_8 _ (List.mem_of_getElem? (i := 30) rfl)) (by decide +kernel)
theorem kw_8_35 : (Jvm.Cond.methodLink "ExactdoublesModel" (273 : Nat) ({ cls := "ExactdoublesModel", name := "add", desc := "(JLjava/lang/String;)J" } : Jvm.MethodName)) ∈ ky_B := ky_mem (kc_8 _ (List.mem_of_getElem? (i := 35) rfl)) (by decide +kernel)
theorem kw_8_36 : (Jvm.Cond.static ({ cls := "ExactdoublesModel", name := "add", desc := "(JLjava/lang/String;)J" } : Jvm.MethodName)) ∈ ky_B := ky_mem (kc_8 _ (List.mem_of_getElem? (i := 36) rfl)) (by decide +kernel)
theorem kw_8_37 : (Jvm.Cond.code ({ cls := "ExactdoublesModel", name := "add", desc := "(JLjava/lang/String;)J" } : Jvm.MethodName) prog_10_method_79_code (3 : Nat) (Option.some Jvm.ClassFile.FieldType.long)) ∈ ky_B := ky_mem (kc_8 _ (List.mem_of_getElem? (i := 37) rfl)) (by decide +kernel)
theorem kI_X8_61 : ky_wI "ExactdoublesModel$Its" 61 my_J4_init_da8c8 prog_23_method_1_code 1 0 := ⟨kw_7_56, kw_1_47, kw_1_4, kw_1_48, rfl, by decide, by decide, by decide +kernel⟩
theorem kv_X8_62 : ky_wV "ExactdoublesModel$Its" 62 my_J4_append_15ec4 prog_23_method_7_code 2 (Option.some (Jvm.ClassFile.FieldType.object "java/lang/StringBuilder")) 1 := ⟨kw_7_57, kw_1_163, kw_1_164, kw_1_4, kw_1_165, by decide, by decide, by decide +kernel⟩
theorem kv_X8_70 : ky_wV "ExactdoublesModel$Its" 70 my_J4_toString_0e30d prog_23_method_42_code 1 (Option.some (Jvm.ClassFile.FieldType.object "java/lang/String")) 0 := ⟨kw_7_60, kw_2_68, kw_2_69, kw_1_4, kw_2_70, by decide, by decide, by decide +kernel⟩
theorem kv_X8_76 : ky_wV "ExactdoublesModel$Its" 76 my_J4_append_f7089 prog_23_method_16_code 3 (Option.some (Jvm.ClassFile.FieldType.object "java/lang/StringBuilder")) 1 := ⟨kw_7_61, kw_7_62, kw_7_63, kw_1_4, kw_7_64, by decide, by decide, by decide +kernel⟩
theorem kv_X8_81 : ky_wV "ExactdoublesModel$Its" 81 my_J4_append_bf812 prog_23_method_15_code 2 (Option.some (Jvm.ClassFile.FieldType.object "java/lang/StringBuilder")) 1 := ⟨kw_7_89, kw_2_43, kw_2_44, kw_1_4, kw_2_45, by decide, by decide, by decide +kernel⟩
theorem kI_X9_187 : ky_wI "ExactdoublesModel" 187 my_J4_init_da8c8 prog_23_method_1_code 1 0 := ⟨kw_7_117, kw_1_47, kw_1_4, kw_1_48, rfl, by decide, by decide, by decide +kernel⟩
theorem kv_X9_188 : ky_wV "ExactdoublesModel" 188 my_J4_append_15ec4 prog_23_method_7_code 2 (Option.some (Jvm.ClassFile.FieldType.object "java/lang/StringBuilder")) 1 := ⟨kw_7_118, kw_1_163, kw_1_164, kw_1_4, kw_1_165, by decide, by decide, by decide +kernel⟩
theorem kv_X9_192 : ky_wV "ExactdoublesModel" 192 my_J4_append_f7089 prog_23_method_16_code 3 (Option.some (Jvm.ClassFile.FieldType.object "java/lang/StringBuilder")) 1 := ⟨kw_7_119, kw_7_62, kw_7_63, kw_1_4, kw_7_64, by decide, by decide, by decide +kernel⟩
theorem kv_X9_195 : ky_wV "ExactdoublesModel" 195 my_J4_toString_0e30d prog_23_method_42_code 1 (Option.some (Jvm.ClassFile.FieldType.object "java/lang/String")) 0 := ⟨kw_7_120, kw_2_68, kw_2_69, kw_1_4, kw_2_70, by decide, by decide, by decide +kernel⟩
theorem kv_X9_263 : ky_wV "ExactdoublesModel" 263 my_J0_length_8abf5 prog_22_method_54_code 1 (Option.some Jvm.ClassFile.FieldType.int) 0 := ⟨kw_8_38, kw_2_0, kw_2_1, kw_1_5, kw_2_2, by decide, by decide, by decide +kernel⟩
theorem ks_X9_268 : ky_wS "ExactdoublesModel" 268 my_X9_add prog_10_method_78_code 4 (Option.some Jvm.ClassFile.FieldType.long) 2 := ⟨kw_8_31, kw_8_32, kw_1_8, kw_8_33, by decide, by decide, by decide +kernel⟩
theorem kv_X9_173 : ky_wV "ExactdoublesModel" 173 my_X8_text prog_11_method_15_code 5 (Option.some (Jvm.ClassFile.FieldType.object "java/lang/String")) 0 := ⟨kw_7_49, kw_7_50, kw_7_51, kw_1_9, kw_7_52, by decide, by decide, by decide +kernel⟩
theorem kv_X9_198 : ky_wV "ExactdoublesModel" 198 my_X9_whole prog_10_method_46_code 3 (Option.some (Jvm.ClassFile.FieldType.object "java/lang/String")) 2 := ⟨kw_7_112, kw_7_114, kp_X9_whole, kw_1_8, kw_7_115, by decide, by decide, by decide +kernel⟩
theorem kv_X9_247 : ky_wV "ExactdoublesModel" 247 my_X9_takenText prog_10_method_63_code 3 (Option.some (Jvm.ClassFile.FieldType.object "java/lang/String")) 2 := ⟨kw_7_209, kw_7_211, kp_X9_takenText, kw_1_8, kw_7_212, by decide, by decide, by decide +kernel⟩
theorem kv_X9_251 : ky_wV "ExactdoublesModel" 251 my_X9_end prog_10_method_71_code 7 (Option.some (Jvm.ClassFile.FieldType.object "java/lang/String")) 1 := ⟨kw_8_1, kw_8_3, kp_X9_end, kw_1_8, kw_8_4, by decide, by decide, by decide +kernel⟩
theorem ks_X9_273 : ky_wS "ExactdoublesModel" 273 my_X9_add_ prog_10_method_79_code 3 (Option.some Jvm.ClassFile.FieldType.long) 2 := ⟨kw_8_35, kw_8_36, kw_1_8, kw_8_37, by decide, by decide, by decide +kernel⟩
def dl_X8_text_0 : List (ByteArray × Nat × Jvm.ClassFile.Instr × Nat) := [(prog_11_method_15_code, 0, .aload_n 0, 1), (prog_11_method_15_code, 1, .getfield 9, 3), (prog_11_method_15_code, 4, .ifCond .ne 8, 3), (prog_11_method_15_code, 12, .ldc 57, 2), (prog_11_method_15_code, 14, .astore_n 1, 1), (prog_11_method_15_code, 15, .aload_n 0, 1), (prog_11_method_15_code, 16, .getfield 15, 3), (prog_11_method_15_code, 19, .lconst 0, 1), (prog_11_method_15_code, 20, .lcmp, 1), (prog_11_method_15_code, 21, .ifCond .eq 10, 3), (prog_11_method_15_code, 31, .new 59, 3), (prog_11_method_15_code, 34, .dup, 1), (prog_11_method_15_code, 35, .invokespecial 61, 3), (prog_11_method_15_code, 38, .aload_n 1, 1), (prog_11_method_15_code, 39, .invokevirtual 62, 3), (prog_11_method_15_code, 42, .aload_n 0, 1), (prog_11_method_15_code, 43, .getfield 15, 3), (prog_11_method_15_code, 46, .lconst 0, 1), (prog_11_method_15_code, 47, .lcmp, 1), (prog_11_method_15_code, 48, .ifCond .ne 8, 3), (prog_11_method_15_code, 51, .ldc 66, 2), (prog_11_method_15_code, 53, .goto 5, 3), (prog_11_method_15_code, 58, .invokevirtual 62, 3), (prog_11_method_15_code, 61, .invokevirtual 70, 3), (prog_11_method_15_code, 64, .areturn, 1), (prog_11_method_15_code, 24, .aload_n 0, 1), (prog_11_method_15_code, 25, .invokevirtual 45, 3), (prog_11_method_15_code, 28, .ifCond .eq 37, 3), (prog_11_method_15_code, 65, .aload_n 0, 1), (prog_11_method_15_code, 66, .invokevirtual 39, 3), (prog_11_method_15_code, 69, .lstore_n 2, 1), (prog_11_method_15_code, 70, .aload_n 0, 1), (prog_11_method_15_code, 71, .invokevirtual 36, 3), (prog_11_method_15_code, 74, .istore 4, 2), (prog_11_method_15_code, 76, .lload_n 2, 1), (prog_11_method_15_code, 77, .ldc2_w 74, 3), (prog_11_method_15_code, 80, .lrem, 1), (prog_11_method_15_code, 81, .lconst 0, 1), (prog_11_method_15_code, 82, .lcmp, 1), (prog_11_method_15_code, 83, .ifCond .ne 15, 3), (prog_11_method_15_code, 98, .new 59, 3), (prog_11_method_15_code, 101, .dup, 1), (prog_11_method_15_code, 102, .invokespecial 61, 3), (prog_11_method_15_code, 105, .aload_n 1, 1), (prog_11_method_15_code, 106, .invokevirtual 62, 3), (prog_11_method_15_code, 109, .lload_n 2, 1), (prog_11_method_15_code, 110, .invokevirtual 76, 3), (prog_11_method_15_code, 113, .ldc 79, 2), (prog_11_method_15_code, 115, .invokevirtual 62, 3), (prog_11_method_15_code, 118, .iload 4, 2), (prog_11_method_15_code, 120, .invokevirtual 81, 3), (prog_11_method_15_code, 123, .invokevirtual 70, 3), (prog_11_method_15_code, 126, .areturn, 1), (prog_11_method_15_code, 86, .lload_n 2, 1), (prog_11_method_15_code, 87, .ldc2_w 74, 3), (prog_11_method_15_code, 90, .ldiv, 1), (prog_11_method_15_code, 91, .lstore_n 2, 1), (prog_11_method_15_code, 92, .iinc 4 1, 3), (prog_11_method_15_code, 95, .goto (-19), 3), (prog_11_method_15_code, 56, .ldc 68, 2)]
theorem db_X8_text_0 : dl_X8_text_0.all (fun x => decide (decode x.1 x.2.1 = .ok x.2.2)) = true := by decide +kernel
theorem dc_X8_text_0 : decode prog_11_method_15_code 0 = .ok (.aload_n 0, 1) := ky_dc db_X8_text_0 0 rfl
theorem dc_X8_text_1 : decode prog_11_method_15_code 1 = .ok (.getfield 9, 3) := ky_dc db_X8_text_0 1 rfl
theorem dc_X8_text_4 : decode prog_11_method_15_code 4 = .ok (.ifCond .ne 8, 3) := ky_dc db_X8_text_0 2 rfl
theorem dc_X8_text_12 : decode prog_11_method_15_code 12 = .ok (.ldc 57, 2) := ky_dc db_X8_text_0 3 rfl
theorem dc_X8_text_14 : decode prog_11_method_15_code 14 = .ok (.astore_n 1, 1) := ky_dc db_X8_text_0 4 rfl
theorem dc_X8_text_15 : decode prog_11_method_15_code 15 = .ok (.aload_n 0, 1) := ky_dc db_X8_text_0 5 rfl
theorem dc_X8_text_16 : decode prog_11_method_15_code 16 = .ok (.getfield 15, 3) := ky_dc db_X8_text_0 6 rfl
theorem dc_X8_text_19 : decode prog_11_method_15_code 19 = .ok (.lconst 0, 1) := ky_dc db_X8_text_0 7 rfl
theorem dc_X8_text_20 : decode prog_11_method_15_code 20 = .ok (.lcmp, 1) := ky_dc db_X8_text_0 8 rfl
theorem dc_X8_text_21 : decode prog_11_method_15_code 21 = .ok (.ifCond .eq 10, 3) := ky_dc db_X8_text_0 9 rfl
theorem dc_X8_text_31 : decode prog_11_method_15_code 31 = .ok (.new 59, 3) := ky_dc db_X8_text_0 10 rfl
theorem dc_X8_text_34 : decode prog_11_method_15_code 34 = .ok (.dup, 1) := ky_dc db_X8_text_0 11 rfl
theorem dc_X8_text_35 : decode prog_11_method_15_code 35 = .ok (.invokespecial 61, 3) := ky_dc db_X8_text_0 12 rfl
theorem dc_X8_text_38 : decode prog_11_method_15_code 38 = .ok (.aload_n 1, 1) := ky_dc db_X8_text_0 13 rfl
theorem dc_X8_text_39 : decode prog_11_method_15_code 39 = .ok (.invokevirtual 62, 3) := ky_dc db_X8_text_0 14 rfl
theorem dc_X8_text_42 : decode prog_11_method_15_code 42 = .ok (.aload_n 0, 1) := ky_dc db_X8_text_0 15 rfl
theorem dc_X8_text_43 : decode prog_11_method_15_code 43 = .ok (.getfield 15, 3) := ky_dc db_X8_text_0 16 rfl
theorem dc_X8_text_46 : decode prog_11_method_15_code 46 = .ok (.lconst 0, 1) := ky_dc db_X8_text_0 17 rfl
theorem dc_X8_text_47 : decode prog_11_method_15_code 47 = .ok (.lcmp, 1) := ky_dc db_X8_text_0 18 rfl
theorem dc_X8_text_48 : decode prog_11_method_15_code 48 = .ok (.ifCond .ne 8, 3) := ky_dc db_X8_text_0 19 rfl
theorem dc_X8_text_51 : decode prog_11_method_15_code 51 = .ok (.ldc 66, 2) := ky_dc db_X8_text_0 20 rfl
theorem dc_X8_text_53 : decode prog_11_method_15_code 53 = .ok (.goto 5, 3) := ky_dc db_X8_text_0 21 rfl
theorem dc_X8_text_58 : decode prog_11_method_15_code 58 = .ok (.invokevirtual 62, 3) := ky_dc db_X8_text_0 22 rfl
theorem dc_X8_text_61 : decode prog_11_method_15_code 61 = .ok (.invokevirtual 70, 3) := ky_dc db_X8_text_0 23 rfl
theorem dc_X8_text_64 : decode prog_11_method_15_code 64 = .ok (.areturn, 1) := ky_dc db_X8_text_0 24 rfl
theorem dc_X8_text_24 : decode prog_11_method_15_code 24 = .ok (.aload_n 0, 1) := ky_dc db_X8_text_0 25 rfl
theorem dc_X8_text_25 : decode prog_11_method_15_code 25 = .ok (.invokevirtual 45, 3) := ky_dc db_X8_text_0 26 rfl
theorem dc_X8_text_28 : decode prog_11_method_15_code 28 = .ok (.ifCond .eq 37, 3) := ky_dc db_X8_text_0 27 rfl
theorem dc_X8_text_65 : decode prog_11_method_15_code 65 = .ok (.aload_n 0, 1) := ky_dc db_X8_text_0 28 rfl
theorem dc_X8_text_66 : decode prog_11_method_15_code 66 = .ok (.invokevirtual 39, 3) := ky_dc db_X8_text_0 29 rfl
theorem dc_X8_text_69 : decode prog_11_method_15_code 69 = .ok (.lstore_n 2, 1) := ky_dc db_X8_text_0 30 rfl
theorem dc_X8_text_70 : decode prog_11_method_15_code 70 = .ok (.aload_n 0, 1) := ky_dc db_X8_text_0 31 rfl
theorem dc_X8_text_71 : decode prog_11_method_15_code 71 = .ok (.invokevirtual 36, 3) := ky_dc db_X8_text_0 32 rfl
theorem dc_X8_text_74 : decode prog_11_method_15_code 74 = .ok (.istore 4, 2) := ky_dc db_X8_text_0 33 rfl
theorem dc_X8_text_76 : decode prog_11_method_15_code 76 = .ok (.lload_n 2, 1) := ky_dc db_X8_text_0 34 rfl
theorem dc_X8_text_77 : decode prog_11_method_15_code 77 = .ok (.ldc2_w 74, 3) := ky_dc db_X8_text_0 35 rfl
theorem dc_X8_text_80 : decode prog_11_method_15_code 80 = .ok (.lrem, 1) := ky_dc db_X8_text_0 36 rfl
theorem dc_X8_text_81 : decode prog_11_method_15_code 81 = .ok (.lconst 0, 1) := ky_dc db_X8_text_0 37 rfl
theorem dc_X8_text_82 : decode prog_11_method_15_code 82 = .ok (.lcmp, 1) := ky_dc db_X8_text_0 38 rfl
theorem dc_X8_text_83 : decode prog_11_method_15_code 83 = .ok (.ifCond .ne 15, 3) := ky_dc db_X8_text_0 39 rfl
theorem dc_X8_text_98 : decode prog_11_method_15_code 98 = .ok (.new 59, 3) := ky_dc db_X8_text_0 40 rfl
theorem dc_X8_text_101 : decode prog_11_method_15_code 101 = .ok (.dup, 1) := ky_dc db_X8_text_0 41 rfl
theorem dc_X8_text_102 : decode prog_11_method_15_code 102 = .ok (.invokespecial 61, 3) := ky_dc db_X8_text_0 42 rfl
theorem dc_X8_text_105 : decode prog_11_method_15_code 105 = .ok (.aload_n 1, 1) := ky_dc db_X8_text_0 43 rfl
theorem dc_X8_text_106 : decode prog_11_method_15_code 106 = .ok (.invokevirtual 62, 3) := ky_dc db_X8_text_0 44 rfl
theorem dc_X8_text_109 : decode prog_11_method_15_code 109 = .ok (.lload_n 2, 1) := ky_dc db_X8_text_0 45 rfl
theorem dc_X8_text_110 : decode prog_11_method_15_code 110 = .ok (.invokevirtual 76, 3) := ky_dc db_X8_text_0 46 rfl
theorem dc_X8_text_113 : decode prog_11_method_15_code 113 = .ok (.ldc 79, 2) := ky_dc db_X8_text_0 47 rfl
theorem dc_X8_text_115 : decode prog_11_method_15_code 115 = .ok (.invokevirtual 62, 3) := ky_dc db_X8_text_0 48 rfl
theorem dc_X8_text_118 : decode prog_11_method_15_code 118 = .ok (.iload 4, 2) := ky_dc db_X8_text_0 49 rfl
theorem dc_X8_text_120 : decode prog_11_method_15_code 120 = .ok (.invokevirtual 81, 3) := ky_dc db_X8_text_0 50 rfl
theorem dc_X8_text_123 : decode prog_11_method_15_code 123 = .ok (.invokevirtual 70, 3) := ky_dc db_X8_text_0 51 rfl
theorem dc_X8_text_126 : decode prog_11_method_15_code 126 = .ok (.areturn, 1) := ky_dc db_X8_text_0 52 rfl
theorem dc_X8_text_86 : decode prog_11_method_15_code 86 = .ok (.lload_n 2, 1) := ky_dc db_X8_text_0 53 rfl
theorem dc_X8_text_87 : decode prog_11_method_15_code 87 = .ok (.ldc2_w 74, 3) := ky_dc db_X8_text_0 54 rfl
theorem dc_X8_text_90 : decode prog_11_method_15_code 90 = .ok (.ldiv, 1) := ky_dc db_X8_text_0 55 rfl
theorem dc_X8_text_91 : decode prog_11_method_15_code 91 = .ok (.lstore_n 2, 1) := ky_dc db_X8_text_0 56 rfl
theorem dc_X8_text_92 : decode prog_11_method_15_code 92 = .ok (.iinc 4 1, 3) := ky_dc db_X8_text_0 57 rfl
theorem dc_X8_text_95 : decode prog_11_method_15_code 95 = .ok (.goto (-19), 3) := ky_dc db_X8_text_0 58 rfl
theorem dc_X8_text_56 : decode prog_11_method_15_code 56 = .ok (.ldc 68, 2) := ky_dc db_X8_text_0 59 rfl
def dl_X8_text_7 : List (ByteArray × Nat × Jvm.ClassFile.Instr × Nat) := [(prog_11_method_15_code, 7, .ldc 55, 2), (prog_11_method_15_code, 9, .goto 5, 3), (prog_10_method_46_code, 0, .new 185, 3), (prog_10_method_46_code, 3, .dup, 1), (prog_10_method_46_code, 4, .invokespecial 187, 3), (prog_10_method_46_code, 7, .ldc 171, 2), (prog_10_method_46_code, 9, .invokevirtual 188, 3), (prog_10_method_46_code, 12, .aload_n 0, 1), (prog_10_method_46_code, 13, .getfield 25, 3), (prog_10_method_46_code, 16, .iload_n 1, 1), (prog_10_method_46_code, 17, .aaload, 1), (prog_10_method_46_code, 18, .iload_n 2, 1), (prog_10_method_46_code, 19, .invokevirtual 177, 3), (prog_10_method_46_code, 22, .invokevirtual 192, 3), (prog_10_method_46_code, 25, .invokevirtual 195, 3), (prog_10_method_46_code, 28, .areturn, 1), (prog_10_method_79_code, 0, .lload_n 0, 1), (prog_10_method_79_code, 1, .aload_n 2, 1), (prog_10_method_79_code, 2, .invokevirtual 263, 3), (prog_10_method_79_code, 5, .i2l, 1), (prog_10_method_79_code, 6, .invokestatic 268, 3), (prog_10_method_79_code, 9, .lreturn, 1), (prog_10_method_42_code, 0, .aload_n 0, 1), (prog_10_method_42_code, 1, .iload_n 1, 1), (prog_10_method_42_code, 2, .invokestatic 51, 3), (prog_10_method_42_code, 5, .invokevirtual 55, 3), (prog_10_method_42_code, 8, .ifCond .eq 8, 3), (prog_10_method_42_code, 16, .aload_n 0, 1), (prog_10_method_42_code, 17, .getfield 25, 3), (prog_10_method_42_code, 20, .iload_n 1, 1), (prog_10_method_42_code, 21, .aaload, 1), (prog_10_method_42_code, 22, .invokevirtual 173, 3), (prog_10_method_42_code, 25, .areturn, 1), (prog_10_method_42_code, 11, .ldc 171, 2), (prog_10_method_42_code, 13, .goto 12, 3), (prog_10_method_47_code, 0, .aload_n 0, 1), (prog_10_method_47_code, 1, .iload_n 1, 1), (prog_10_method_47_code, 2, .invokestatic 51, 3), (prog_10_method_47_code, 5, .invokevirtual 55, 3), (prog_10_method_47_code, 8, .ifCond .eq 8, 3), (prog_10_method_47_code, 16, .aload_n 0, 1), (prog_10_method_47_code, 17, .iload_n 1, 1), (prog_10_method_47_code, 18, .iconst 0, 1), (prog_10_method_47_code, 19, .invokevirtual 198, 3), (prog_10_method_47_code, 22, .areturn, 1), (prog_10_method_47_code, 11, .ldc 171, 2), (prog_10_method_47_code, 13, .goto 9, 3), (prog_10_method_48_code, 0, .aload_n 0, 1), (prog_10_method_48_code, 1, .iload_n 1, 1), (prog_10_method_48_code, 2, .invokestatic 51, 3), (prog_10_method_48_code, 5, .invokevirtual 55, 3), (prog_10_method_48_code, 8, .ifCond .eq 8, 3), (prog_10_method_48_code, 16, .aload_n 0, 1), (prog_10_method_48_code, 17, .iload_n 1, 1), (prog_10_method_48_code, 18, .iconst 1, 1), (prog_10_method_48_code, 19, .invokevirtual 198, 3), (prog_10_method_48_code, 22, .areturn, 1), (prog_10_method_48_code, 11, .ldc 171, 2), (prog_10_method_48_code, 13, .goto 9, 3), (prog_10_method_63_code, 0, .aload_n 0, 1)]
theorem db_X8_text_7 : dl_X8_text_7.all (fun x => decide (decode x.1 x.2.1 = .ok x.2.2)) = true := by decide +kernel
theorem dc_X8_text_7 : decode prog_11_method_15_code 7 = .ok (.ldc 55, 2) := ky_dc db_X8_text_7 0 rfl
theorem dc_X8_text_9 : decode prog_11_method_15_code 9 = .ok (.goto 5, 3) := ky_dc db_X8_text_7 1 rfl
theorem dc_X9_whole_0 : decode prog_10_method_46_code 0 = .ok (.new 185, 3) := ky_dc db_X8_text_7 2 rfl
theorem dc_X9_whole_3 : decode prog_10_method_46_code 3 = .ok (.dup, 1) := ky_dc db_X8_text_7 3 rfl
theorem dc_X9_whole_4 : decode prog_10_method_46_code 4 = .ok (.invokespecial 187, 3) := ky_dc db_X8_text_7 4 rfl
theorem dc_X9_whole_7 : decode prog_10_method_46_code 7 = .ok (.ldc 171, 2) := ky_dc db_X8_text_7 5 rfl
theorem dc_X9_whole_9 : decode prog_10_method_46_code 9 = .ok (.invokevirtual 188, 3) := ky_dc db_X8_text_7 6 rfl
theorem dc_X9_whole_12 : decode prog_10_method_46_code 12 = .ok (.aload_n 0, 1) := ky_dc db_X8_text_7 7 rfl
theorem dc_X9_whole_13 : decode prog_10_method_46_code 13 = .ok (.getfield 25, 3) := ky_dc db_X8_text_7 8 rfl
theorem dc_X9_whole_16 : decode prog_10_method_46_code 16 = .ok (.iload_n 1, 1) := ky_dc db_X8_text_7 9 rfl
theorem dc_X9_whole_17 : decode prog_10_method_46_code 17 = .ok (.aaload, 1) := ky_dc db_X8_text_7 10 rfl
theorem dc_X9_whole_18 : decode prog_10_method_46_code 18 = .ok (.iload_n 2, 1) := ky_dc db_X8_text_7 11 rfl
theorem dc_X9_whole_19 : decode prog_10_method_46_code 19 = .ok (.invokevirtual 177, 3) := ky_dc db_X8_text_7 12 rfl
theorem dc_X9_whole_22 : decode prog_10_method_46_code 22 = .ok (.invokevirtual 192, 3) := ky_dc db_X8_text_7 13 rfl
theorem dc_X9_whole_25 : decode prog_10_method_46_code 25 = .ok (.invokevirtual 195, 3) := ky_dc db_X8_text_7 14 rfl
theorem dc_X9_whole_28 : decode prog_10_method_46_code 28 = .ok (.areturn, 1) := ky_dc db_X8_text_7 15 rfl
theorem dc_X9_add__0 : decode prog_10_method_79_code 0 = .ok (.lload_n 0, 1) := ky_dc db_X8_text_7 16 rfl
theorem dc_X9_add__1 : decode prog_10_method_79_code 1 = .ok (.aload_n 2, 1) := ky_dc db_X8_text_7 17 rfl
theorem dc_X9_add__2 : decode prog_10_method_79_code 2 = .ok (.invokevirtual 263, 3) := ky_dc db_X8_text_7 18 rfl
theorem dc_X9_add__5 : decode prog_10_method_79_code 5 = .ok (.i2l, 1) := ky_dc db_X8_text_7 19 rfl
theorem dc_X9_add__6 : decode prog_10_method_79_code 6 = .ok (.invokestatic 268, 3) := ky_dc db_X8_text_7 20 rfl
theorem dc_X9_add__9 : decode prog_10_method_79_code 9 = .ok (.lreturn, 1) := ky_dc db_X8_text_7 21 rfl
theorem dc_X9_text_0 : decode prog_10_method_42_code 0 = .ok (.aload_n 0, 1) := ky_dc db_X8_text_7 22 rfl
theorem dc_X9_text_1 : decode prog_10_method_42_code 1 = .ok (.iload_n 1, 1) := ky_dc db_X8_text_7 23 rfl
theorem dc_X9_text_2 : decode prog_10_method_42_code 2 = .ok (.invokestatic 51, 3) := ky_dc db_X8_text_7 24 rfl
theorem dc_X9_text_5 : decode prog_10_method_42_code 5 = .ok (.invokevirtual 55, 3) := ky_dc db_X8_text_7 25 rfl
theorem dc_X9_text_8 : decode prog_10_method_42_code 8 = .ok (.ifCond .eq 8, 3) := ky_dc db_X8_text_7 26 rfl
theorem dc_X9_text_16 : decode prog_10_method_42_code 16 = .ok (.aload_n 0, 1) := ky_dc db_X8_text_7 27 rfl
theorem dc_X9_text_17 : decode prog_10_method_42_code 17 = .ok (.getfield 25, 3) := ky_dc db_X8_text_7 28 rfl
theorem dc_X9_text_20 : decode prog_10_method_42_code 20 = .ok (.iload_n 1, 1) := ky_dc db_X8_text_7 29 rfl
theorem dc_X9_text_21 : decode prog_10_method_42_code 21 = .ok (.aaload, 1) := ky_dc db_X8_text_7 30 rfl
theorem dc_X9_text_22 : decode prog_10_method_42_code 22 = .ok (.invokevirtual 173, 3) := ky_dc db_X8_text_7 31 rfl
theorem dc_X9_text_25 : decode prog_10_method_42_code 25 = .ok (.areturn, 1) := ky_dc db_X8_text_7 32 rfl
theorem dc_X9_text_11 : decode prog_10_method_42_code 11 = .ok (.ldc 171, 2) := ky_dc db_X8_text_7 33 rfl
theorem dc_X9_text_13 : decode prog_10_method_42_code 13 = .ok (.goto 12, 3) := ky_dc db_X8_text_7 34 rfl
theorem dc_X9_rounded_0 : decode prog_10_method_47_code 0 = .ok (.aload_n 0, 1) := ky_dc db_X8_text_7 35 rfl
theorem dc_X9_rounded_1 : decode prog_10_method_47_code 1 = .ok (.iload_n 1, 1) := ky_dc db_X8_text_7 36 rfl
theorem dc_X9_rounded_2 : decode prog_10_method_47_code 2 = .ok (.invokestatic 51, 3) := ky_dc db_X8_text_7 37 rfl
theorem dc_X9_rounded_5 : decode prog_10_method_47_code 5 = .ok (.invokevirtual 55, 3) := ky_dc db_X8_text_7 38 rfl
theorem dc_X9_rounded_8 : decode prog_10_method_47_code 8 = .ok (.ifCond .eq 8, 3) := ky_dc db_X8_text_7 39 rfl
theorem dc_X9_rounded_16 : decode prog_10_method_47_code 16 = .ok (.aload_n 0, 1) := ky_dc db_X8_text_7 40 rfl
theorem dc_X9_rounded_17 : decode prog_10_method_47_code 17 = .ok (.iload_n 1, 1) := ky_dc db_X8_text_7 41 rfl
theorem dc_X9_rounded_18 : decode prog_10_method_47_code 18 = .ok (.iconst 0, 1) := ky_dc db_X8_text_7 42 rfl
theorem dc_X9_rounded_19 : decode prog_10_method_47_code 19 = .ok (.invokevirtual 198, 3) := ky_dc db_X8_text_7 43 rfl
theorem dc_X9_rounded_22 : decode prog_10_method_47_code 22 = .ok (.areturn, 1) := ky_dc db_X8_text_7 44 rfl
theorem dc_X9_rounded_11 : decode prog_10_method_47_code 11 = .ok (.ldc 171, 2) := ky_dc db_X8_text_7 45 rfl
theorem dc_X9_rounded_13 : decode prog_10_method_47_code 13 = .ok (.goto 9, 3) := ky_dc db_X8_text_7 46 rfl
theorem dc_X9_cut_0 : decode prog_10_method_48_code 0 = .ok (.aload_n 0, 1) := ky_dc db_X8_text_7 47 rfl
theorem dc_X9_cut_1 : decode prog_10_method_48_code 1 = .ok (.iload_n 1, 1) := ky_dc db_X8_text_7 48 rfl
theorem dc_X9_cut_2 : decode prog_10_method_48_code 2 = .ok (.invokestatic 51, 3) := ky_dc db_X8_text_7 49 rfl
theorem dc_X9_cut_5 : decode prog_10_method_48_code 5 = .ok (.invokevirtual 55, 3) := ky_dc db_X8_text_7 50 rfl
theorem dc_X9_cut_8 : decode prog_10_method_48_code 8 = .ok (.ifCond .eq 8, 3) := ky_dc db_X8_text_7 51 rfl
theorem dc_X9_cut_16 : decode prog_10_method_48_code 16 = .ok (.aload_n 0, 1) := ky_dc db_X8_text_7 52 rfl
theorem dc_X9_cut_17 : decode prog_10_method_48_code 17 = .ok (.iload_n 1, 1) := ky_dc db_X8_text_7 53 rfl
theorem dc_X9_cut_18 : decode prog_10_method_48_code 18 = .ok (.iconst 1, 1) := ky_dc db_X8_text_7 54 rfl
theorem dc_X9_cut_19 : decode prog_10_method_48_code 19 = .ok (.invokevirtual 198, 3) := ky_dc db_X8_text_7 55 rfl
theorem dc_X9_cut_22 : decode prog_10_method_48_code 22 = .ok (.areturn, 1) := ky_dc db_X8_text_7 56 rfl
theorem dc_X9_cut_11 : decode prog_10_method_48_code 11 = .ok (.ldc 171, 2) := ky_dc db_X8_text_7 57 rfl
theorem dc_X9_cut_13 : decode prog_10_method_48_code 13 = .ok (.goto 9, 3) := ky_dc db_X8_text_7 58 rfl
theorem dc_X9_takenText_0 : decode prog_10_method_63_code 0 = .ok (.aload_n 0, 1) := ky_dc db_X8_text_7 59 rfl
def dl_X9_takenText_1 : List (ByteArray × Nat × Jvm.ClassFile.Instr × Nat) := [(prog_10_method_63_code, 1, .iload_n 1, 1), (prog_10_method_63_code, 2, .invokestatic 51, 3), (prog_10_method_63_code, 5, .invokevirtual 55, 3), (prog_10_method_63_code, 8, .ifCond .eq 8, 3), (prog_10_method_63_code, 16, .aload_n 0, 1), (prog_10_method_63_code, 17, .getfield 25, 3), (prog_10_method_63_code, 20, .iload_n 1, 1), (prog_10_method_63_code, 21, .aaload, 1), (prog_10_method_63_code, 22, .iload_n 2, 1), (prog_10_method_63_code, 23, .invokevirtual 108, 3), (prog_10_method_63_code, 26, .invokevirtual 173, 3), (prog_10_method_63_code, 29, .areturn, 1), (prog_10_method_63_code, 11, .ldc 171, 2), (prog_10_method_63_code, 13, .goto 16, 3), (prog_10_method_64_code, 0, .aload_n 0, 1), (prog_10_method_64_code, 1, .iload_n 1, 1), (prog_10_method_64_code, 2, .iconst 0, 1), (prog_10_method_64_code, 3, .invokevirtual 247, 3), (prog_10_method_64_code, 6, .areturn, 1), (prog_10_method_65_code, 0, .aload_n 0, 1), (prog_10_method_65_code, 1, .iload_n 1, 1), (prog_10_method_65_code, 2, .iconst 1, 1), (prog_10_method_65_code, 3, .invokevirtual 247, 3), (prog_10_method_65_code, 6, .areturn, 1), (prog_10_method_66_code, 0, .aload_n 0, 1), (prog_10_method_66_code, 1, .iload_n 1, 1), (prog_10_method_66_code, 2, .iconst 2, 1), (prog_10_method_66_code, 3, .invokevirtual 247, 3), (prog_10_method_66_code, 6, .areturn, 1), (prog_10_method_67_code, 0, .aload_n 0, 1), (prog_10_method_67_code, 1, .iload_n 1, 1), (prog_10_method_67_code, 2, .invokestatic 51, 3), (prog_10_method_67_code, 5, .invokevirtual 55, 3), (prog_10_method_67_code, 8, .ifCond .eq 8, 3), (prog_10_method_67_code, 16, .aload_n 0, 1), (prog_10_method_67_code, 17, .getfield 25, 3), (prog_10_method_67_code, 20, .iload_n 1, 1), (prog_10_method_67_code, 21, .aaload, 1), (prog_10_method_67_code, 22, .invokevirtual 134, 3), (prog_10_method_67_code, 25, .invokevirtual 173, 3), (prog_10_method_67_code, 28, .areturn, 1), (prog_10_method_67_code, 11, .ldc 171, 2), (prog_10_method_67_code, 13, .goto 15, 3), (prog_10_method_68_code, 0, .aload_n 0, 1), (prog_10_method_68_code, 1, .iload_n 1, 1), (prog_10_method_68_code, 2, .invokestatic 51, 3), (prog_10_method_68_code, 5, .invokevirtual 55, 3), (prog_10_method_68_code, 8, .ifCond .eq 8, 3), (prog_10_method_68_code, 16, .aload_n 0, 1), (prog_10_method_68_code, 17, .getfield 25, 3), (prog_10_method_68_code, 20, .iload_n 1, 1), (prog_10_method_68_code, 21, .aaload, 1), (prog_10_method_68_code, 22, .iload_n 2, 1), (prog_10_method_68_code, 23, .invokevirtual 130, 3), (prog_10_method_68_code, 26, .invokevirtual 173, 3), (prog_10_method_68_code, 29, .areturn, 1), (prog_10_method_68_code, 11, .ldc 171, 2), (prog_10_method_68_code, 13, .goto 16, 3), (prog_10_method_69_code, 0, .aload_n 0, 1), (prog_10_method_69_code, 1, .iload_n 1, 1)]
theorem db_X9_takenText_1 : dl_X9_takenText_1.all (fun x => decide (decode x.1 x.2.1 = .ok x.2.2)) = true := by decide +kernel
theorem dc_X9_takenText_1 : decode prog_10_method_63_code 1 = .ok (.iload_n 1, 1) := ky_dc db_X9_takenText_1 0 rfl
theorem dc_X9_takenText_2 : decode prog_10_method_63_code 2 = .ok (.invokestatic 51, 3) := ky_dc db_X9_takenText_1 1 rfl
theorem dc_X9_takenText_5 : decode prog_10_method_63_code 5 = .ok (.invokevirtual 55, 3) := ky_dc db_X9_takenText_1 2 rfl
theorem dc_X9_takenText_8 : decode prog_10_method_63_code 8 = .ok (.ifCond .eq 8, 3) := ky_dc db_X9_takenText_1 3 rfl
theorem dc_X9_takenText_16 : decode prog_10_method_63_code 16 = .ok (.aload_n 0, 1) := ky_dc db_X9_takenText_1 4 rfl
theorem dc_X9_takenText_17 : decode prog_10_method_63_code 17 = .ok (.getfield 25, 3) := ky_dc db_X9_takenText_1 5 rfl
theorem dc_X9_takenText_20 : decode prog_10_method_63_code 20 = .ok (.iload_n 1, 1) := ky_dc db_X9_takenText_1 6 rfl
theorem dc_X9_takenText_21 : decode prog_10_method_63_code 21 = .ok (.aaload, 1) := ky_dc db_X9_takenText_1 7 rfl
theorem dc_X9_takenText_22 : decode prog_10_method_63_code 22 = .ok (.iload_n 2, 1) := ky_dc db_X9_takenText_1 8 rfl
theorem dc_X9_takenText_23 : decode prog_10_method_63_code 23 = .ok (.invokevirtual 108, 3) := ky_dc db_X9_takenText_1 9 rfl
theorem dc_X9_takenText_26 : decode prog_10_method_63_code 26 = .ok (.invokevirtual 173, 3) := ky_dc db_X9_takenText_1 10 rfl
theorem dc_X9_takenText_29 : decode prog_10_method_63_code 29 = .ok (.areturn, 1) := ky_dc db_X9_takenText_1 11 rfl
theorem dc_X9_takenText_11 : decode prog_10_method_63_code 11 = .ok (.ldc 171, 2) := ky_dc db_X9_takenText_1 12 rfl
theorem dc_X9_takenText_13 : decode prog_10_method_63_code 13 = .ok (.goto 16, 3) := ky_dc db_X9_takenText_1 13 rfl
theorem dc_X9_floorOf_0 : decode prog_10_method_64_code 0 = .ok (.aload_n 0, 1) := ky_dc db_X9_takenText_1 14 rfl
theorem dc_X9_floorOf_1 : decode prog_10_method_64_code 1 = .ok (.iload_n 1, 1) := ky_dc db_X9_takenText_1 15 rfl
theorem dc_X9_floorOf_2 : decode prog_10_method_64_code 2 = .ok (.iconst 0, 1) := ky_dc db_X9_takenText_1 16 rfl
theorem dc_X9_floorOf_3 : decode prog_10_method_64_code 3 = .ok (.invokevirtual 247, 3) := ky_dc db_X9_takenText_1 17 rfl
theorem dc_X9_floorOf_6 : decode prog_10_method_64_code 6 = .ok (.areturn, 1) := ky_dc db_X9_takenText_1 18 rfl
theorem dc_X9_ceilOf_0 : decode prog_10_method_65_code 0 = .ok (.aload_n 0, 1) := ky_dc db_X9_takenText_1 19 rfl
theorem dc_X9_ceilOf_1 : decode prog_10_method_65_code 1 = .ok (.iload_n 1, 1) := ky_dc db_X9_takenText_1 20 rfl
theorem dc_X9_ceilOf_2 : decode prog_10_method_65_code 2 = .ok (.iconst 1, 1) := ky_dc db_X9_takenText_1 21 rfl
theorem dc_X9_ceilOf_3 : decode prog_10_method_65_code 3 = .ok (.invokevirtual 247, 3) := ky_dc db_X9_takenText_1 22 rfl
theorem dc_X9_ceilOf_6 : decode prog_10_method_65_code 6 = .ok (.areturn, 1) := ky_dc db_X9_takenText_1 23 rfl
theorem dc_X9_rintOf_0 : decode prog_10_method_66_code 0 = .ok (.aload_n 0, 1) := ky_dc db_X9_takenText_1 24 rfl
theorem dc_X9_rintOf_1 : decode prog_10_method_66_code 1 = .ok (.iload_n 1, 1) := ky_dc db_X9_takenText_1 25 rfl
theorem dc_X9_rintOf_2 : decode prog_10_method_66_code 2 = .ok (.iconst 2, 1) := ky_dc db_X9_takenText_1 26 rfl
theorem dc_X9_rintOf_3 : decode prog_10_method_66_code 3 = .ok (.invokevirtual 247, 3) := ky_dc db_X9_takenText_1 27 rfl
theorem dc_X9_rintOf_6 : decode prog_10_method_66_code 6 = .ok (.areturn, 1) := ky_dc db_X9_takenText_1 28 rfl
theorem dc_X9_stepOf_0 : decode prog_10_method_67_code 0 = .ok (.aload_n 0, 1) := ky_dc db_X9_takenText_1 29 rfl
theorem dc_X9_stepOf_1 : decode prog_10_method_67_code 1 = .ok (.iload_n 1, 1) := ky_dc db_X9_takenText_1 30 rfl
theorem dc_X9_stepOf_2 : decode prog_10_method_67_code 2 = .ok (.invokestatic 51, 3) := ky_dc db_X9_takenText_1 31 rfl
theorem dc_X9_stepOf_5 : decode prog_10_method_67_code 5 = .ok (.invokevirtual 55, 3) := ky_dc db_X9_takenText_1 32 rfl
theorem dc_X9_stepOf_8 : decode prog_10_method_67_code 8 = .ok (.ifCond .eq 8, 3) := ky_dc db_X9_takenText_1 33 rfl
theorem dc_X9_stepOf_16 : decode prog_10_method_67_code 16 = .ok (.aload_n 0, 1) := ky_dc db_X9_takenText_1 34 rfl
theorem dc_X9_stepOf_17 : decode prog_10_method_67_code 17 = .ok (.getfield 25, 3) := ky_dc db_X9_takenText_1 35 rfl
theorem dc_X9_stepOf_20 : decode prog_10_method_67_code 20 = .ok (.iload_n 1, 1) := ky_dc db_X9_takenText_1 36 rfl
theorem dc_X9_stepOf_21 : decode prog_10_method_67_code 21 = .ok (.aaload, 1) := ky_dc db_X9_takenText_1 37 rfl
theorem dc_X9_stepOf_22 : decode prog_10_method_67_code 22 = .ok (.invokevirtual 134, 3) := ky_dc db_X9_takenText_1 38 rfl
theorem dc_X9_stepOf_25 : decode prog_10_method_67_code 25 = .ok (.invokevirtual 173, 3) := ky_dc db_X9_takenText_1 39 rfl
theorem dc_X9_stepOf_28 : decode prog_10_method_67_code 28 = .ok (.areturn, 1) := ky_dc db_X9_takenText_1 40 rfl
theorem dc_X9_stepOf_11 : decode prog_10_method_67_code 11 = .ok (.ldc 171, 2) := ky_dc db_X9_takenText_1 41 rfl
theorem dc_X9_stepOf_13 : decode prog_10_method_67_code 13 = .ok (.goto 15, 3) := ky_dc db_X9_takenText_1 42 rfl
theorem dc_X9_nextOf_0 : decode prog_10_method_68_code 0 = .ok (.aload_n 0, 1) := ky_dc db_X9_takenText_1 43 rfl
theorem dc_X9_nextOf_1 : decode prog_10_method_68_code 1 = .ok (.iload_n 1, 1) := ky_dc db_X9_takenText_1 44 rfl
theorem dc_X9_nextOf_2 : decode prog_10_method_68_code 2 = .ok (.invokestatic 51, 3) := ky_dc db_X9_takenText_1 45 rfl
theorem dc_X9_nextOf_5 : decode prog_10_method_68_code 5 = .ok (.invokevirtual 55, 3) := ky_dc db_X9_takenText_1 46 rfl
theorem dc_X9_nextOf_8 : decode prog_10_method_68_code 8 = .ok (.ifCond .eq 8, 3) := ky_dc db_X9_takenText_1 47 rfl
theorem dc_X9_nextOf_16 : decode prog_10_method_68_code 16 = .ok (.aload_n 0, 1) := ky_dc db_X9_takenText_1 48 rfl
theorem dc_X9_nextOf_17 : decode prog_10_method_68_code 17 = .ok (.getfield 25, 3) := ky_dc db_X9_takenText_1 49 rfl
theorem dc_X9_nextOf_20 : decode prog_10_method_68_code 20 = .ok (.iload_n 1, 1) := ky_dc db_X9_takenText_1 50 rfl
theorem dc_X9_nextOf_21 : decode prog_10_method_68_code 21 = .ok (.aaload, 1) := ky_dc db_X9_takenText_1 51 rfl
theorem dc_X9_nextOf_22 : decode prog_10_method_68_code 22 = .ok (.iload_n 2, 1) := ky_dc db_X9_takenText_1 52 rfl
theorem dc_X9_nextOf_23 : decode prog_10_method_68_code 23 = .ok (.invokevirtual 130, 3) := ky_dc db_X9_takenText_1 53 rfl
theorem dc_X9_nextOf_26 : decode prog_10_method_68_code 26 = .ok (.invokevirtual 173, 3) := ky_dc db_X9_takenText_1 54 rfl
theorem dc_X9_nextOf_29 : decode prog_10_method_68_code 29 = .ok (.areturn, 1) := ky_dc db_X9_takenText_1 55 rfl
theorem dc_X9_nextOf_11 : decode prog_10_method_68_code 11 = .ok (.ldc 171, 2) := ky_dc db_X9_takenText_1 56 rfl
theorem dc_X9_nextOf_13 : decode prog_10_method_68_code 13 = .ok (.goto 16, 3) := ky_dc db_X9_takenText_1 57 rfl
theorem dc_X9_timesOf_0 : decode prog_10_method_69_code 0 = .ok (.aload_n 0, 1) := ky_dc db_X9_takenText_1 58 rfl
theorem dc_X9_timesOf_1 : decode prog_10_method_69_code 1 = .ok (.iload_n 1, 1) := ky_dc db_X9_takenText_1 59 rfl
def dl_X9_timesOf_2 : List (ByteArray × Nat × Jvm.ClassFile.Instr × Nat) := [(prog_10_method_69_code, 2, .invokestatic 51, 3), (prog_10_method_69_code, 5, .invokevirtual 55, 3), (prog_10_method_69_code, 8, .ifCond .eq 8, 3), (prog_10_method_69_code, 16, .aload_n 0, 1), (prog_10_method_69_code, 17, .getfield 25, 3), (prog_10_method_69_code, 20, .iload_n 1, 1), (prog_10_method_69_code, 21, .aaload, 1), (prog_10_method_69_code, 22, .iload_n 2, 1), (prog_10_method_69_code, 23, .i2l, 1), (prog_10_method_69_code, 24, .invokevirtual 140, 3), (prog_10_method_69_code, 27, .invokevirtual 173, 3), (prog_10_method_69_code, 30, .areturn, 1), (prog_10_method_69_code, 11, .ldc 171, 2), (prog_10_method_69_code, 13, .goto 17, 3), (prog_10_method_71_code, 0, .aload_n 0, 1), (prog_10_method_71_code, 1, .getfield 25, 3), (prog_10_method_71_code, 4, .iconst 0, 1), (prog_10_method_71_code, 5, .aaload, 1), (prog_10_method_71_code, 6, .astore_n 2, 1), (prog_10_method_71_code, 7, .aload_n 0, 1), (prog_10_method_71_code, 8, .getfield 25, 3), (prog_10_method_71_code, 11, .astore_n 3, 1), (prog_10_method_71_code, 12, .aload_n 3, 1), (prog_10_method_71_code, 13, .arraylength, 1), (prog_10_method_71_code, 14, .istore 4, 2), (prog_10_method_71_code, 16, .iconst 0, 1), (prog_10_method_71_code, 17, .istore 5, 2), (prog_10_method_71_code, 19, .iload 5, 2), (prog_10_method_71_code, 21, .iload 4, 2), (prog_10_method_71_code, 23, .if_icmp .ge 44, 3), (prog_10_method_71_code, 67, .aload_n 2, 1), (prog_10_method_71_code, 68, .invokevirtual 173, 3), (prog_10_method_71_code, 71, .areturn, 1), (prog_10_method_71_code, 26, .aload_n 3, 1), (prog_10_method_71_code, 27, .iload 5, 2), (prog_10_method_71_code, 29, .aaload, 1), (prog_10_method_71_code, 30, .astore 6, 2), (prog_10_method_71_code, 32, .aload 6, 2), (prog_10_method_71_code, 34, .invokevirtual 147, 3), (prog_10_method_71_code, 37, .aload_n 2, 1), (prog_10_method_71_code, 38, .invokevirtual 147, 3), (prog_10_method_71_code, 41, .lcmp, 1), (prog_10_method_71_code, 42, .ifCond .le 7, 3), (prog_10_method_71_code, 49, .iconst 0, 1), (prog_10_method_71_code, 50, .iload_n 1, 1), (prog_10_method_71_code, 51, .if_icmp .ne 8, 3), (prog_10_method_71_code, 59, .aload_n 2, 1), (prog_10_method_71_code, 60, .astore_n 2, 1), (prog_10_method_71_code, 61, .iinc 5 1, 3), (prog_10_method_71_code, 64, .goto (-45), 3), (prog_10_method_71_code, 54, .aload 6, 2), (prog_10_method_71_code, 56, .goto 4, 3), (prog_10_method_71_code, 45, .iconst 1, 1), (prog_10_method_71_code, 46, .goto 4, 3), (prog_10_method_72_code, 0, .aload_n 0, 1), (prog_10_method_72_code, 1, .iconst 0, 1), (prog_10_method_72_code, 2, .putfield 32, 3), (prog_10_method_72_code, 5, .aload_n 0, 1), (prog_10_method_72_code, 6, .iconst 1, 1), (prog_10_method_72_code, 7, .invokevirtual 251, 3)]
theorem db_X9_timesOf_2 : dl_X9_timesOf_2.all (fun x => decide (decode x.1 x.2.1 = .ok x.2.2)) = true := by decide +kernel
theorem dc_X9_timesOf_2 : decode prog_10_method_69_code 2 = .ok (.invokestatic 51, 3) := ky_dc db_X9_timesOf_2 0 rfl
theorem dc_X9_timesOf_5 : decode prog_10_method_69_code 5 = .ok (.invokevirtual 55, 3) := ky_dc db_X9_timesOf_2 1 rfl
theorem dc_X9_timesOf_8 : decode prog_10_method_69_code 8 = .ok (.ifCond .eq 8, 3) := ky_dc db_X9_timesOf_2 2 rfl
theorem dc_X9_timesOf_16 : decode prog_10_method_69_code 16 = .ok (.aload_n 0, 1) := ky_dc db_X9_timesOf_2 3 rfl
theorem dc_X9_timesOf_17 : decode prog_10_method_69_code 17 = .ok (.getfield 25, 3) := ky_dc db_X9_timesOf_2 4 rfl
theorem dc_X9_timesOf_20 : decode prog_10_method_69_code 20 = .ok (.iload_n 1, 1) := ky_dc db_X9_timesOf_2 5 rfl
theorem dc_X9_timesOf_21 : decode prog_10_method_69_code 21 = .ok (.aaload, 1) := ky_dc db_X9_timesOf_2 6 rfl
theorem dc_X9_timesOf_22 : decode prog_10_method_69_code 22 = .ok (.iload_n 2, 1) := ky_dc db_X9_timesOf_2 7 rfl
theorem dc_X9_timesOf_23 : decode prog_10_method_69_code 23 = .ok (.i2l, 1) := ky_dc db_X9_timesOf_2 8 rfl
theorem dc_X9_timesOf_24 : decode prog_10_method_69_code 24 = .ok (.invokevirtual 140, 3) := ky_dc db_X9_timesOf_2 9 rfl
theorem dc_X9_timesOf_27 : decode prog_10_method_69_code 27 = .ok (.invokevirtual 173, 3) := ky_dc db_X9_timesOf_2 10 rfl
theorem dc_X9_timesOf_30 : decode prog_10_method_69_code 30 = .ok (.areturn, 1) := ky_dc db_X9_timesOf_2 11 rfl
theorem dc_X9_timesOf_11 : decode prog_10_method_69_code 11 = .ok (.ldc 171, 2) := ky_dc db_X9_timesOf_2 12 rfl
theorem dc_X9_timesOf_13 : decode prog_10_method_69_code 13 = .ok (.goto 17, 3) := ky_dc db_X9_timesOf_2 13 rfl
theorem dc_X9_end_0 : decode prog_10_method_71_code 0 = .ok (.aload_n 0, 1) := ky_dc db_X9_timesOf_2 14 rfl
theorem dc_X9_end_1 : decode prog_10_method_71_code 1 = .ok (.getfield 25, 3) := ky_dc db_X9_timesOf_2 15 rfl
theorem dc_X9_end_4 : decode prog_10_method_71_code 4 = .ok (.iconst 0, 1) := ky_dc db_X9_timesOf_2 16 rfl
theorem dc_X9_end_5 : decode prog_10_method_71_code 5 = .ok (.aaload, 1) := ky_dc db_X9_timesOf_2 17 rfl
theorem dc_X9_end_6 : decode prog_10_method_71_code 6 = .ok (.astore_n 2, 1) := ky_dc db_X9_timesOf_2 18 rfl
theorem dc_X9_end_7 : decode prog_10_method_71_code 7 = .ok (.aload_n 0, 1) := ky_dc db_X9_timesOf_2 19 rfl
theorem dc_X9_end_8 : decode prog_10_method_71_code 8 = .ok (.getfield 25, 3) := ky_dc db_X9_timesOf_2 20 rfl
theorem dc_X9_end_11 : decode prog_10_method_71_code 11 = .ok (.astore_n 3, 1) := ky_dc db_X9_timesOf_2 21 rfl
theorem dc_X9_end_12 : decode prog_10_method_71_code 12 = .ok (.aload_n 3, 1) := ky_dc db_X9_timesOf_2 22 rfl
theorem dc_X9_end_13 : decode prog_10_method_71_code 13 = .ok (.arraylength, 1) := ky_dc db_X9_timesOf_2 23 rfl
theorem dc_X9_end_14 : decode prog_10_method_71_code 14 = .ok (.istore 4, 2) := ky_dc db_X9_timesOf_2 24 rfl
theorem dc_X9_end_16 : decode prog_10_method_71_code 16 = .ok (.iconst 0, 1) := ky_dc db_X9_timesOf_2 25 rfl
theorem dc_X9_end_17 : decode prog_10_method_71_code 17 = .ok (.istore 5, 2) := ky_dc db_X9_timesOf_2 26 rfl
theorem dc_X9_end_19 : decode prog_10_method_71_code 19 = .ok (.iload 5, 2) := ky_dc db_X9_timesOf_2 27 rfl
theorem dc_X9_end_21 : decode prog_10_method_71_code 21 = .ok (.iload 4, 2) := ky_dc db_X9_timesOf_2 28 rfl
theorem dc_X9_end_23 : decode prog_10_method_71_code 23 = .ok (.if_icmp .ge 44, 3) := ky_dc db_X9_timesOf_2 29 rfl
theorem dc_X9_end_67 : decode prog_10_method_71_code 67 = .ok (.aload_n 2, 1) := ky_dc db_X9_timesOf_2 30 rfl
theorem dc_X9_end_68 : decode prog_10_method_71_code 68 = .ok (.invokevirtual 173, 3) := ky_dc db_X9_timesOf_2 31 rfl
theorem dc_X9_end_71 : decode prog_10_method_71_code 71 = .ok (.areturn, 1) := ky_dc db_X9_timesOf_2 32 rfl
theorem dc_X9_end_26 : decode prog_10_method_71_code 26 = .ok (.aload_n 3, 1) := ky_dc db_X9_timesOf_2 33 rfl
theorem dc_X9_end_27 : decode prog_10_method_71_code 27 = .ok (.iload 5, 2) := ky_dc db_X9_timesOf_2 34 rfl
theorem dc_X9_end_29 : decode prog_10_method_71_code 29 = .ok (.aaload, 1) := ky_dc db_X9_timesOf_2 35 rfl
theorem dc_X9_end_30 : decode prog_10_method_71_code 30 = .ok (.astore 6, 2) := ky_dc db_X9_timesOf_2 36 rfl
theorem dc_X9_end_32 : decode prog_10_method_71_code 32 = .ok (.aload 6, 2) := ky_dc db_X9_timesOf_2 37 rfl
theorem dc_X9_end_34 : decode prog_10_method_71_code 34 = .ok (.invokevirtual 147, 3) := ky_dc db_X9_timesOf_2 38 rfl
theorem dc_X9_end_37 : decode prog_10_method_71_code 37 = .ok (.aload_n 2, 1) := ky_dc db_X9_timesOf_2 39 rfl
theorem dc_X9_end_38 : decode prog_10_method_71_code 38 = .ok (.invokevirtual 147, 3) := ky_dc db_X9_timesOf_2 40 rfl
theorem dc_X9_end_41 : decode prog_10_method_71_code 41 = .ok (.lcmp, 1) := ky_dc db_X9_timesOf_2 41 rfl
theorem dc_X9_end_42 : decode prog_10_method_71_code 42 = .ok (.ifCond .le 7, 3) := ky_dc db_X9_timesOf_2 42 rfl
theorem dc_X9_end_49 : decode prog_10_method_71_code 49 = .ok (.iconst 0, 1) := ky_dc db_X9_timesOf_2 43 rfl
theorem dc_X9_end_50 : decode prog_10_method_71_code 50 = .ok (.iload_n 1, 1) := ky_dc db_X9_timesOf_2 44 rfl
theorem dc_X9_end_51 : decode prog_10_method_71_code 51 = .ok (.if_icmp .ne 8, 3) := ky_dc db_X9_timesOf_2 45 rfl
theorem dc_X9_end_59 : decode prog_10_method_71_code 59 = .ok (.aload_n 2, 1) := ky_dc db_X9_timesOf_2 46 rfl
theorem dc_X9_end_60 : decode prog_10_method_71_code 60 = .ok (.astore_n 2, 1) := ky_dc db_X9_timesOf_2 47 rfl
theorem dc_X9_end_61 : decode prog_10_method_71_code 61 = .ok (.iinc 5 1, 3) := ky_dc db_X9_timesOf_2 48 rfl
theorem dc_X9_end_64 : decode prog_10_method_71_code 64 = .ok (.goto (-45), 3) := ky_dc db_X9_timesOf_2 49 rfl
theorem dc_X9_end_54 : decode prog_10_method_71_code 54 = .ok (.aload 6, 2) := ky_dc db_X9_timesOf_2 50 rfl
theorem dc_X9_end_56 : decode prog_10_method_71_code 56 = .ok (.goto 4, 3) := ky_dc db_X9_timesOf_2 51 rfl
theorem dc_X9_end_45 : decode prog_10_method_71_code 45 = .ok (.iconst 1, 1) := ky_dc db_X9_timesOf_2 52 rfl
theorem dc_X9_end_46 : decode prog_10_method_71_code 46 = .ok (.goto 4, 3) := ky_dc db_X9_timesOf_2 53 rfl
theorem dc_X9_greatest_0 : decode prog_10_method_72_code 0 = .ok (.aload_n 0, 1) := ky_dc db_X9_timesOf_2 54 rfl
theorem dc_X9_greatest_1 : decode prog_10_method_72_code 1 = .ok (.iconst 0, 1) := ky_dc db_X9_timesOf_2 55 rfl
theorem dc_X9_greatest_2 : decode prog_10_method_72_code 2 = .ok (.putfield 32, 3) := ky_dc db_X9_timesOf_2 56 rfl
theorem dc_X9_greatest_5 : decode prog_10_method_72_code 5 = .ok (.aload_n 0, 1) := ky_dc db_X9_timesOf_2 57 rfl
theorem dc_X9_greatest_6 : decode prog_10_method_72_code 6 = .ok (.iconst 1, 1) := ky_dc db_X9_timesOf_2 58 rfl
theorem dc_X9_greatest_7 : decode prog_10_method_72_code 7 = .ok (.invokevirtual 251, 3) := ky_dc db_X9_timesOf_2 59 rfl
def dl_X9_greatest_10 : List (ByteArray × Nat × Jvm.ClassFile.Instr × Nat) := [(prog_10_method_72_code, 10, .areturn, 1), (prog_10_method_73_code, 0, .aload_n 0, 1), (prog_10_method_73_code, 1, .iconst 0, 1), (prog_10_method_73_code, 2, .putfield 32, 3), (prog_10_method_73_code, 5, .aload_n 0, 1), (prog_10_method_73_code, 6, .iconst 0, 1), (prog_10_method_73_code, 7, .invokevirtual 251, 3), (prog_10_method_73_code, 10, .areturn, 1), (prog_10_method_80_code, 0, .ldc2_w 271, 3), (prog_10_method_80_code, 3, .lstore_n 1, 1), (prog_10_method_80_code, 4, .iconst 0, 1), (prog_10_method_80_code, 5, .istore_n 3, 1), (prog_10_method_80_code, 6, .iload_n 3, 1), (prog_10_method_80_code, 7, .iconst 4, 1), (prog_10_method_80_code, 8, .if_icmp .ge 20, 3), (prog_10_method_80_code, 11, .lload_n 1, 1), (prog_10_method_80_code, 12, .aload_n 0, 1), (prog_10_method_80_code, 13, .iload_n 3, 1), (prog_10_method_80_code, 14, .invokevirtual 258, 3), (prog_10_method_80_code, 17, .i2l, 1), (prog_10_method_80_code, 18, .invokestatic 268, 3), (prog_10_method_80_code, 21, .lstore_n 1, 1), (prog_10_method_80_code, 22, .iinc 3 1, 3), (prog_10_method_80_code, 25, .goto (-19), 3), (prog_10_method_80_code, 28, .iconst 0, 1), (prog_10_method_80_code, 29, .istore_n 3, 1), (prog_10_method_80_code, 30, .iload_n 3, 1), (prog_10_method_80_code, 31, .bipush 6, 2), (prog_10_method_80_code, 33, .if_icmp .ge 214, 3), (prog_10_method_80_code, 247, .iconst 0, 1), (prog_10_method_80_code, 248, .istore_n 3, 1), (prog_10_method_80_code, 249, .iload_n 3, 1), (prog_10_method_80_code, 250, .bipush 6, 2), (prog_10_method_80_code, 252, .if_icmp .ge 49, 3), (prog_10_method_80_code, 301, .aload_n 0, 1), (prog_10_method_80_code, 302, .iconst 0, 1), (prog_10_method_80_code, 303, .putfield 32, 3), (prog_10_method_80_code, 306, .lload_n 1, 1), (prog_10_method_80_code, 307, .aload_n 0, 1), (prog_10_method_80_code, 308, .iconst 1, 1), (prog_10_method_80_code, 309, .invokevirtual 251, 3), (prog_10_method_80_code, 312, .invokestatic 273, 3), (prog_10_method_80_code, 315, .aload_n 0, 1), (prog_10_method_80_code, 316, .iconst 0, 1), (prog_10_method_80_code, 317, .invokevirtual 251, 3), (prog_10_method_80_code, 320, .invokestatic 273, 3), (prog_10_method_80_code, 323, .lconst 1, 1), (prog_10_method_80_code, 324, .invokestatic 268, 3), (prog_10_method_80_code, 327, .lreturn, 1), (prog_10_method_80_code, 255, .iconst 0, 1), (prog_10_method_80_code, 256, .istore 4, 2), (prog_10_method_80_code, 258, .iload 4, 2), (prog_10_method_80_code, 260, .bipush 6, 2), (prog_10_method_80_code, 262, .if_icmp .ge 33, 3), (prog_10_method_80_code, 265, .lload_n 1, 1), (prog_10_method_80_code, 266, .aload_n 0, 1), (prog_10_method_80_code, 267, .iload_n 3, 1), (prog_10_method_80_code, 268, .iload 4, 2), (prog_10_method_80_code, 270, .invokevirtual 232, 3), (prog_10_method_80_code, 273, .i2l, 1)]
theorem db_X9_greatest_10 : dl_X9_greatest_10.all (fun x => decide (decode x.1 x.2.1 = .ok x.2.2)) = true := by decide +kernel
theorem dc_X9_greatest_10 : decode prog_10_method_72_code 10 = .ok (.areturn, 1) := ky_dc db_X9_greatest_10 0 rfl
theorem dc_X9_least_0 : decode prog_10_method_73_code 0 = .ok (.aload_n 0, 1) := ky_dc db_X9_greatest_10 1 rfl
theorem dc_X9_least_1 : decode prog_10_method_73_code 1 = .ok (.iconst 0, 1) := ky_dc db_X9_greatest_10 2 rfl
theorem dc_X9_least_2 : decode prog_10_method_73_code 2 = .ok (.putfield 32, 3) := ky_dc db_X9_greatest_10 3 rfl
theorem dc_X9_least_5 : decode prog_10_method_73_code 5 = .ok (.aload_n 0, 1) := ky_dc db_X9_greatest_10 4 rfl
theorem dc_X9_least_6 : decode prog_10_method_73_code 6 = .ok (.iconst 0, 1) := ky_dc db_X9_greatest_10 5 rfl
theorem dc_X9_least_7 : decode prog_10_method_73_code 7 = .ok (.invokevirtual 251, 3) := ky_dc db_X9_greatest_10 6 rfl
theorem dc_X9_least_10 : decode prog_10_method_73_code 10 = .ok (.areturn, 1) := ky_dc db_X9_greatest_10 7 rfl
theorem dc_X9_digest_0 : decode prog_10_method_80_code 0 = .ok (.ldc2_w 271, 3) := ky_dc db_X9_greatest_10 8 rfl
theorem dc_X9_digest_3 : decode prog_10_method_80_code 3 = .ok (.lstore_n 1, 1) := ky_dc db_X9_greatest_10 9 rfl
theorem dc_X9_digest_4 : decode prog_10_method_80_code 4 = .ok (.iconst 0, 1) := ky_dc db_X9_greatest_10 10 rfl
theorem dc_X9_digest_5 : decode prog_10_method_80_code 5 = .ok (.istore_n 3, 1) := ky_dc db_X9_greatest_10 11 rfl
theorem dc_X9_digest_6 : decode prog_10_method_80_code 6 = .ok (.iload_n 3, 1) := ky_dc db_X9_greatest_10 12 rfl
theorem dc_X9_digest_7 : decode prog_10_method_80_code 7 = .ok (.iconst 4, 1) := ky_dc db_X9_greatest_10 13 rfl
theorem dc_X9_digest_8 : decode prog_10_method_80_code 8 = .ok (.if_icmp .ge 20, 3) := ky_dc db_X9_greatest_10 14 rfl
theorem dc_X9_digest_11 : decode prog_10_method_80_code 11 = .ok (.lload_n 1, 1) := ky_dc db_X9_greatest_10 15 rfl
theorem dc_X9_digest_12 : decode prog_10_method_80_code 12 = .ok (.aload_n 0, 1) := ky_dc db_X9_greatest_10 16 rfl
theorem dc_X9_digest_13 : decode prog_10_method_80_code 13 = .ok (.iload_n 3, 1) := ky_dc db_X9_greatest_10 17 rfl
theorem dc_X9_digest_14 : decode prog_10_method_80_code 14 = .ok (.invokevirtual 258, 3) := ky_dc db_X9_greatest_10 18 rfl
theorem dc_X9_digest_17 : decode prog_10_method_80_code 17 = .ok (.i2l, 1) := ky_dc db_X9_greatest_10 19 rfl
theorem dc_X9_digest_18 : decode prog_10_method_80_code 18 = .ok (.invokestatic 268, 3) := ky_dc db_X9_greatest_10 20 rfl
theorem dc_X9_digest_21 : decode prog_10_method_80_code 21 = .ok (.lstore_n 1, 1) := ky_dc db_X9_greatest_10 21 rfl
theorem dc_X9_digest_22 : decode prog_10_method_80_code 22 = .ok (.iinc 3 1, 3) := ky_dc db_X9_greatest_10 22 rfl
theorem dc_X9_digest_25 : decode prog_10_method_80_code 25 = .ok (.goto (-19), 3) := ky_dc db_X9_greatest_10 23 rfl
theorem dc_X9_digest_28 : decode prog_10_method_80_code 28 = .ok (.iconst 0, 1) := ky_dc db_X9_greatest_10 24 rfl
theorem dc_X9_digest_29 : decode prog_10_method_80_code 29 = .ok (.istore_n 3, 1) := ky_dc db_X9_greatest_10 25 rfl
theorem dc_X9_digest_30 : decode prog_10_method_80_code 30 = .ok (.iload_n 3, 1) := ky_dc db_X9_greatest_10 26 rfl
theorem dc_X9_digest_31 : decode prog_10_method_80_code 31 = .ok (.bipush 6, 2) := ky_dc db_X9_greatest_10 27 rfl
theorem dc_X9_digest_33 : decode prog_10_method_80_code 33 = .ok (.if_icmp .ge 214, 3) := ky_dc db_X9_greatest_10 28 rfl
theorem dc_X9_digest_247 : decode prog_10_method_80_code 247 = .ok (.iconst 0, 1) := ky_dc db_X9_greatest_10 29 rfl
theorem dc_X9_digest_248 : decode prog_10_method_80_code 248 = .ok (.istore_n 3, 1) := ky_dc db_X9_greatest_10 30 rfl
theorem dc_X9_digest_249 : decode prog_10_method_80_code 249 = .ok (.iload_n 3, 1) := ky_dc db_X9_greatest_10 31 rfl
theorem dc_X9_digest_250 : decode prog_10_method_80_code 250 = .ok (.bipush 6, 2) := ky_dc db_X9_greatest_10 32 rfl
theorem dc_X9_digest_252 : decode prog_10_method_80_code 252 = .ok (.if_icmp .ge 49, 3) := ky_dc db_X9_greatest_10 33 rfl
theorem dc_X9_digest_301 : decode prog_10_method_80_code 301 = .ok (.aload_n 0, 1) := ky_dc db_X9_greatest_10 34 rfl
theorem dc_X9_digest_302 : decode prog_10_method_80_code 302 = .ok (.iconst 0, 1) := ky_dc db_X9_greatest_10 35 rfl
theorem dc_X9_digest_303 : decode prog_10_method_80_code 303 = .ok (.putfield 32, 3) := ky_dc db_X9_greatest_10 36 rfl
theorem dc_X9_digest_306 : decode prog_10_method_80_code 306 = .ok (.lload_n 1, 1) := ky_dc db_X9_greatest_10 37 rfl
theorem dc_X9_digest_307 : decode prog_10_method_80_code 307 = .ok (.aload_n 0, 1) := ky_dc db_X9_greatest_10 38 rfl
theorem dc_X9_digest_308 : decode prog_10_method_80_code 308 = .ok (.iconst 1, 1) := ky_dc db_X9_greatest_10 39 rfl
theorem dc_X9_digest_309 : decode prog_10_method_80_code 309 = .ok (.invokevirtual 251, 3) := ky_dc db_X9_greatest_10 40 rfl
theorem dc_X9_digest_312 : decode prog_10_method_80_code 312 = .ok (.invokestatic 273, 3) := ky_dc db_X9_greatest_10 41 rfl
theorem dc_X9_digest_315 : decode prog_10_method_80_code 315 = .ok (.aload_n 0, 1) := ky_dc db_X9_greatest_10 42 rfl
theorem dc_X9_digest_316 : decode prog_10_method_80_code 316 = .ok (.iconst 0, 1) := ky_dc db_X9_greatest_10 43 rfl
theorem dc_X9_digest_317 : decode prog_10_method_80_code 317 = .ok (.invokevirtual 251, 3) := ky_dc db_X9_greatest_10 44 rfl
theorem dc_X9_digest_320 : decode prog_10_method_80_code 320 = .ok (.invokestatic 273, 3) := ky_dc db_X9_greatest_10 45 rfl
theorem dc_X9_digest_323 : decode prog_10_method_80_code 323 = .ok (.lconst 1, 1) := ky_dc db_X9_greatest_10 46 rfl
theorem dc_X9_digest_324 : decode prog_10_method_80_code 324 = .ok (.invokestatic 268, 3) := ky_dc db_X9_greatest_10 47 rfl
theorem dc_X9_digest_327 : decode prog_10_method_80_code 327 = .ok (.lreturn, 1) := ky_dc db_X9_greatest_10 48 rfl
theorem dc_X9_digest_255 : decode prog_10_method_80_code 255 = .ok (.iconst 0, 1) := ky_dc db_X9_greatest_10 49 rfl
theorem dc_X9_digest_256 : decode prog_10_method_80_code 256 = .ok (.istore 4, 2) := ky_dc db_X9_greatest_10 50 rfl
theorem dc_X9_digest_258 : decode prog_10_method_80_code 258 = .ok (.iload 4, 2) := ky_dc db_X9_greatest_10 51 rfl
theorem dc_X9_digest_260 : decode prog_10_method_80_code 260 = .ok (.bipush 6, 2) := ky_dc db_X9_greatest_10 52 rfl
theorem dc_X9_digest_262 : decode prog_10_method_80_code 262 = .ok (.if_icmp .ge 33, 3) := ky_dc db_X9_greatest_10 53 rfl
theorem dc_X9_digest_265 : decode prog_10_method_80_code 265 = .ok (.lload_n 1, 1) := ky_dc db_X9_greatest_10 54 rfl
theorem dc_X9_digest_266 : decode prog_10_method_80_code 266 = .ok (.aload_n 0, 1) := ky_dc db_X9_greatest_10 55 rfl
theorem dc_X9_digest_267 : decode prog_10_method_80_code 267 = .ok (.iload_n 3, 1) := ky_dc db_X9_greatest_10 56 rfl
theorem dc_X9_digest_268 : decode prog_10_method_80_code 268 = .ok (.iload 4, 2) := ky_dc db_X9_greatest_10 57 rfl
theorem dc_X9_digest_270 : decode prog_10_method_80_code 270 = .ok (.invokevirtual 232, 3) := ky_dc db_X9_greatest_10 58 rfl
theorem dc_X9_digest_273 : decode prog_10_method_80_code 273 = .ok (.i2l, 1) := ky_dc db_X9_greatest_10 59 rfl
def dl_X9_digest_274 : List (ByteArray × Nat × Jvm.ClassFile.Instr × Nat) := [(prog_10_method_80_code, 274, .invokestatic 268, 3), (prog_10_method_80_code, 277, .aload_n 0, 1), (prog_10_method_80_code, 278, .iload_n 3, 1), (prog_10_method_80_code, 279, .iload 4, 2), (prog_10_method_80_code, 281, .invokevirtual 241, 3), (prog_10_method_80_code, 284, .i2l, 1), (prog_10_method_80_code, 285, .invokestatic 268, 3), (prog_10_method_80_code, 288, .lstore_n 1, 1), (prog_10_method_80_code, 289, .iinc 4 1, 3), (prog_10_method_80_code, 292, .goto (-34), 3), (prog_10_method_80_code, 295, .iinc 3 1, 3), (prog_10_method_80_code, 298, .goto (-49), 3), (prog_10_method_80_code, 36, .aload_n 0, 1), (prog_10_method_80_code, 37, .getfield 25, 3), (prog_10_method_80_code, 40, .iload_n 3, 1), (prog_10_method_80_code, 41, .aaload, 1), (prog_10_method_80_code, 42, .astore 4, 2), (prog_10_method_80_code, 44, .iconst 0, 1), (prog_10_method_80_code, 45, .istore 5, 2), (prog_10_method_80_code, 47, .iload 5, 2), (prog_10_method_80_code, 49, .iconst 4, 1), (prog_10_method_80_code, 50, .if_icmp .ge 22, 3), (prog_10_method_80_code, 53, .lload_n 1, 1), (prog_10_method_80_code, 54, .aload_n 0, 1), (prog_10_method_80_code, 55, .iload_n 3, 1), (prog_10_method_80_code, 56, .iload 5, 2), (prog_10_method_80_code, 58, .invokevirtual 167, 3), (prog_10_method_80_code, 61, .i2l, 1), (prog_10_method_80_code, 62, .invokestatic 268, 3), (prog_10_method_80_code, 65, .lstore_n 1, 1), (prog_10_method_80_code, 66, .iinc 5 1, 3), (prog_10_method_80_code, 69, .goto (-22), 3), (prog_10_method_80_code, 72, .lload_n 1, 1), (prog_10_method_80_code, 73, .aload 4, 2), (prog_10_method_80_code, 75, .invokevirtual 47, 3), (prog_10_method_80_code, 78, .i2l, 1), (prog_10_method_80_code, 79, .invokestatic 268, 3), (prog_10_method_80_code, 82, .aload 4, 2), (prog_10_method_80_code, 84, .invokevirtual 173, 3), (prog_10_method_80_code, 87, .invokestatic 273, 3), (prog_10_method_80_code, 90, .aload 4, 2), (prog_10_method_80_code, 92, .invokevirtual 137, 3), (prog_10_method_80_code, 95, .i2l, 1), (prog_10_method_80_code, 96, .invokestatic 268, 3), (prog_10_method_80_code, 99, .lstore_n 1, 1), (prog_10_method_80_code, 100, .lload_n 1, 1), (prog_10_method_80_code, 101, .aload_n 0, 1), (prog_10_method_80_code, 102, .iload_n 3, 1), (prog_10_method_80_code, 103, .iconst 1, 1), (prog_10_method_80_code, 104, .invokevirtual 181, 3), (prog_10_method_80_code, 107, .i2l, 1), (prog_10_method_80_code, 108, .invokestatic 268, 3), (prog_10_method_80_code, 111, .aload_n 0, 1), (prog_10_method_80_code, 112, .iload_n 3, 1), (prog_10_method_80_code, 113, .iconst 0, 1), (prog_10_method_80_code, 114, .invokevirtual 181, 3), (prog_10_method_80_code, 117, .i2l, 1), (prog_10_method_80_code, 118, .invokestatic 268, 3), (prog_10_method_80_code, 121, .lstore_n 1, 1), (prog_10_method_80_code, 122, .lload_n 1, 1)]
theorem db_X9_digest_274 : dl_X9_digest_274.all (fun x => decide (decode x.1 x.2.1 = .ok x.2.2)) = true := by decide +kernel
theorem dc_X9_digest_274 : decode prog_10_method_80_code 274 = .ok (.invokestatic 268, 3) := ky_dc db_X9_digest_274 0 rfl
theorem dc_X9_digest_277 : decode prog_10_method_80_code 277 = .ok (.aload_n 0, 1) := ky_dc db_X9_digest_274 1 rfl
theorem dc_X9_digest_278 : decode prog_10_method_80_code 278 = .ok (.iload_n 3, 1) := ky_dc db_X9_digest_274 2 rfl
theorem dc_X9_digest_279 : decode prog_10_method_80_code 279 = .ok (.iload 4, 2) := ky_dc db_X9_digest_274 3 rfl
theorem dc_X9_digest_281 : decode prog_10_method_80_code 281 = .ok (.invokevirtual 241, 3) := ky_dc db_X9_digest_274 4 rfl
theorem dc_X9_digest_284 : decode prog_10_method_80_code 284 = .ok (.i2l, 1) := ky_dc db_X9_digest_274 5 rfl
theorem dc_X9_digest_285 : decode prog_10_method_80_code 285 = .ok (.invokestatic 268, 3) := ky_dc db_X9_digest_274 6 rfl
theorem dc_X9_digest_288 : decode prog_10_method_80_code 288 = .ok (.lstore_n 1, 1) := ky_dc db_X9_digest_274 7 rfl
theorem dc_X9_digest_289 : decode prog_10_method_80_code 289 = .ok (.iinc 4 1, 3) := ky_dc db_X9_digest_274 8 rfl
theorem dc_X9_digest_292 : decode prog_10_method_80_code 292 = .ok (.goto (-34), 3) := ky_dc db_X9_digest_274 9 rfl
theorem dc_X9_digest_295 : decode prog_10_method_80_code 295 = .ok (.iinc 3 1, 3) := ky_dc db_X9_digest_274 10 rfl
theorem dc_X9_digest_298 : decode prog_10_method_80_code 298 = .ok (.goto (-49), 3) := ky_dc db_X9_digest_274 11 rfl
theorem dc_X9_digest_36 : decode prog_10_method_80_code 36 = .ok (.aload_n 0, 1) := ky_dc db_X9_digest_274 12 rfl
theorem dc_X9_digest_37 : decode prog_10_method_80_code 37 = .ok (.getfield 25, 3) := ky_dc db_X9_digest_274 13 rfl
theorem dc_X9_digest_40 : decode prog_10_method_80_code 40 = .ok (.iload_n 3, 1) := ky_dc db_X9_digest_274 14 rfl
theorem dc_X9_digest_41 : decode prog_10_method_80_code 41 = .ok (.aaload, 1) := ky_dc db_X9_digest_274 15 rfl
theorem dc_X9_digest_42 : decode prog_10_method_80_code 42 = .ok (.astore 4, 2) := ky_dc db_X9_digest_274 16 rfl
theorem dc_X9_digest_44 : decode prog_10_method_80_code 44 = .ok (.iconst 0, 1) := ky_dc db_X9_digest_274 17 rfl
theorem dc_X9_digest_45 : decode prog_10_method_80_code 45 = .ok (.istore 5, 2) := ky_dc db_X9_digest_274 18 rfl
theorem dc_X9_digest_47 : decode prog_10_method_80_code 47 = .ok (.iload 5, 2) := ky_dc db_X9_digest_274 19 rfl
theorem dc_X9_digest_49 : decode prog_10_method_80_code 49 = .ok (.iconst 4, 1) := ky_dc db_X9_digest_274 20 rfl
theorem dc_X9_digest_50 : decode prog_10_method_80_code 50 = .ok (.if_icmp .ge 22, 3) := ky_dc db_X9_digest_274 21 rfl
theorem dc_X9_digest_53 : decode prog_10_method_80_code 53 = .ok (.lload_n 1, 1) := ky_dc db_X9_digest_274 22 rfl
theorem dc_X9_digest_54 : decode prog_10_method_80_code 54 = .ok (.aload_n 0, 1) := ky_dc db_X9_digest_274 23 rfl
theorem dc_X9_digest_55 : decode prog_10_method_80_code 55 = .ok (.iload_n 3, 1) := ky_dc db_X9_digest_274 24 rfl
theorem dc_X9_digest_56 : decode prog_10_method_80_code 56 = .ok (.iload 5, 2) := ky_dc db_X9_digest_274 25 rfl
theorem dc_X9_digest_58 : decode prog_10_method_80_code 58 = .ok (.invokevirtual 167, 3) := ky_dc db_X9_digest_274 26 rfl
theorem dc_X9_digest_61 : decode prog_10_method_80_code 61 = .ok (.i2l, 1) := ky_dc db_X9_digest_274 27 rfl
theorem dc_X9_digest_62 : decode prog_10_method_80_code 62 = .ok (.invokestatic 268, 3) := ky_dc db_X9_digest_274 28 rfl
theorem dc_X9_digest_65 : decode prog_10_method_80_code 65 = .ok (.lstore_n 1, 1) := ky_dc db_X9_digest_274 29 rfl
theorem dc_X9_digest_66 : decode prog_10_method_80_code 66 = .ok (.iinc 5 1, 3) := ky_dc db_X9_digest_274 30 rfl
theorem dc_X9_digest_69 : decode prog_10_method_80_code 69 = .ok (.goto (-22), 3) := ky_dc db_X9_digest_274 31 rfl
theorem dc_X9_digest_72 : decode prog_10_method_80_code 72 = .ok (.lload_n 1, 1) := ky_dc db_X9_digest_274 32 rfl
theorem dc_X9_digest_73 : decode prog_10_method_80_code 73 = .ok (.aload 4, 2) := ky_dc db_X9_digest_274 33 rfl
theorem dc_X9_digest_75 : decode prog_10_method_80_code 75 = .ok (.invokevirtual 47, 3) := ky_dc db_X9_digest_274 34 rfl
theorem dc_X9_digest_78 : decode prog_10_method_80_code 78 = .ok (.i2l, 1) := ky_dc db_X9_digest_274 35 rfl
theorem dc_X9_digest_79 : decode prog_10_method_80_code 79 = .ok (.invokestatic 268, 3) := ky_dc db_X9_digest_274 36 rfl
theorem dc_X9_digest_82 : decode prog_10_method_80_code 82 = .ok (.aload 4, 2) := ky_dc db_X9_digest_274 37 rfl
theorem dc_X9_digest_84 : decode prog_10_method_80_code 84 = .ok (.invokevirtual 173, 3) := ky_dc db_X9_digest_274 38 rfl
theorem dc_X9_digest_87 : decode prog_10_method_80_code 87 = .ok (.invokestatic 273, 3) := ky_dc db_X9_digest_274 39 rfl
theorem dc_X9_digest_90 : decode prog_10_method_80_code 90 = .ok (.aload 4, 2) := ky_dc db_X9_digest_274 40 rfl
theorem dc_X9_digest_92 : decode prog_10_method_80_code 92 = .ok (.invokevirtual 137, 3) := ky_dc db_X9_digest_274 41 rfl
theorem dc_X9_digest_95 : decode prog_10_method_80_code 95 = .ok (.i2l, 1) := ky_dc db_X9_digest_274 42 rfl
theorem dc_X9_digest_96 : decode prog_10_method_80_code 96 = .ok (.invokestatic 268, 3) := ky_dc db_X9_digest_274 43 rfl
theorem dc_X9_digest_99 : decode prog_10_method_80_code 99 = .ok (.lstore_n 1, 1) := ky_dc db_X9_digest_274 44 rfl
theorem dc_X9_digest_100 : decode prog_10_method_80_code 100 = .ok (.lload_n 1, 1) := ky_dc db_X9_digest_274 45 rfl
theorem dc_X9_digest_101 : decode prog_10_method_80_code 101 = .ok (.aload_n 0, 1) := ky_dc db_X9_digest_274 46 rfl
theorem dc_X9_digest_102 : decode prog_10_method_80_code 102 = .ok (.iload_n 3, 1) := ky_dc db_X9_digest_274 47 rfl
theorem dc_X9_digest_103 : decode prog_10_method_80_code 103 = .ok (.iconst 1, 1) := ky_dc db_X9_digest_274 48 rfl
theorem dc_X9_digest_104 : decode prog_10_method_80_code 104 = .ok (.invokevirtual 181, 3) := ky_dc db_X9_digest_274 49 rfl
theorem dc_X9_digest_107 : decode prog_10_method_80_code 107 = .ok (.i2l, 1) := ky_dc db_X9_digest_274 50 rfl
theorem dc_X9_digest_108 : decode prog_10_method_80_code 108 = .ok (.invokestatic 268, 3) := ky_dc db_X9_digest_274 51 rfl
theorem dc_X9_digest_111 : decode prog_10_method_80_code 111 = .ok (.aload_n 0, 1) := ky_dc db_X9_digest_274 52 rfl
theorem dc_X9_digest_112 : decode prog_10_method_80_code 112 = .ok (.iload_n 3, 1) := ky_dc db_X9_digest_274 53 rfl
theorem dc_X9_digest_113 : decode prog_10_method_80_code 113 = .ok (.iconst 0, 1) := ky_dc db_X9_digest_274 54 rfl
theorem dc_X9_digest_114 : decode prog_10_method_80_code 114 = .ok (.invokevirtual 181, 3) := ky_dc db_X9_digest_274 55 rfl
theorem dc_X9_digest_117 : decode prog_10_method_80_code 117 = .ok (.i2l, 1) := ky_dc db_X9_digest_274 56 rfl
theorem dc_X9_digest_118 : decode prog_10_method_80_code 118 = .ok (.invokestatic 268, 3) := ky_dc db_X9_digest_274 57 rfl
theorem dc_X9_digest_121 : decode prog_10_method_80_code 121 = .ok (.lstore_n 1, 1) := ky_dc db_X9_digest_274 58 rfl
theorem dc_X9_digest_122 : decode prog_10_method_80_code 122 = .ok (.lload_n 1, 1) := ky_dc db_X9_digest_274 59 rfl
def dl_X9_digest_123 : List (ByteArray × Nat × Jvm.ClassFile.Instr × Nat) := [(prog_10_method_80_code, 123, .aload_n 0, 1), (prog_10_method_80_code, 124, .iload_n 3, 1), (prog_10_method_80_code, 125, .iconst 0, 1), (prog_10_method_80_code, 126, .invokevirtual 198, 3), (prog_10_method_80_code, 129, .invokestatic 273, 3), (prog_10_method_80_code, 132, .aload_n 0, 1), (prog_10_method_80_code, 133, .iload_n 3, 1), (prog_10_method_80_code, 134, .iconst 1, 1), (prog_10_method_80_code, 135, .invokevirtual 198, 3), (prog_10_method_80_code, 138, .invokestatic 273, 3), (prog_10_method_80_code, 141, .aload_n 0, 1), (prog_10_method_80_code, 142, .iload_n 3, 1), (prog_10_method_80_code, 143, .invokevirtual 214, 3), (prog_10_method_80_code, 146, .i2l, 1), (prog_10_method_80_code, 147, .invokestatic 268, 3), (prog_10_method_80_code, 150, .lstore_n 1, 1), (prog_10_method_80_code, 151, .lload_n 1, 1), (prog_10_method_80_code, 152, .aload 4, 2), (prog_10_method_80_code, 154, .invokevirtual 217, 3), (prog_10_method_80_code, 157, .invokestatic 220, 3), (prog_10_method_80_code, 160, .i2l, 1), (prog_10_method_80_code, 161, .invokestatic 268, 3), (prog_10_method_80_code, 164, .aload_n 0, 1), (prog_10_method_80_code, 165, .iload_n 3, 1), (prog_10_method_80_code, 166, .invokevirtual 244, 3), (prog_10_method_80_code, 169, .i2l, 1), (prog_10_method_80_code, 170, .invokestatic 268, 3), (prog_10_method_80_code, 173, .lstore_n 1, 1), (prog_10_method_80_code, 174, .iconst 0, 1), (prog_10_method_80_code, 175, .istore 5, 2), (prog_10_method_80_code, 177, .iload 5, 2), (prog_10_method_80_code, 179, .iconst 3, 1), (prog_10_method_80_code, 180, .if_icmp .ge 24, 3), (prog_10_method_80_code, 183, .lload_n 1, 1), (prog_10_method_80_code, 184, .aload 4, 2), (prog_10_method_80_code, 186, .iload 5, 2), (prog_10_method_80_code, 188, .invokevirtual 108, 3), (prog_10_method_80_code, 191, .invokevirtual 173, 3), (prog_10_method_80_code, 194, .invokestatic 273, 3), (prog_10_method_80_code, 197, .lstore_n 1, 1), (prog_10_method_80_code, 198, .iinc 5 1, 3), (prog_10_method_80_code, 201, .goto (-24), 3), (prog_10_method_80_code, 204, .lload_n 1, 1), (prog_10_method_80_code, 205, .aload 4, 2), (prog_10_method_80_code, 207, .invokevirtual 134, 3), (prog_10_method_80_code, 210, .invokevirtual 173, 3), (prog_10_method_80_code, 213, .invokestatic 273, 3), (prog_10_method_80_code, 216, .aload 4, 2), (prog_10_method_80_code, 218, .iconst 0, 1), (prog_10_method_80_code, 219, .invokevirtual 130, 3), (prog_10_method_80_code, 222, .invokevirtual 173, 3), (prog_10_method_80_code, 225, .invokestatic 273, 3), (prog_10_method_80_code, 228, .aload 4, 2), (prog_10_method_80_code, 230, .iconst 1, 1), (prog_10_method_80_code, 231, .invokevirtual 130, 3), (prog_10_method_80_code, 234, .invokevirtual 173, 3), (prog_10_method_80_code, 237, .invokestatic 273, 3), (prog_10_method_80_code, 240, .lstore_n 1, 1), (prog_10_method_80_code, 241, .iinc 3 1, 3), (prog_10_method_80_code, 244, .goto (-214), 3)]
theorem db_X9_digest_123 : dl_X9_digest_123.all (fun x => decide (decode x.1 x.2.1 = .ok x.2.2)) = true := by decide +kernel
theorem dc_X9_digest_123 : decode prog_10_method_80_code 123 = .ok (.aload_n 0, 1) := ky_dc db_X9_digest_123 0 rfl
theorem dc_X9_digest_124 : decode prog_10_method_80_code 124 = .ok (.iload_n 3, 1) := ky_dc db_X9_digest_123 1 rfl
theorem dc_X9_digest_125 : decode prog_10_method_80_code 125 = .ok (.iconst 0, 1) := ky_dc db_X9_digest_123 2 rfl
theorem dc_X9_digest_126 : decode prog_10_method_80_code 126 = .ok (.invokevirtual 198, 3) := ky_dc db_X9_digest_123 3 rfl
theorem dc_X9_digest_129 : decode prog_10_method_80_code 129 = .ok (.invokestatic 273, 3) := ky_dc db_X9_digest_123 4 rfl
theorem dc_X9_digest_132 : decode prog_10_method_80_code 132 = .ok (.aload_n 0, 1) := ky_dc db_X9_digest_123 5 rfl
theorem dc_X9_digest_133 : decode prog_10_method_80_code 133 = .ok (.iload_n 3, 1) := ky_dc db_X9_digest_123 6 rfl
theorem dc_X9_digest_134 : decode prog_10_method_80_code 134 = .ok (.iconst 1, 1) := ky_dc db_X9_digest_123 7 rfl
theorem dc_X9_digest_135 : decode prog_10_method_80_code 135 = .ok (.invokevirtual 198, 3) := ky_dc db_X9_digest_123 8 rfl
theorem dc_X9_digest_138 : decode prog_10_method_80_code 138 = .ok (.invokestatic 273, 3) := ky_dc db_X9_digest_123 9 rfl
theorem dc_X9_digest_141 : decode prog_10_method_80_code 141 = .ok (.aload_n 0, 1) := ky_dc db_X9_digest_123 10 rfl
theorem dc_X9_digest_142 : decode prog_10_method_80_code 142 = .ok (.iload_n 3, 1) := ky_dc db_X9_digest_123 11 rfl
theorem dc_X9_digest_143 : decode prog_10_method_80_code 143 = .ok (.invokevirtual 214, 3) := ky_dc db_X9_digest_123 12 rfl
theorem dc_X9_digest_146 : decode prog_10_method_80_code 146 = .ok (.i2l, 1) := ky_dc db_X9_digest_123 13 rfl
theorem dc_X9_digest_147 : decode prog_10_method_80_code 147 = .ok (.invokestatic 268, 3) := ky_dc db_X9_digest_123 14 rfl
theorem dc_X9_digest_150 : decode prog_10_method_80_code 150 = .ok (.lstore_n 1, 1) := ky_dc db_X9_digest_123 15 rfl
theorem dc_X9_digest_151 : decode prog_10_method_80_code 151 = .ok (.lload_n 1, 1) := ky_dc db_X9_digest_123 16 rfl
theorem dc_X9_digest_152 : decode prog_10_method_80_code 152 = .ok (.aload 4, 2) := ky_dc db_X9_digest_123 17 rfl
theorem dc_X9_digest_154 : decode prog_10_method_80_code 154 = .ok (.invokevirtual 217, 3) := ky_dc db_X9_digest_123 18 rfl
theorem dc_X9_digest_157 : decode prog_10_method_80_code 157 = .ok (.invokestatic 220, 3) := ky_dc db_X9_digest_123 19 rfl
theorem dc_X9_digest_160 : decode prog_10_method_80_code 160 = .ok (.i2l, 1) := ky_dc db_X9_digest_123 20 rfl
theorem dc_X9_digest_161 : decode prog_10_method_80_code 161 = .ok (.invokestatic 268, 3) := ky_dc db_X9_digest_123 21 rfl
theorem dc_X9_digest_164 : decode prog_10_method_80_code 164 = .ok (.aload_n 0, 1) := ky_dc db_X9_digest_123 22 rfl
theorem dc_X9_digest_165 : decode prog_10_method_80_code 165 = .ok (.iload_n 3, 1) := ky_dc db_X9_digest_123 23 rfl
theorem dc_X9_digest_166 : decode prog_10_method_80_code 166 = .ok (.invokevirtual 244, 3) := ky_dc db_X9_digest_123 24 rfl
theorem dc_X9_digest_169 : decode prog_10_method_80_code 169 = .ok (.i2l, 1) := ky_dc db_X9_digest_123 25 rfl
theorem dc_X9_digest_170 : decode prog_10_method_80_code 170 = .ok (.invokestatic 268, 3) := ky_dc db_X9_digest_123 26 rfl
theorem dc_X9_digest_173 : decode prog_10_method_80_code 173 = .ok (.lstore_n 1, 1) := ky_dc db_X9_digest_123 27 rfl
theorem dc_X9_digest_174 : decode prog_10_method_80_code 174 = .ok (.iconst 0, 1) := ky_dc db_X9_digest_123 28 rfl
theorem dc_X9_digest_175 : decode prog_10_method_80_code 175 = .ok (.istore 5, 2) := ky_dc db_X9_digest_123 29 rfl
theorem dc_X9_digest_177 : decode prog_10_method_80_code 177 = .ok (.iload 5, 2) := ky_dc db_X9_digest_123 30 rfl
theorem dc_X9_digest_179 : decode prog_10_method_80_code 179 = .ok (.iconst 3, 1) := ky_dc db_X9_digest_123 31 rfl
theorem dc_X9_digest_180 : decode prog_10_method_80_code 180 = .ok (.if_icmp .ge 24, 3) := ky_dc db_X9_digest_123 32 rfl
theorem dc_X9_digest_183 : decode prog_10_method_80_code 183 = .ok (.lload_n 1, 1) := ky_dc db_X9_digest_123 33 rfl
theorem dc_X9_digest_184 : decode prog_10_method_80_code 184 = .ok (.aload 4, 2) := ky_dc db_X9_digest_123 34 rfl
theorem dc_X9_digest_186 : decode prog_10_method_80_code 186 = .ok (.iload 5, 2) := ky_dc db_X9_digest_123 35 rfl
theorem dc_X9_digest_188 : decode prog_10_method_80_code 188 = .ok (.invokevirtual 108, 3) := ky_dc db_X9_digest_123 36 rfl
theorem dc_X9_digest_191 : decode prog_10_method_80_code 191 = .ok (.invokevirtual 173, 3) := ky_dc db_X9_digest_123 37 rfl
theorem dc_X9_digest_194 : decode prog_10_method_80_code 194 = .ok (.invokestatic 273, 3) := ky_dc db_X9_digest_123 38 rfl
theorem dc_X9_digest_197 : decode prog_10_method_80_code 197 = .ok (.lstore_n 1, 1) := ky_dc db_X9_digest_123 39 rfl
theorem dc_X9_digest_198 : decode prog_10_method_80_code 198 = .ok (.iinc 5 1, 3) := ky_dc db_X9_digest_123 40 rfl
theorem dc_X9_digest_201 : decode prog_10_method_80_code 201 = .ok (.goto (-24), 3) := ky_dc db_X9_digest_123 41 rfl
theorem dc_X9_digest_204 : decode prog_10_method_80_code 204 = .ok (.lload_n 1, 1) := ky_dc db_X9_digest_123 42 rfl
theorem dc_X9_digest_205 : decode prog_10_method_80_code 205 = .ok (.aload 4, 2) := ky_dc db_X9_digest_123 43 rfl
theorem dc_X9_digest_207 : decode prog_10_method_80_code 207 = .ok (.invokevirtual 134, 3) := ky_dc db_X9_digest_123 44 rfl
theorem dc_X9_digest_210 : decode prog_10_method_80_code 210 = .ok (.invokevirtual 173, 3) := ky_dc db_X9_digest_123 45 rfl
theorem dc_X9_digest_213 : decode prog_10_method_80_code 213 = .ok (.invokestatic 273, 3) := ky_dc db_X9_digest_123 46 rfl
theorem dc_X9_digest_216 : decode prog_10_method_80_code 216 = .ok (.aload 4, 2) := ky_dc db_X9_digest_123 47 rfl
theorem dc_X9_digest_218 : decode prog_10_method_80_code 218 = .ok (.iconst 0, 1) := ky_dc db_X9_digest_123 48 rfl
theorem dc_X9_digest_219 : decode prog_10_method_80_code 219 = .ok (.invokevirtual 130, 3) := ky_dc db_X9_digest_123 49 rfl
theorem dc_X9_digest_222 : decode prog_10_method_80_code 222 = .ok (.invokevirtual 173, 3) := ky_dc db_X9_digest_123 50 rfl
theorem dc_X9_digest_225 : decode prog_10_method_80_code 225 = .ok (.invokestatic 273, 3) := ky_dc db_X9_digest_123 51 rfl
theorem dc_X9_digest_228 : decode prog_10_method_80_code 228 = .ok (.aload 4, 2) := ky_dc db_X9_digest_123 52 rfl
theorem dc_X9_digest_230 : decode prog_10_method_80_code 230 = .ok (.iconst 1, 1) := ky_dc db_X9_digest_123 53 rfl
theorem dc_X9_digest_231 : decode prog_10_method_80_code 231 = .ok (.invokevirtual 130, 3) := ky_dc db_X9_digest_123 54 rfl
theorem dc_X9_digest_234 : decode prog_10_method_80_code 234 = .ok (.invokevirtual 173, 3) := ky_dc db_X9_digest_123 55 rfl
theorem dc_X9_digest_237 : decode prog_10_method_80_code 237 = .ok (.invokestatic 273, 3) := ky_dc db_X9_digest_123 56 rfl
theorem dc_X9_digest_240 : decode prog_10_method_80_code 240 = .ok (.lstore_n 1, 1) := ky_dc db_X9_digest_123 57 rfl
theorem dc_X9_digest_241 : decode prog_10_method_80_code 241 = .ok (.iinc 3 1, 3) := ky_dc db_X9_digest_123 58 rfl
theorem dc_X9_digest_244 : decode prog_10_method_80_code 244 = .ok (.goto (-214), 3) := ky_dc db_X9_digest_123 59 rfl
