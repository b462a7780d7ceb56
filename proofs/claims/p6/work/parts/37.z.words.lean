abbrev my_J7_checkLength_df160 : MethodName := ⟨"java/util/Arrays", "checkLength", "(II)V"⟩
abbrev my_J7_copyOfRangeByte_39247 : MethodName := ⟨"java/util/Arrays", "copyOfRangeByte", "([BII)[B"⟩
abbrev my_J7_copyOfRange_39247 : MethodName := ⟨"java/util/Arrays", "copyOfRange", "([BII)[B"⟩
abbrev my_J0_init_db425 : MethodName := ⟨"java/lang/String", "<init>", "(Ljava/lang/AbstractStringBuilder;Ljava/lang/Void;)V"⟩
abbrev my_J0_init_81219 : MethodName := ⟨"java/lang/String", "<init>", "(Ljava/lang/StringBuilder;)V"⟩
abbrev my_J4_toString_0e30d : MethodName := ⟨"java/lang/StringBuilder", "toString", "()Ljava/lang/String;"⟩
theorem kw_2_100 : (Jvm.Cond.methodLink "java/util/Arrays" (343 : Nat) ({ cls := "java/util/Arrays", name := "checkLength", desc := "(II)V" } : Jvm.MethodName)) ∈ ky_B := ky_mem (kc_2 _ (List.mem_of_getElem? (i := 100) rfl)) (by decide +kernel)
theorem kw_2_101 : (Jvm.Cond.static ({ cls := "java/util/Arrays", name := "checkLength", desc := "(II)V" } : Jvm.MethodName)) ∈ ky_B := ky_mem (kc_2 _ (List.mem_of_getElem? (i := 101) rfl)) (by decide +kernel)
theorem kw_2_102 : (Jvm.Cond.code ({ cls := "java/util/Arrays", name := "checkLength", desc := "(II)V" } : Jvm.MethodName) prog_29_method_131_code (2 : Nat) (Option.none : Option Jvm.ClassFile.FieldType)) ∈ ky_B := ky_mem (kc_2 _ (List.mem_of_getElem? (i := 102) rfl)) (by decide +kernel)
theorem kw_1_196 : (Jvm.Cond.sameMethod "[B" "java/lang/Object" "clone" "()Ljava/lang/Object;") ∈ ky_B := ky_mem (kc_1 _ (List.mem_of_getElem? (i := 196) rfl)) (by decide +kernel)
theorem kw_1_197 : (Jvm.Cond.native ({ cls := "java/lang/Object", name := "clone", desc := "()Ljava/lang/Object;" } : Jvm.MethodName)) ∈ ky_B := ky_mem (kc_1 _ (List.mem_of_getElem? (i := 197) rfl)) (by decide +kernel)
theorem kw_1_198 : (Jvm.Cond.instanceMethod ({ cls := "java/lang/Object", name := "clone", desc := "()Ljava/lang/Object;" } : Jvm.MethodName)) ∈ ky_B := ky_mem (kc_1 _ (List.mem_of_getElem? (i := 198) rfl)) (by decide +kernel)
theorem kw_1_199 : (Jvm.Cond.selects "[B" ({ cls := "[B", name := "clone", desc := "()Ljava/lang/Object;" } : Jvm.MethodName) ({ cls := "java/lang/Object", name := "clone", desc := "()Ljava/lang/Object;" } : Jvm.MethodName)) ∈ ky_B := ky_mem (kc_1 _ (List.mem_of_getElem? (i := 199) rfl)) (by decide +kernel)
theorem kw_1_195 : (Jvm.Cond.methodLink "java/util/Arrays" (310 : Nat) ({ cls := "[B", name := "clone", desc := "()Ljava/lang/Object;" } : Jvm.MethodName)) ∈ ky_B := ky_mem (kc_1 _ (List.mem_of_getElem? (i := 195) rfl)) (by decide +kernel)
theorem kw_1_201 : (Jvm.Cond.classLink "java/util/Arrays" (311 : Nat) "[B") ∈ ky_B := ky_mem (kc_1 _ (List.mem_of_getElem? (i := 201) rfl)) (by decide +kernel)
theorem kw_2_97 : (Jvm.Cond.methodLink "java/util/Arrays" (339 : Nat) ({ cls := "java/util/Arrays", name := "copyOfRangeByte", desc := "([BII)[B" } : Jvm.MethodName)) ∈ ky_B := ky_mem (kc_2 _ (List.mem_of_getElem? (i := 97) rfl)) (by decide +kernel)
theorem kw_2_98 : (Jvm.Cond.static ({ cls := "java/util/Arrays", name := "copyOfRangeByte", desc := "([BII)[B" } : Jvm.MethodName)) ∈ ky_B := ky_mem (kc_2 _ (List.mem_of_getElem? (i := 98) rfl)) (by decide +kernel)
theorem kw_2_99 : (Jvm.Cond.code ({ cls := "java/util/Arrays", name := "copyOfRangeByte", desc := "([BII)[B" } : Jvm.MethodName) prog_29_method_133_code (5 : Nat) (Option.some (Jvm.ClassFile.FieldType.array Jvm.ClassFile.FieldType.byte))) ∈ ky_B := ky_mem (kc_2 _ (List.mem_of_getElem? (i := 99) rfl)) (by decide +kernel)
theorem kw_2_79 : (Jvm.Cond.methodLink "java/lang/String" (1 : Nat) ({ cls := "java/lang/Object", name := "<init>", desc := "()V" } : Jvm.MethodName)) ∈ ky_B := ky_mem (kc_2 _ (List.mem_of_getElem? (i := 79) rfl)) (by decide +kernel)
theorem kw_2_82 : (Jvm.Cond.sameMethod "java/lang/AbstractStringBuilder" "java/lang/AbstractStringBuilder" "getValue" "()[B") ∈ ky_B := ky_mem (kc_2 _ (List.mem_of_getElem? (i := 82) rfl)) (by decide +kernel)
theorem kw_2_83 : (Jvm.Cond.selects "java/lang/StringBuilder" ({ cls := "java/lang/AbstractStringBuilder", name := "getValue", desc := "()[B" } : Jvm.MethodName) ({ cls := "java/lang/AbstractStringBuilder", name := "getValue", desc := "()[B" } : Jvm.MethodName)) ∈ ky_B := ky_mem (kc_2 _ (List.mem_of_getElem? (i := 83) rfl)) (by decide +kernel)
theorem kw_2_80 : (Jvm.Cond.methodLink "java/lang/String" (552 : Nat) ({ cls := "java/lang/AbstractStringBuilder", name := "getValue", desc := "()[B" } : Jvm.MethodName)) ∈ ky_B := ky_mem (kc_2 _ (List.mem_of_getElem? (i := 80) rfl)) (by decide +kernel)
theorem kw_2_81 : (Jvm.Cond.instanceMethod ({ cls := "java/lang/AbstractStringBuilder", name := "getValue", desc := "()[B" } : Jvm.MethodName)) ∈ ky_B := ky_mem (kc_2 _ (List.mem_of_getElem? (i := 81) rfl)) (by decide +kernel)
theorem kw_2_84 : (Jvm.Cond.code ({ cls := "java/lang/AbstractStringBuilder", name := "getValue", desc := "()[B" } : Jvm.MethodName) prog_12_method_64_code (1 : Nat) (Option.some (Jvm.ClassFile.FieldType.array Jvm.ClassFile.FieldType.byte))) ∈ ky_B := ky_mem (kc_2 _ (List.mem_of_getElem? (i := 84) rfl)) (by decide +kernel)
theorem kw_2_88 : (Jvm.Cond.selects "java/lang/StringBuilder" ({ cls := "java/lang/AbstractStringBuilder", name := "length", desc := "()I" } : Jvm.MethodName) ({ cls := "java/lang/StringBuilder", name := "length", desc := "()I" } : Jvm.MethodName)) ∈ ky_B := ky_mem (kc_2 _ (List.mem_of_getElem? (i := 88) rfl)) (by decide +kernel)
theorem kw_2_85 : (Jvm.Cond.methodLink "java/lang/String" (549 : Nat) ({ cls := "java/lang/AbstractStringBuilder", name := "length", desc := "()I" } : Jvm.MethodName)) ∈ ky_B := ky_mem (kc_2 _ (List.mem_of_getElem? (i := 85) rfl)) (by decide +kernel)
theorem kw_2_89 : (Jvm.Cond.instanceMethod ({ cls := "java/lang/StringBuilder", name := "length", desc := "()I" } : Jvm.MethodName)) ∈ ky_B := ky_mem (kc_2 _ (List.mem_of_getElem? (i := 89) rfl)) (by decide +kernel)
theorem kw_1_4 : (Jvm.Cond.initialized "java/lang/StringBuilder") ∈ ky_B := ky_mem (kc_1 _ (List.mem_of_getElem? (i := 4) rfl)) (by decide +kernel)
theorem kw_2_90 : (Jvm.Cond.code ({ cls := "java/lang/StringBuilder", name := "length", desc := "()I" } : Jvm.MethodName) prog_23_method_93_code (1 : Nat) (Option.some Jvm.ClassFile.FieldType.int)) ∈ ky_B := ky_mem (kc_2 _ (List.mem_of_getElem? (i := 90) rfl)) (by decide +kernel)
theorem kw_2_93 : (Jvm.Cond.methodLink "java/lang/String" (1047 : Nat) ({ cls := "java/lang/AbstractStringBuilder", name := "isLatin1", desc := "()Z" } : Jvm.MethodName)) ∈ ky_B := ky_mem (kc_2 _ (List.mem_of_getElem? (i := 93) rfl)) (by decide +kernel)
theorem kw_2_94 : (Jvm.Cond.methodLink "java/lang/String" (54 : Nat) ({ cls := "java/util/Arrays", name := "copyOfRange", desc := "([BII)[B" } : Jvm.MethodName)) ∈ ky_B := ky_mem (kc_2 _ (List.mem_of_getElem? (i := 94) rfl)) (by decide +kernel)
theorem kw_2_95 : (Jvm.Cond.static ({ cls := "java/util/Arrays", name := "copyOfRange", desc := "([BII)[B" } : Jvm.MethodName)) ∈ ky_B := ky_mem (kc_2 _ (List.mem_of_getElem? (i := 95) rfl)) (by decide +kernel)
theorem kw_2_96 : (Jvm.Cond.code ({ cls := "java/util/Arrays", name := "copyOfRange", desc := "([BII)[B" } : Jvm.MethodName) prog_29_method_132_code (3 : Nat) (Option.some (Jvm.ClassFile.FieldType.array Jvm.ClassFile.FieldType.byte))) ∈ ky_B := ky_mem (kc_2 _ (List.mem_of_getElem? (i := 96) rfl)) (by decide +kernel)
theorem kw_2_76 : (Jvm.Cond.methodLink "java/lang/String" (489 : Nat) ({ cls := "java/lang/String", name := "<init>", desc := "(Ljava/lang/AbstractStringBuilder;Ljava/lang/Void;)V" } : Jvm.MethodName)) ∈ ky_B := ky_mem (kc_2 _ (List.mem_of_getElem? (i := 76) rfl)) (by decide +kernel)
theorem kw_2_77 : (Jvm.Cond.instanceMethod ({ cls := "java/lang/String", name := "<init>", desc := "(Ljava/lang/AbstractStringBuilder;Ljava/lang/Void;)V" } : Jvm.MethodName)) ∈ ky_B := ky_mem (kc_2 _ (List.mem_of_getElem? (i := 77) rfl)) (by decide +kernel)
theorem kw_2_78 : (Jvm.Cond.code ({ cls := "java/lang/String", name := "<init>", desc := "(Ljava/lang/AbstractStringBuilder;Ljava/lang/Void;)V" } : Jvm.MethodName) prog_22_method_150_code (5 : Nat) (Option.none : Option Jvm.ClassFile.FieldType)) ∈ ky_B := ky_mem (kc_2 _ (List.mem_of_getElem? (i := 78) rfl)) (by decide +kernel)
theorem kw_2_72 : (Jvm.Cond.instantiable "java/lang/String" (4 : Nat)) ∈ ky_B := ky_mem (kc_2 _ (List.mem_of_getElem? (i := 72) rfl)) (by decide +kernel)
theorem kw_2_71 : (Jvm.Cond.classLink "java/lang/StringBuilder" (18 : Nat) "java/lang/String") ∈ ky_B := ky_mem (kc_2 _ (List.mem_of_getElem? (i := 71) rfl)) (by decide +kernel)
theorem kw_2_73 : (Jvm.Cond.methodLink "java/lang/StringBuilder" (137 : Nat) ({ cls := "java/lang/String", name := "<init>", desc := "(Ljava/lang/StringBuilder;)V" } : Jvm.MethodName)) ∈ ky_B := ky_mem (kc_2 _ (List.mem_of_getElem? (i := 73) rfl)) (by decide +kernel)
theorem kw_2_74 : (Jvm.Cond.instanceMethod ({ cls := "java/lang/String", name := "<init>", desc := "(Ljava/lang/StringBuilder;)V" } : Jvm.MethodName)) ∈ ky_B := ky_mem (kc_2 _ (List.mem_of_getElem? (i := 74) rfl)) (by decide +kernel)
theorem kw_2_75 : (Jvm.Cond.code ({ cls := "java/lang/String", name := "<init>", desc := "(Ljava/lang/StringBuilder;)V" } : Jvm.MethodName) prog_22_method_53_code (2 : Nat) (Option.none : Option Jvm.ClassFile.FieldType)) ∈ ky_B := ky_mem (kc_2 _ (List.mem_of_getElem? (i := 75) rfl)) (by decide +kernel)
theorem ks_J7_343 : ky_wS "java/util/Arrays" 343 my_J7_checkLength_df160 prog_29_method_131_code 2 (Option.none : Option Jvm.ClassFile.FieldType) 2 := ⟨kw_2_100, kw_2_101, kw_1_22, kw_2_102, by decide, by decide, by decide +kernel⟩
theorem ks_J7_339 : ky_wS "java/util/Arrays" 339 my_J7_copyOfRangeByte_39247 prog_29_method_133_code 5 (Option.some (Jvm.ClassFile.FieldType.array Jvm.ClassFile.FieldType.byte)) 3 := ⟨kw_2_97, kw_2_98, kw_1_22, kw_2_99, by decide, by decide, by decide +kernel⟩
theorem ku_J0_552 : ky_wO "java/lang/String" 552 "java/lang/StringBuilder" my_J5_getValue_6d5f1 my_J5_getValue_6d5f1 prog_12_method_64_code 1 (Option.some (Jvm.ClassFile.FieldType.array Jvm.ClassFile.FieldType.byte)) prog_12_method_64_code 1 (Option.some (Jvm.ClassFile.FieldType.array Jvm.ClassFile.FieldType.byte)) 0 := ⟨kw_2_80, kw_2_82, kw_2_81, kw_2_84, kw_2_83, kw_2_81, kw_1_3, kw_2_84, by decide, by decide +kernel⟩
theorem ku_J0_549 : ky_wO "java/lang/String" 549 "java/lang/StringBuilder" my_J5_length_8abf5 my_J4_length_8abf5 prog_12_method_6_code 1 (Option.some Jvm.ClassFile.FieldType.int) prog_23_method_93_code 1 (Option.some Jvm.ClassFile.FieldType.int) 0 := ⟨kw_2_85, kw_2_87, kw_2_86, kw_2_92, kw_2_88, kw_2_89, kw_1_4, kw_2_90, by decide, by decide +kernel⟩
theorem ku_J0_1047 : ky_wO "java/lang/String" 1047 "java/lang/StringBuilder" my_J5_isLatin1_aae02 my_J5_isLatin1_aae02 prog_12_method_68_code 1 (Option.some Jvm.ClassFile.FieldType.boolean) prog_12_method_68_code 1 (Option.some Jvm.ClassFile.FieldType.boolean) 0 := ⟨kw_2_93, kw_1_210, kw_1_209, kw_1_212, kw_1_211, kw_1_209, kw_1_3, kw_1_212, by decide, by decide +kernel⟩
theorem ks_J0_54 : ky_wS "java/lang/String" 54 my_J7_copyOfRange_39247 prog_29_method_132_code 3 (Option.some (Jvm.ClassFile.FieldType.array Jvm.ClassFile.FieldType.byte)) 3 := ⟨kw_2_94, kw_2_95, kw_1_22, kw_2_96, by decide, by decide, by decide +kernel⟩
theorem kI_J0_489 : ky_wI "java/lang/String" 489 my_J0_init_db425 prog_22_method_150_code 5 2 := ⟨kw_2_76, kw_2_77, kw_1_5, kw_2_78, rfl, by decide, by decide, by decide +kernel⟩
theorem kI_J4_137 : ky_wI "java/lang/StringBuilder" 137 my_J0_init_81219 prog_22_method_53_code 2 1 := ⟨kw_2_73, kw_2_74, kw_1_5, kw_2_75, rfl, by decide, by decide, by decide +kernel⟩
def dl_J7_checkLength_df160_0 : List (ByteArray × Nat × Jvm.ClassFile.Instr × Nat) := [(prog_29_method_131_code, 0, .iload_n 1, 1), (prog_29_method_131_code, 1, .iload_n 0, 1), (prog_29_method_131_code, 2, .if_icmp .ge 35, 3), (prog_29_method_131_code, 37, .return_, 1), (prog_29_method_133_code, 0, .iload_n 1, 1), (prog_29_method_133_code, 1, .iload_n 2, 1), (prog_29_method_133_code, 2, .invokestatic 343, 3), (prog_29_method_133_code, 5, .iload_n 2, 1), (prog_29_method_133_code, 6, .iload_n 1, 1), (prog_29_method_133_code, 7, .isub, 1), (prog_29_method_133_code, 8, .istore_n 3, 1), (prog_29_method_133_code, 9, .iload_n 3, 1), (prog_29_method_133_code, 10, .newarray .byte, 2), (prog_29_method_133_code, 12, .astore 4, 2), (prog_29_method_133_code, 14, .aload_n 0, 1), (prog_29_method_133_code, 15, .iload_n 1, 1), (prog_29_method_133_code, 16, .aload 4, 2), (prog_29_method_133_code, 18, .iconst 0, 1), (prog_29_method_133_code, 19, .aload_n 0, 1), (prog_29_method_133_code, 20, .arraylength, 1), (prog_29_method_133_code, 21, .iload_n 1, 1), (prog_29_method_133_code, 22, .isub, 1), (prog_29_method_133_code, 23, .iload_n 3, 1), (prog_29_method_133_code, 24, .invokestatic 304, 3), (prog_29_method_133_code, 27, .invokestatic 150, 3), (prog_29_method_133_code, 30, .aload 4, 2), (prog_29_method_133_code, 32, .areturn, 1), (prog_29_method_132_code, 0, .iload_n 1, 1), (prog_29_method_132_code, 1, .ifCond .ne 9, 3), (prog_29_method_132_code, 4, .iload_n 2, 1), (prog_29_method_132_code, 5, .aload_n 0, 1), (prog_29_method_132_code, 6, .arraylength, 1), (prog_29_method_132_code, 7, .if_icmp .eq 10, 3), (prog_29_method_132_code, 17, .aload_n 0, 1), (prog_29_method_132_code, 18, .invokevirtual 310, 3), (prog_29_method_132_code, 21, .checkcast 311, 3), (prog_29_method_132_code, 24, .areturn, 1), (prog_29_method_132_code, 10, .aload_n 0, 1), (prog_29_method_132_code, 11, .iload_n 1, 1), (prog_29_method_132_code, 12, .iload_n 2, 1), (prog_29_method_132_code, 13, .invokestatic 339, 3), (prog_29_method_132_code, 16, .areturn, 1), (prog_22_method_150_code, 0, .aload_n 0, 1), (prog_22_method_150_code, 1, .invokespecial 1, 3), (prog_22_method_150_code, 4, .aload_n 1, 1), (prog_22_method_150_code, 5, .invokevirtual 552, 3), (prog_22_method_150_code, 8, .astore_n 3, 1), (prog_22_method_150_code, 9, .aload_n 1, 1), (prog_22_method_150_code, 10, .invokevirtual 549, 3), (prog_22_method_150_code, 13, .istore 4, 2), (prog_22_method_150_code, 15, .aload_n 1, 1), (prog_22_method_150_code, 16, .invokevirtual 1047, 3), (prog_22_method_150_code, 19, .ifCond .eq 22, 3), (prog_22_method_150_code, 22, .aload_n 0, 1), (prog_22_method_150_code, 23, .iconst 0, 1), (prog_22_method_150_code, 24, .putfield 15, 3), (prog_22_method_150_code, 27, .aload_n 0, 1), (prog_22_method_150_code, 28, .aload_n 3, 1), (prog_22_method_150_code, 29, .iconst 0, 1), (prog_22_method_150_code, 30, .iload 4, 2)]
theorem db_J7_checkLength_df160_0 : dl_J7_checkLength_df160_0.all (fun x => decide (decode x.1 x.2.1 = .ok x.2.2)) = true := by decide +kernel
theorem dc_J7_checkLength_df160_0 : decode prog_29_method_131_code 0 = .ok (.iload_n 1, 1) := ky_dc db_J7_checkLength_df160_0 0 rfl
theorem dc_J7_checkLength_df160_1 : decode prog_29_method_131_code 1 = .ok (.iload_n 0, 1) := ky_dc db_J7_checkLength_df160_0 1 rfl
theorem dc_J7_checkLength_df160_2 : decode prog_29_method_131_code 2 = .ok (.if_icmp .ge 35, 3) := ky_dc db_J7_checkLength_df160_0 2 rfl
theorem dc_J7_checkLength_df160_37 : decode prog_29_method_131_code 37 = .ok (.return_, 1) := ky_dc db_J7_checkLength_df160_0 3 rfl
theorem dc_J7_copyOfRangeByte_39247_0 : decode prog_29_method_133_code 0 = .ok (.iload_n 1, 1) := ky_dc db_J7_checkLength_df160_0 4 rfl
theorem dc_J7_copyOfRangeByte_39247_1 : decode prog_29_method_133_code 1 = .ok (.iload_n 2, 1) := ky_dc db_J7_checkLength_df160_0 5 rfl
theorem dc_J7_copyOfRangeByte_39247_2 : decode prog_29_method_133_code 2 = .ok (.invokestatic 343, 3) := ky_dc db_J7_checkLength_df160_0 6 rfl
theorem dc_J7_copyOfRangeByte_39247_5 : decode prog_29_method_133_code 5 = .ok (.iload_n 2, 1) := ky_dc db_J7_checkLength_df160_0 7 rfl
theorem dc_J7_copyOfRangeByte_39247_6 : decode prog_29_method_133_code 6 = .ok (.iload_n 1, 1) := ky_dc db_J7_checkLength_df160_0 8 rfl
theorem dc_J7_copyOfRangeByte_39247_7 : decode prog_29_method_133_code 7 = .ok (.isub, 1) := ky_dc db_J7_checkLength_df160_0 9 rfl
theorem dc_J7_copyOfRangeByte_39247_8 : decode prog_29_method_133_code 8 = .ok (.istore_n 3, 1) := ky_dc db_J7_checkLength_df160_0 10 rfl
theorem dc_J7_copyOfRangeByte_39247_9 : decode prog_29_method_133_code 9 = .ok (.iload_n 3, 1) := ky_dc db_J7_checkLength_df160_0 11 rfl
theorem dc_J7_copyOfRangeByte_39247_10 : decode prog_29_method_133_code 10 = .ok (.newarray .byte, 2) := ky_dc db_J7_checkLength_df160_0 12 rfl
theorem dc_J7_copyOfRangeByte_39247_12 : decode prog_29_method_133_code 12 = .ok (.astore 4, 2) := ky_dc db_J7_checkLength_df160_0 13 rfl
theorem dc_J7_copyOfRangeByte_39247_14 : decode prog_29_method_133_code 14 = .ok (.aload_n 0, 1) := ky_dc db_J7_checkLength_df160_0 14 rfl
theorem dc_J7_copyOfRangeByte_39247_15 : decode prog_29_method_133_code 15 = .ok (.iload_n 1, 1) := ky_dc db_J7_checkLength_df160_0 15 rfl
theorem dc_J7_copyOfRangeByte_39247_16 : decode prog_29_method_133_code 16 = .ok (.aload 4, 2) := ky_dc db_J7_checkLength_df160_0 16 rfl
theorem dc_J7_copyOfRangeByte_39247_18 : decode prog_29_method_133_code 18 = .ok (.iconst 0, 1) := ky_dc db_J7_checkLength_df160_0 17 rfl
theorem dc_J7_copyOfRangeByte_39247_19 : decode prog_29_method_133_code 19 = .ok (.aload_n 0, 1) := ky_dc db_J7_checkLength_df160_0 18 rfl
theorem dc_J7_copyOfRangeByte_39247_20 : decode prog_29_method_133_code 20 = .ok (.arraylength, 1) := ky_dc db_J7_checkLength_df160_0 19 rfl
theorem dc_J7_copyOfRangeByte_39247_21 : decode prog_29_method_133_code 21 = .ok (.iload_n 1, 1) := ky_dc db_J7_checkLength_df160_0 20 rfl
theorem dc_J7_copyOfRangeByte_39247_22 : decode prog_29_method_133_code 22 = .ok (.isub, 1) := ky_dc db_J7_checkLength_df160_0 21 rfl
theorem dc_J7_copyOfRangeByte_39247_23 : decode prog_29_method_133_code 23 = .ok (.iload_n 3, 1) := ky_dc db_J7_checkLength_df160_0 22 rfl
theorem dc_J7_copyOfRangeByte_39247_24 : decode prog_29_method_133_code 24 = .ok (.invokestatic 304, 3) := ky_dc db_J7_checkLength_df160_0 23 rfl
theorem dc_J7_copyOfRangeByte_39247_27 : decode prog_29_method_133_code 27 = .ok (.invokestatic 150, 3) := ky_dc db_J7_checkLength_df160_0 24 rfl
theorem dc_J7_copyOfRangeByte_39247_30 : decode prog_29_method_133_code 30 = .ok (.aload 4, 2) := ky_dc db_J7_checkLength_df160_0 25 rfl
theorem dc_J7_copyOfRangeByte_39247_32 : decode prog_29_method_133_code 32 = .ok (.areturn, 1) := ky_dc db_J7_checkLength_df160_0 26 rfl
theorem dc_J7_copyOfRange_39247_0 : decode prog_29_method_132_code 0 = .ok (.iload_n 1, 1) := ky_dc db_J7_checkLength_df160_0 27 rfl
theorem dc_J7_copyOfRange_39247_1 : decode prog_29_method_132_code 1 = .ok (.ifCond .ne 9, 3) := ky_dc db_J7_checkLength_df160_0 28 rfl
theorem dc_J7_copyOfRange_39247_4 : decode prog_29_method_132_code 4 = .ok (.iload_n 2, 1) := ky_dc db_J7_checkLength_df160_0 29 rfl
theorem dc_J7_copyOfRange_39247_5 : decode prog_29_method_132_code 5 = .ok (.aload_n 0, 1) := ky_dc db_J7_checkLength_df160_0 30 rfl
theorem dc_J7_copyOfRange_39247_6 : decode prog_29_method_132_code 6 = .ok (.arraylength, 1) := ky_dc db_J7_checkLength_df160_0 31 rfl
theorem dc_J7_copyOfRange_39247_7 : decode prog_29_method_132_code 7 = .ok (.if_icmp .eq 10, 3) := ky_dc db_J7_checkLength_df160_0 32 rfl
theorem dc_J7_copyOfRange_39247_17 : decode prog_29_method_132_code 17 = .ok (.aload_n 0, 1) := ky_dc db_J7_checkLength_df160_0 33 rfl
theorem dc_J7_copyOfRange_39247_18 : decode prog_29_method_132_code 18 = .ok (.invokevirtual 310, 3) := ky_dc db_J7_checkLength_df160_0 34 rfl
theorem dc_J7_copyOfRange_39247_21 : decode prog_29_method_132_code 21 = .ok (.checkcast 311, 3) := ky_dc db_J7_checkLength_df160_0 35 rfl
theorem dc_J7_copyOfRange_39247_24 : decode prog_29_method_132_code 24 = .ok (.areturn, 1) := ky_dc db_J7_checkLength_df160_0 36 rfl
theorem dc_J7_copyOfRange_39247_10 : decode prog_29_method_132_code 10 = .ok (.aload_n 0, 1) := ky_dc db_J7_checkLength_df160_0 37 rfl
theorem dc_J7_copyOfRange_39247_11 : decode prog_29_method_132_code 11 = .ok (.iload_n 1, 1) := ky_dc db_J7_checkLength_df160_0 38 rfl
theorem dc_J7_copyOfRange_39247_12 : decode prog_29_method_132_code 12 = .ok (.iload_n 2, 1) := ky_dc db_J7_checkLength_df160_0 39 rfl
theorem dc_J7_copyOfRange_39247_13 : decode prog_29_method_132_code 13 = .ok (.invokestatic 339, 3) := ky_dc db_J7_checkLength_df160_0 40 rfl
theorem dc_J7_copyOfRange_39247_16 : decode prog_29_method_132_code 16 = .ok (.areturn, 1) := ky_dc db_J7_checkLength_df160_0 41 rfl
theorem dc_J0_init_db425_0 : decode prog_22_method_150_code 0 = .ok (.aload_n 0, 1) := ky_dc db_J7_checkLength_df160_0 42 rfl
theorem dc_J0_init_db425_1 : decode prog_22_method_150_code 1 = .ok (.invokespecial 1, 3) := ky_dc db_J7_checkLength_df160_0 43 rfl
theorem dc_J0_init_db425_4 : decode prog_22_method_150_code 4 = .ok (.aload_n 1, 1) := ky_dc db_J7_checkLength_df160_0 44 rfl
theorem dc_J0_init_db425_5 : decode prog_22_method_150_code 5 = .ok (.invokevirtual 552, 3) := ky_dc db_J7_checkLength_df160_0 45 rfl
theorem dc_J0_init_db425_8 : decode prog_22_method_150_code 8 = .ok (.astore_n 3, 1) := ky_dc db_J7_checkLength_df160_0 46 rfl
theorem dc_J0_init_db425_9 : decode prog_22_method_150_code 9 = .ok (.aload_n 1, 1) := ky_dc db_J7_checkLength_df160_0 47 rfl
theorem dc_J0_init_db425_10 : decode prog_22_method_150_code 10 = .ok (.invokevirtual 549, 3) := ky_dc db_J7_checkLength_df160_0 48 rfl
theorem dc_J0_init_db425_13 : decode prog_22_method_150_code 13 = .ok (.istore 4, 2) := ky_dc db_J7_checkLength_df160_0 49 rfl
theorem dc_J0_init_db425_15 : decode prog_22_method_150_code 15 = .ok (.aload_n 1, 1) := ky_dc db_J7_checkLength_df160_0 50 rfl
theorem dc_J0_init_db425_16 : decode prog_22_method_150_code 16 = .ok (.invokevirtual 1047, 3) := ky_dc db_J7_checkLength_df160_0 51 rfl
theorem dc_J0_init_db425_19 : decode prog_22_method_150_code 19 = .ok (.ifCond .eq 22, 3) := ky_dc db_J7_checkLength_df160_0 52 rfl
theorem dc_J0_init_db425_22 : decode prog_22_method_150_code 22 = .ok (.aload_n 0, 1) := ky_dc db_J7_checkLength_df160_0 53 rfl
theorem dc_J0_init_db425_23 : decode prog_22_method_150_code 23 = .ok (.iconst 0, 1) := ky_dc db_J7_checkLength_df160_0 54 rfl
theorem dc_J0_init_db425_24 : decode prog_22_method_150_code 24 = .ok (.putfield 15, 3) := ky_dc db_J7_checkLength_df160_0 55 rfl
theorem dc_J0_init_db425_27 : decode prog_22_method_150_code 27 = .ok (.aload_n 0, 1) := ky_dc db_J7_checkLength_df160_0 56 rfl
theorem dc_J0_init_db425_28 : decode prog_22_method_150_code 28 = .ok (.aload_n 3, 1) := ky_dc db_J7_checkLength_df160_0 57 rfl
theorem dc_J0_init_db425_29 : decode prog_22_method_150_code 29 = .ok (.iconst 0, 1) := ky_dc db_J7_checkLength_df160_0 58 rfl
theorem dc_J0_init_db425_30 : decode prog_22_method_150_code 30 = .ok (.iload 4, 2) := ky_dc db_J7_checkLength_df160_0 59 rfl
def dl_J0_init_db425_32 : List (ByteArray × Nat × Jvm.ClassFile.Instr × Nat) := [(prog_22_method_150_code, 32, .invokestatic 54, 3), (prog_22_method_150_code, 35, .putfield 9, 3), (prog_22_method_150_code, 38, .goto 59, 3), (prog_22_method_150_code, 97, .return_, 1), (prog_22_method_53_code, 0, .aload_n 0, 1), (prog_22_method_53_code, 1, .aload_n 1, 1), (prog_22_method_53_code, 2, .aconst_null, 1), (prog_22_method_53_code, 3, .invokespecial 489, 3), (prog_22_method_53_code, 6, .return_, 1), (prog_23_method_42_code, 0, .new 18, 3), (prog_23_method_42_code, 3, .dup, 1), (prog_23_method_42_code, 4, .aload_n 0, 1), (prog_23_method_42_code, 5, .invokespecial 137, 3), (prog_23_method_42_code, 8, .areturn, 1)]
theorem db_J0_init_db425_32 : dl_J0_init_db425_32.all (fun x => decide (decode x.1 x.2.1 = .ok x.2.2)) = true := by decide +kernel
theorem dc_J0_init_db425_32 : decode prog_22_method_150_code 32 = .ok (.invokestatic 54, 3) := ky_dc db_J0_init_db425_32 0 rfl
theorem dc_J0_init_db425_35 : decode prog_22_method_150_code 35 = .ok (.putfield 9, 3) := ky_dc db_J0_init_db425_32 1 rfl
theorem dc_J0_init_db425_38 : decode prog_22_method_150_code 38 = .ok (.goto 59, 3) := ky_dc db_J0_init_db425_32 2 rfl
theorem dc_J0_init_db425_97 : decode prog_22_method_150_code 97 = .ok (.return_, 1) := ky_dc db_J0_init_db425_32 3 rfl
theorem dc_J0_init_81219_0 : decode prog_22_method_53_code 0 = .ok (.aload_n 0, 1) := ky_dc db_J0_init_db425_32 4 rfl
theorem dc_J0_init_81219_1 : decode prog_22_method_53_code 1 = .ok (.aload_n 1, 1) := ky_dc db_J0_init_db425_32 5 rfl
theorem dc_J0_init_81219_2 : decode prog_22_method_53_code 2 = .ok (.aconst_null, 1) := ky_dc db_J0_init_db425_32 6 rfl
theorem dc_J0_init_81219_3 : decode prog_22_method_53_code 3 = .ok (.invokespecial 489, 3) := ky_dc db_J0_init_db425_32 7 rfl
theorem dc_J0_init_81219_6 : decode prog_22_method_53_code 6 = .ok (.return_, 1) := ky_dc db_J0_init_db425_32 8 rfl
theorem dc_J4_toString_0e30d_0 : decode prog_23_method_42_code 0 = .ok (.new 18, 3) := ky_dc db_J0_init_db425_32 9 rfl
theorem dc_J4_toString_0e30d_3 : decode prog_23_method_42_code 3 = .ok (.dup, 1) := ky_dc db_J0_init_db425_32 10 rfl
theorem dc_J4_toString_0e30d_4 : decode prog_23_method_42_code 4 = .ok (.aload_n 0, 1) := ky_dc db_J0_init_db425_32 11 rfl
theorem dc_J4_toString_0e30d_5 : decode prog_23_method_42_code 5 = .ok (.invokespecial 137, 3) := ky_dc db_J0_init_db425_32 12 rfl
theorem dc_J4_toString_0e30d_8 : decode prog_23_method_42_code 8 = .ok (.areturn, 1) := ky_dc db_J0_init_db425_32 13 rfl
