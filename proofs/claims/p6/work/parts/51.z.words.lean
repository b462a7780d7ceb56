abbrev my_X1_init : MethodName := ⟨"Exactdoubles$Proof", "<init>", "()V"⟩
abbrev my_X6_init : MethodName := ⟨"Exactdoubles", "<init>", "()V"⟩
abbrev my_X7_init : MethodName := ⟨"ExactdoublesLaw$Out", "<init>", "()V"⟩
abbrev my_X9_init : MethodName := ⟨"ExactdoublesModel", "<init>", "()V"⟩
theorem kw_1_91 : (Jvm.Cond.methodLink "Exactdoubles$Proof" (3 : Nat) ({ cls := "java/lang/Object", name := "<init>", desc := "()V" } : Jvm.MethodName)) ∈ ky_B := ky_mem (kc_1 _ (List.mem_of_getElem? (i := 91) rfl)) (by decide +kernel)
theorem kw_1_76 : (Jvm.Cond.arrayClass Jvm.ClassFile.FieldType.long) ∈ ky_B := ky_mem (kc_1 _ (List.mem_of_getElem? (i := 76) rfl)) (by decide +kernel)
theorem kw_1_92 : (Jvm.Cond.classLink "Exactdoubles$Proof" (11 : Nat) "[[J") ∈ ky_B := ky_mem (kc_1 _ (List.mem_of_getElem? (i := 92) rfl)) (by decide +kernel)
theorem kw_1_35 : (Jvm.Cond.methodLink "Exactdoubles" (1 : Nat) ({ cls := "java/lang/Object", name := "<init>", desc := "()V" } : Jvm.MethodName)) ∈ ky_B := ky_mem (kc_1 _ (List.mem_of_getElem? (i := 35) rfl)) (by decide +kernel)
theorem kw_1_39 : (Jvm.Cond.instantiable "Exactdoubles$Scribe" (2 : Nat)) ∈ ky_B := ky_mem (kc_1 _ (List.mem_of_getElem? (i := 39) rfl)) (by decide +kernel)
theorem kw_1_38 : (Jvm.Cond.classLink "Exactdoubles" (13 : Nat) "Exactdoubles$Scribe") ∈ ky_B := ky_mem (kc_1 _ (List.mem_of_getElem? (i := 38) rfl)) (by decide +kernel)
theorem kw_1_40 : (Jvm.Cond.methodLink "Exactdoubles" (15 : Nat) ({ cls := "Exactdoubles$Scribe", name := "<init>", desc := "()V" } : Jvm.MethodName)) ∈ ky_B := ky_mem (kc_1 _ (List.mem_of_getElem? (i := 40) rfl)) (by decide +kernel)
theorem kw_1_41 : (Jvm.Cond.instanceMethod ({ cls := "Exactdoubles$Scribe", name := "<init>", desc := "()V" } : Jvm.MethodName)) ∈ ky_B := ky_mem (kc_1 _ (List.mem_of_getElem? (i := 41) rfl)) (by decide +kernel)
theorem kw_1_42 : (Jvm.Cond.code ({ cls := "Exactdoubles$Scribe", name := "<init>", desc := "()V" } : Jvm.MethodName) prog_5_method_1_code (1 : Nat) (Option.none : Option Jvm.ClassFile.FieldType)) ∈ ky_B := ky_mem (kc_1 _ (List.mem_of_getElem? (i := 42) rfl)) (by decide +kernel)
theorem kw_1_87 : (Jvm.Cond.instantiable "Exactdoubles$Proof" (1 : Nat)) ∈ ky_B := ky_mem (kc_1 _ (List.mem_of_getElem? (i := 87) rfl)) (by decide +kernel)
theorem kw_1_86 : (Jvm.Cond.classLink "Exactdoubles" (20 : Nat) "Exactdoubles$Proof") ∈ ky_B := ky_mem (kc_1 _ (List.mem_of_getElem? (i := 86) rfl)) (by decide +kernel)
theorem kw_1_88 : (Jvm.Cond.methodLink "Exactdoubles" (22 : Nat) ({ cls := "Exactdoubles$Proof", name := "<init>", desc := "()V" } : Jvm.MethodName)) ∈ ky_B := ky_mem (kc_1 _ (List.mem_of_getElem? (i := 88) rfl)) (by decide +kernel)
theorem kw_1_89 : (Jvm.Cond.instanceMethod ({ cls := "Exactdoubles$Proof", name := "<init>", desc := "()V" } : Jvm.MethodName)) ∈ ky_B := ky_mem (kc_1 _ (List.mem_of_getElem? (i := 89) rfl)) (by decide +kernel)
theorem kw_1_90 : (Jvm.Cond.code ({ cls := "Exactdoubles$Proof", name := "<init>", desc := "()V" } : Jvm.MethodName) prog_3_method_1_code (1 : Nat) (Option.none : Option Jvm.ClassFile.FieldType)) ∈ ky_B := ky_mem (kc_1 _ (List.mem_of_getElem? (i := 90) rfl)) (by decide +kernel)
theorem kw_4_71 : (Jvm.Cond.methodLink "ExactdoublesLaw$Out" (1 : Nat) ({ cls := "java/lang/Object", name := "<init>", desc := "()V" } : Jvm.MethodName)) ∈ ky_B := ky_mem (kc_4 _ (List.mem_of_getElem? (i := 71) rfl)) (by decide +kernel)
theorem kw_6_2 : (Jvm.Cond.methodLink "ExactdoublesModel" (17 : Nat) ({ cls := "java/lang/Object", name := "<init>", desc := "()V" } : Jvm.MethodName)) ∈ ky_B := ky_mem (kc_6 _ (List.mem_of_getElem? (i := 2) rfl)) (by decide +kernel)
theorem kI_X6_15 : ky_wI "Exactdoubles" 15 my_X3_init prog_5_method_1_code 1 0 := ⟨kw_1_40, kw_1_41, kw_1_2, kw_1_42, rfl, by decide, by decide, by decide +kernel⟩
theorem kI_X6_22 : ky_wI "Exactdoubles" 22 my_X1_init prog_3_method_1_code 1 0 := ⟨kw_1_88, kw_1_89, kw_1_7, kw_1_90, rfl, by decide, by decide, by decide +kernel⟩
def dl_X1_init_0 : List (ByteArray × Nat × Jvm.ClassFile.Instr × Nat) := [(prog_3_method_1_code, 0, .aload_n 0, 1), (prog_3_method_1_code, 1, .invokespecial 3, 3), (prog_3_method_1_code, 4, .aload_n 0, 1), (prog_3_method_1_code, 5, .bipush 8, 2), (prog_3_method_1_code, 7, .bipush 6, 2), (prog_3_method_1_code, 9, .multianewarray 11 2, 4), (prog_3_method_1_code, 13, .putfield 13, 3), (prog_3_method_1_code, 16, .return_, 1), (prog_1_method_1_code, 0, .aload_n 0, 1), (prog_1_method_1_code, 1, .invokespecial 1, 3), (prog_1_method_1_code, 4, .aload_n 0, 1), (prog_1_method_1_code, 5, .bipush 6, 2), (prog_1_method_1_code, 7, .newarray .long, 2), (prog_1_method_1_code, 9, .putfield 9, 3), (prog_1_method_1_code, 12, .aload_n 0, 1), (prog_1_method_1_code, 13, .new 13, 3), (prog_1_method_1_code, 16, .dup, 1), (prog_1_method_1_code, 17, .invokespecial 15, 3), (prog_1_method_1_code, 20, .putfield 16, 3), (prog_1_method_1_code, 23, .aload_n 0, 1), (prog_1_method_1_code, 24, .new 20, 3), (prog_1_method_1_code, 27, .dup, 1), (prog_1_method_1_code, 28, .invokespecial 22, 3), (prog_1_method_1_code, 31, .putfield 23, 3), (prog_1_method_1_code, 34, .return_, 1), (prog_9_method_1_code, 0, .aload_n 0, 1), (prog_9_method_1_code, 1, .invokespecial 1, 3), (prog_9_method_1_code, 4, .return_, 1), (prog_10_method_6_code, 0, .aload_n 0, 1), (prog_10_method_6_code, 1, .invokespecial 17, 3), (prog_10_method_6_code, 4, .aload_n 0, 1), (prog_10_method_6_code, 5, .bipush 6, 2), (prog_10_method_6_code, 7, .anewarray 23, 3), (prog_10_method_6_code, 10, .putfield 25, 3), (prog_10_method_6_code, 13, .iconst 0, 1), (prog_10_method_6_code, 14, .istore_n 1, 1), (prog_10_method_6_code, 15, .iload_n 1, 1), (prog_10_method_6_code, 16, .bipush 6, 2), (prog_10_method_6_code, 18, .if_icmp .ge 24, 3), (prog_10_method_6_code, 21, .aload_n 0, 1), (prog_10_method_6_code, 22, .getfield 25, 3), (prog_10_method_6_code, 25, .iload_n 1, 1), (prog_10_method_6_code, 26, .new 23, 3), (prog_10_method_6_code, 29, .dup, 1), (prog_10_method_6_code, 30, .iconst 0, 1), (prog_10_method_6_code, 31, .lconst 0, 1), (prog_10_method_6_code, 32, .invokespecial 29, 3), (prog_10_method_6_code, 35, .aastore, 1), (prog_10_method_6_code, 36, .iinc 1 1, 3), (prog_10_method_6_code, 39, .goto (-24), 3), (prog_10_method_6_code, 42, .return_, 1)]
theorem db_X1_init_0 : dl_X1_init_0.all (fun x => decide (decode x.1 x.2.1 = .ok x.2.2)) = true := by decide +kernel
theorem dc_X1_init_0 : decode prog_3_method_1_code 0 = .ok (.aload_n 0, 1) := ky_dc db_X1_init_0 0 rfl
theorem dc_X1_init_1 : decode prog_3_method_1_code 1 = .ok (.invokespecial 3, 3) := ky_dc db_X1_init_0 1 rfl
theorem dc_X1_init_4 : decode prog_3_method_1_code 4 = .ok (.aload_n 0, 1) := ky_dc db_X1_init_0 2 rfl
theorem dc_X1_init_5 : decode prog_3_method_1_code 5 = .ok (.bipush 8, 2) := ky_dc db_X1_init_0 3 rfl
theorem dc_X1_init_7 : decode prog_3_method_1_code 7 = .ok (.bipush 6, 2) := ky_dc db_X1_init_0 4 rfl
theorem dc_X1_init_9 : decode prog_3_method_1_code 9 = .ok (.multianewarray 11 2, 4) := ky_dc db_X1_init_0 5 rfl
theorem dc_X1_init_13 : decode prog_3_method_1_code 13 = .ok (.putfield 13, 3) := ky_dc db_X1_init_0 6 rfl
theorem dc_X1_init_16 : decode prog_3_method_1_code 16 = .ok (.return_, 1) := ky_dc db_X1_init_0 7 rfl
theorem dc_X6_init_0 : decode prog_1_method_1_code 0 = .ok (.aload_n 0, 1) := ky_dc db_X1_init_0 8 rfl
theorem dc_X6_init_1 : decode prog_1_method_1_code 1 = .ok (.invokespecial 1, 3) := ky_dc db_X1_init_0 9 rfl
theorem dc_X6_init_4 : decode prog_1_method_1_code 4 = .ok (.aload_n 0, 1) := ky_dc db_X1_init_0 10 rfl
theorem dc_X6_init_5 : decode prog_1_method_1_code 5 = .ok (.bipush 6, 2) := ky_dc db_X1_init_0 11 rfl
theorem dc_X6_init_7 : decode prog_1_method_1_code 7 = .ok (.newarray .long, 2) := ky_dc db_X1_init_0 12 rfl
theorem dc_X6_init_9 : decode prog_1_method_1_code 9 = .ok (.putfield 9, 3) := ky_dc db_X1_init_0 13 rfl
theorem dc_X6_init_12 : decode prog_1_method_1_code 12 = .ok (.aload_n 0, 1) := ky_dc db_X1_init_0 14 rfl
theorem dc_X6_init_13 : decode prog_1_method_1_code 13 = .ok (.new 13, 3) := ky_dc db_X1_init_0 15 rfl
theorem dc_X6_init_16 : decode prog_1_method_1_code 16 = .ok (.dup, 1) := ky_dc db_X1_init_0 16 rfl
theorem dc_X6_init_17 : decode prog_1_method_1_code 17 = .ok (.invokespecial 15, 3) := ky_dc db_X1_init_0 17 rfl
theorem dc_X6_init_20 : decode prog_1_method_1_code 20 = .ok (.putfield 16, 3) := ky_dc db_X1_init_0 18 rfl
theorem dc_X6_init_23 : decode prog_1_method_1_code 23 = .ok (.aload_n 0, 1) := ky_dc db_X1_init_0 19 rfl
theorem dc_X6_init_24 : decode prog_1_method_1_code 24 = .ok (.new 20, 3) := ky_dc db_X1_init_0 20 rfl
theorem dc_X6_init_27 : decode prog_1_method_1_code 27 = .ok (.dup, 1) := ky_dc db_X1_init_0 21 rfl
theorem dc_X6_init_28 : decode prog_1_method_1_code 28 = .ok (.invokespecial 22, 3) := ky_dc db_X1_init_0 22 rfl
theorem dc_X6_init_31 : decode prog_1_method_1_code 31 = .ok (.putfield 23, 3) := ky_dc db_X1_init_0 23 rfl
theorem dc_X6_init_34 : decode prog_1_method_1_code 34 = .ok (.return_, 1) := ky_dc db_X1_init_0 24 rfl
theorem dc_X7_init_0 : decode prog_9_method_1_code 0 = .ok (.aload_n 0, 1) := ky_dc db_X1_init_0 25 rfl
theorem dc_X7_init_1 : decode prog_9_method_1_code 1 = .ok (.invokespecial 1, 3) := ky_dc db_X1_init_0 26 rfl
theorem dc_X7_init_4 : decode prog_9_method_1_code 4 = .ok (.return_, 1) := ky_dc db_X1_init_0 27 rfl
theorem dc_X9_init_0 : decode prog_10_method_6_code 0 = .ok (.aload_n 0, 1) := ky_dc db_X1_init_0 28 rfl
theorem dc_X9_init_1 : decode prog_10_method_6_code 1 = .ok (.invokespecial 17, 3) := ky_dc db_X1_init_0 29 rfl
theorem dc_X9_init_4 : decode prog_10_method_6_code 4 = .ok (.aload_n 0, 1) := ky_dc db_X1_init_0 30 rfl
theorem dc_X9_init_5 : decode prog_10_method_6_code 5 = .ok (.bipush 6, 2) := ky_dc db_X1_init_0 31 rfl
theorem dc_X9_init_7 : decode prog_10_method_6_code 7 = .ok (.anewarray 23, 3) := ky_dc db_X1_init_0 32 rfl
theorem dc_X9_init_10 : decode prog_10_method_6_code 10 = .ok (.putfield 25, 3) := ky_dc db_X1_init_0 33 rfl
theorem dc_X9_init_13 : decode prog_10_method_6_code 13 = .ok (.iconst 0, 1) := ky_dc db_X1_init_0 34 rfl
theorem dc_X9_init_14 : decode prog_10_method_6_code 14 = .ok (.istore_n 1, 1) := ky_dc db_X1_init_0 35 rfl
theorem dc_X9_init_15 : decode prog_10_method_6_code 15 = .ok (.iload_n 1, 1) := ky_dc db_X1_init_0 36 rfl
theorem dc_X9_init_16 : decode prog_10_method_6_code 16 = .ok (.bipush 6, 2) := ky_dc db_X1_init_0 37 rfl
theorem dc_X9_init_18 : decode prog_10_method_6_code 18 = .ok (.if_icmp .ge 24, 3) := ky_dc db_X1_init_0 38 rfl
theorem dc_X9_init_21 : decode prog_10_method_6_code 21 = .ok (.aload_n 0, 1) := ky_dc db_X1_init_0 39 rfl
theorem dc_X9_init_22 : decode prog_10_method_6_code 22 = .ok (.getfield 25, 3) := ky_dc db_X1_init_0 40 rfl
theorem dc_X9_init_25 : decode prog_10_method_6_code 25 = .ok (.iload_n 1, 1) := ky_dc db_X1_init_0 41 rfl
theorem dc_X9_init_26 : decode prog_10_method_6_code 26 = .ok (.new 23, 3) := ky_dc db_X1_init_0 42 rfl
theorem dc_X9_init_29 : decode prog_10_method_6_code 29 = .ok (.dup, 1) := ky_dc db_X1_init_0 43 rfl
theorem dc_X9_init_30 : decode prog_10_method_6_code 30 = .ok (.iconst 0, 1) := ky_dc db_X1_init_0 44 rfl
theorem dc_X9_init_31 : decode prog_10_method_6_code 31 = .ok (.lconst 0, 1) := ky_dc db_X1_init_0 45 rfl
theorem dc_X9_init_32 : decode prog_10_method_6_code 32 = .ok (.invokespecial 29, 3) := ky_dc db_X1_init_0 46 rfl
theorem dc_X9_init_35 : decode prog_10_method_6_code 35 = .ok (.aastore, 1) := ky_dc db_X1_init_0 47 rfl
theorem dc_X9_init_36 : decode prog_10_method_6_code 36 = .ok (.iinc 1 1, 3) := ky_dc db_X1_init_0 48 rfl
theorem dc_X9_init_39 : decode prog_10_method_6_code 39 = .ok (.goto (-24), 3) := ky_dc db_X1_init_0 49 rfl
theorem dc_X9_init_42 : decode prog_10_method_6_code 42 = .ok (.return_, 1) := ky_dc db_X1_init_0 50 rfl
