abbrev my_X1_init : MethodName := ⟨"Exactdoubles$Proof", "<init>", "()V"⟩
abbrev my_X6_init : MethodName := ⟨"Exactdoubles", "<init>", "()V"⟩
abbrev my_X7_init : MethodName := ⟨"ExactdoublesLaw$Out", "<init>", "()V"⟩
abbrev my_X9_init : MethodName := ⟨"ExactdoublesModel", "<init>", "()V"⟩
theorem kw_1_91 : (Jvm.Cond.methodLink "Exactdoubles$Proof" (3 : Nat) ({ cls := "java/lang/Object", name := "<init>", desc := "()V" } : Jvm.MethodName)) ∈ ky_B := ky_mem (kc_1 _ (List.mem_of_getElem? (i := 91) rfl)) (by decide +kernel)
theorem kw_1_76 : (Jvm.Cond.arrayClass Jvm.ClassFile.FieldType.long) ∈ ky_B := ky_mem (kc_1 _ (List.mem_of_getElem? (i := 76) rfl)) (by decide +kernel)
theorem kw_1_92 : (Jvm.Cond.classLink "Exactdoubles$Proof" (11 : Nat) "[[J") ∈ ky_B := ky_mem (kc_1 _ (List.mem_of_getElem? (i := 92) rfl)) (by decide +kernel)
theorem kw_1_35 : (Jvm.Cond.methodLink "Exactdoubles" (1 : Nat) ({ cls := "java/lang/Object", name := "<init>", desc := "()V" } : Jvm.MethodName)) ∈ ky_B := ky_mem (kc_1 _ (List.mem_of_getElem? (i := 35) rfl)) (by decide +kernel)
theorem kw_1_39 : (Jvm.Cond.instantiable "Exactdoubles$Scribe" (2 : Nat)) ∈ ky_B := ky_mem (kc_1 _ (List.mem_of_getElem? (i := 39) rfl)) (by decide +kernel)
theorem kw_1_38 : (Jvm.Cond.classLink "Exactdoubles" (13 : Nat) "Exactdoubles$Scribe") ∈ ky_B := ky_mem (kc_1 _ (List.mem_of_getElem? (i := 38) rfl)) (by decide +kernel)
theorem kw_1_40 : (Jvm.Cond.methodLink "Exactdoubles" (15 : Nat) ({ cls := "Exactdoubles$Scribe", name := "<init>", desc := "()V" } : Jvm.MethodName)) ∈ ky_B := ky_mem (kc_1 _ (List.mem_of_getElem? (i := 40) rfl)) (by decide +kernel)
theorem kw_1_41 : (Jvm.Cond.instanceMethod ({ cls := "Exactdoubles$Scribe", name := "<init>", desc := "()V" } : Jvm.MethodName)) ∈ ky_B := ky_mem (kc_1 _ (List.mem_of_getElem? (i := 41) rfl)) (by decide +kernel)
theorem kw_1_42 : (Jvm.Cond.code ({ cls := "Exactdoubles$Scribe", name := "<init>", desc := "()V" } : Jvm.MethodName) prog_5_method_1_code (1 : Nat) (Option.none : Option Jvm.ClassFile.FieldType)) ∈ ky_B := ky_mem (kc_1 _ (List.mem_of_getElem? (i := 42) rfl)) (by decide +kernel)
theorem kw_1_87 : (Jvm.Cond.instantiable "Exactdoubles$Proof" (1 : Nat)) ∈ ky_B := ky_mem (kc_1 _ (List.mem_of_getElem? (i := 87) rfl)) (by decide +kernel)
theorem kw_1_86 : (Jvm.Cond.classLink "Exactdoubles" (20 : Nat) "Exactdoubles$Proof") ∈ ky_B := ky_mem (kc_1 _ (List.mem_of_getElem? (i := 86) rfl)) (by decide +kernel)
theorem kw_1_88 : (Jvm.Cond.methodLink "Exactdoubles" (22 : Nat) ({ cls := "Exactdoubles$Proof", name := "<init>", desc := "()V" } : Jvm.MethodName)) ∈ ky_B := ky_mem (kc_1 _ (List.mem_of_getElem? (i := 88) rfl)) (by decide +kernel)
theorem kw_1_89 : (Jvm.Cond.instanceMethod ({ cls := "Exactdoubles$Proof", name := "<init>", desc := "()V" } : Jvm.MethodName)) ∈ ky_B := ky_mem (kc_1 _ (List.mem_of_getElem? (i := 89) rfl)) (by decide +kernel)
theorem kw_1_90 : (Jvm.Cond.code ({ cls := "Exactdoubles$Proof", name := "<init>", desc := "()V" } : Jvm.MethodName) prog_3_method_1_code (1 : Nat) (Option.none : Option Jvm.ClassFile.FieldType)) ∈ ky_B := ky_mem (kc_1 _ (List.mem_of_getElem? (i := 90) rfl)) (by decide +kernel)
theorem kw_4_71 : (Jvm.Cond.methodLink "ExactdoublesLaw$Out" (1 : Nat) ({ cls := "java/lang/Object", name := "<init>", desc := "()V" } : Jvm.MethodName)) ∈ ky_B := ky_mem (kc_4 _ (List.mem_of_getElem? (i := 71) rfl)) (by decide +kernel)
theorem kw_6_2 : (Jvm.Cond.methodLink "ExactdoublesModel" (17 : Nat) ({ cls := "java/lang/Object", name := "<init>", desc := "()V" } : Jvm.MethodName)) ∈ ky_B := ky_mem (kc_6 _ (List.mem_of_getElem? (i := 2) rfl)) (by decide +kernel)
theorem kI_X6_15 : ky_wI "Exactdoubles" 15 my_X3_init prog_5_method_1_code 1 0 := ⟨kw_1_40, kw_1_41, kw_1_2, kw_1_42, rfl, by decide, by decide, by decide +kernel⟩
theorem kI_X6_22 : ky_wI "Exactdoubles" 22 my_X1_init prog_3_method_1_code 1 0 := ⟨kw_1_88, kw_1_89, kw_1_7, kw_1_90, rfl, by decide, by decide, by decide +kernel⟩
theorem dc_X1_init_0 : decode prog_3_method_1_code 0 = .ok (.aload_n 0, 1) := by decide +kernel
theorem dc_X1_init_1 : decode prog_3_method_1_code 1 = .ok (.invokespecial 3, 3) := by decide +kernel
theorem dc_X1_init_4 : decode prog_3_method_1_code 4 = .ok (.aload_n 0, 1) := by decide +kernel
theorem dc_X1_init_5 : decode prog_3_method_1_code 5 = .ok (.bipush 8, 2) := by decide +kernel
theorem dc_X1_init_7 : decode prog_3_method_1_code 7 = .ok (.bipush 6, 2) := by decide +kernel
theorem dc_X1_init_9 : decode prog_3_method_1_code 9 = .ok (.multianewarray 11 2, 4) := by decide +kernel
theorem dc_X1_init_13 : decode prog_3_method_1_code 13 = .ok (.putfield 13, 3) := by decide +kernel
theorem dc_X1_init_16 : decode prog_3_method_1_code 16 = .ok (.return_, 1) := by decide +kernel
theorem dc_X6_init_0 : decode prog_1_method_1_code 0 = .ok (.aload_n 0, 1) := by decide +kernel
theorem dc_X6_init_1 : decode prog_1_method_1_code 1 = .ok (.invokespecial 1, 3) := by decide +kernel
theorem dc_X6_init_4 : decode prog_1_method_1_code 4 = .ok (.aload_n 0, 1) := by decide +kernel
theorem dc_X6_init_5 : decode prog_1_method_1_code 5 = .ok (.bipush 6, 2) := by decide +kernel
theorem dc_X6_init_7 : decode prog_1_method_1_code 7 = .ok (.newarray .long, 2) := by decide +kernel
theorem dc_X6_init_9 : decode prog_1_method_1_code 9 = .ok (.putfield 9, 3) := by decide +kernel
theorem dc_X6_init_12 : decode prog_1_method_1_code 12 = .ok (.aload_n 0, 1) := by decide +kernel
theorem dc_X6_init_13 : decode prog_1_method_1_code 13 = .ok (.new 13, 3) := by decide +kernel
theorem dc_X6_init_16 : decode prog_1_method_1_code 16 = .ok (.dup, 1) := by decide +kernel
theorem dc_X6_init_17 : decode prog_1_method_1_code 17 = .ok (.invokespecial 15, 3) := by decide +kernel
theorem dc_X6_init_20 : decode prog_1_method_1_code 20 = .ok (.putfield 16, 3) := by decide +kernel
theorem dc_X6_init_23 : decode prog_1_method_1_code 23 = .ok (.aload_n 0, 1) := by decide +kernel
theorem dc_X6_init_24 : decode prog_1_method_1_code 24 = .ok (.new 20, 3) := by decide +kernel
theorem dc_X6_init_27 : decode prog_1_method_1_code 27 = .ok (.dup, 1) := by decide +kernel
theorem dc_X6_init_28 : decode prog_1_method_1_code 28 = .ok (.invokespecial 22, 3) := by decide +kernel
theorem dc_X6_init_31 : decode prog_1_method_1_code 31 = .ok (.putfield 23, 3) := by decide +kernel
theorem dc_X6_init_34 : decode prog_1_method_1_code 34 = .ok (.return_, 1) := by decide +kernel
theorem dc_X7_init_0 : decode prog_9_method_1_code 0 = .ok (.aload_n 0, 1) := by decide +kernel
theorem dc_X7_init_1 : decode prog_9_method_1_code 1 = .ok (.invokespecial 1, 3) := by decide +kernel
theorem dc_X7_init_4 : decode prog_9_method_1_code 4 = .ok (.return_, 1) := by decide +kernel
theorem dc_X9_init_0 : decode prog_10_method_6_code 0 = .ok (.aload_n 0, 1) := by decide +kernel
theorem dc_X9_init_1 : decode prog_10_method_6_code 1 = .ok (.invokespecial 17, 3) := by decide +kernel
theorem dc_X9_init_4 : decode prog_10_method_6_code 4 = .ok (.aload_n 0, 1) := by decide +kernel
theorem dc_X9_init_5 : decode prog_10_method_6_code 5 = .ok (.bipush 6, 2) := by decide +kernel
theorem dc_X9_init_7 : decode prog_10_method_6_code 7 = .ok (.anewarray 23, 3) := by decide +kernel
theorem dc_X9_init_10 : decode prog_10_method_6_code 10 = .ok (.putfield 25, 3) := by decide +kernel
theorem dc_X9_init_13 : decode prog_10_method_6_code 13 = .ok (.iconst 0, 1) := by decide +kernel
theorem dc_X9_init_14 : decode prog_10_method_6_code 14 = .ok (.istore_n 1, 1) := by decide +kernel
theorem dc_X9_init_15 : decode prog_10_method_6_code 15 = .ok (.iload_n 1, 1) := by decide +kernel
theorem dc_X9_init_16 : decode prog_10_method_6_code 16 = .ok (.bipush 6, 2) := by decide +kernel
theorem dc_X9_init_18 : decode prog_10_method_6_code 18 = .ok (.if_icmp .ge 24, 3) := by decide +kernel
theorem dc_X9_init_21 : decode prog_10_method_6_code 21 = .ok (.aload_n 0, 1) := by decide +kernel
theorem dc_X9_init_22 : decode prog_10_method_6_code 22 = .ok (.getfield 25, 3) := by decide +kernel
theorem dc_X9_init_25 : decode prog_10_method_6_code 25 = .ok (.iload_n 1, 1) := by decide +kernel
theorem dc_X9_init_26 : decode prog_10_method_6_code 26 = .ok (.new 23, 3) := by decide +kernel
theorem dc_X9_init_29 : decode prog_10_method_6_code 29 = .ok (.dup, 1) := by decide +kernel
theorem dc_X9_init_30 : decode prog_10_method_6_code 30 = .ok (.iconst 0, 1) := by decide +kernel
theorem dc_X9_init_31 : decode prog_10_method_6_code 31 = .ok (.lconst 0, 1) := by decide +kernel
theorem dc_X9_init_32 : decode prog_10_method_6_code 32 = .ok (.invokespecial 29, 3) := by decide +kernel
theorem dc_X9_init_35 : decode prog_10_method_6_code 35 = .ok (.aastore, 1) := by decide +kernel
theorem dc_X9_init_36 : decode prog_10_method_6_code 36 = .ok (.iinc 1 1, 3) := by decide +kernel
theorem dc_X9_init_39 : decode prog_10_method_6_code 39 = .ok (.goto (-24), 3) := by decide +kernel
theorem dc_X9_init_42 : decode prog_10_method_6_code 42 = .ok (.return_, 1) := by decide +kernel
