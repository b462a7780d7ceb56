abbrev my_X8_init : MethodName := ⟨"ExactdoublesModel$Its", "<init>", "(IJ)V"⟩
abbrev my_X8_turned : MethodName := ⟨"ExactdoublesModel$Its", "turned", "()LExactdoublesModel$Its;"⟩
abbrev my_X8_up : MethodName := ⟨"ExactdoublesModel$Its", "up", "()LExactdoublesModel$Its;"⟩
abbrev my_X8_next : MethodName := ⟨"ExactdoublesModel$Its", "next", "(Z)LExactdoublesModel$Its;"⟩
abbrev my_X8_step : MethodName := ⟨"ExactdoublesModel$Its", "step", "()LExactdoublesModel$Its;"⟩
abbrev my_X8_times : MethodName := ⟨"ExactdoublesModel$Its", "times", "(J)LExactdoublesModel$Its;"⟩
abbrev my_X8_sign : MethodName := ⟨"ExactdoublesModel$Its", "sign", "()LExactdoublesModel$Its;"⟩
abbrev my_X8_taken : MethodName := ⟨"ExactdoublesModel$Its", "taken", "(I)LExactdoublesModel$Its;"⟩
theorem kw_6_9 : (Jvm.Cond.methodLink "ExactdoublesModel$Its" (3 : Nat) ({ cls := "java/lang/Object", name := "<init>", desc := "()V" } : Jvm.MethodName)) ∈ ky_B := ky_mem (kc_6 _ (List.mem_of_getElem? (i := 9) rfl)) (by decide +kernel)
theorem kw_1_36 : (Jvm.Cond.instanceMethod ({ cls := "java/lang/Object", name := "<init>", desc := "()V" } : Jvm.MethodName)) ∈ ky_B := ky_mem (kc_1 _ (List.mem_of_getElem? (i := 36) rfl)) (by decide +kernel)
theorem kw_1_37 : (Jvm.Cond.code ({ cls := "java/lang/Object", name := "<init>", desc := "()V" } : Jvm.MethodName) object_method_1_code (1 : Nat) (Option.none : Option Jvm.ClassFile.FieldType)) ∈ ky_B := ky_mem (kc_1 _ (List.mem_of_getElem? (i := 37) rfl)) (by decide +kernel)
theorem kw_6_5 : (Jvm.Cond.instantiable "ExactdoublesModel$Its" (2 : Nat)) ∈ ky_B := ky_mem (kc_6 _ (List.mem_of_getElem? (i := 5) rfl)) (by decide +kernel)
theorem kw_6_169 : (Jvm.Cond.classLink "ExactdoublesModel$Its" (10 : Nat) "ExactdoublesModel$Its") ∈ ky_B := ky_mem (kc_6 _ (List.mem_of_getElem? (i := 169) rfl)) (by decide +kernel)
theorem kw_6_171 : (Jvm.Cond.methodLink "ExactdoublesModel$Its" (33 : Nat) ({ cls := "ExactdoublesModel$Its", name := "<init>", desc := "(IJ)V" } : Jvm.MethodName)) ∈ ky_B := ky_mem (kc_6 _ (List.mem_of_getElem? (i := 171) rfl)) (by decide +kernel)
theorem kw_6_7 : (Jvm.Cond.instanceMethod ({ cls := "ExactdoublesModel$Its", name := "<init>", desc := "(IJ)V" } : Jvm.MethodName)) ∈ ky_B := ky_mem (kc_6 _ (List.mem_of_getElem? (i := 7) rfl)) (by decide +kernel)
theorem kw_6_8 : (Jvm.Cond.code ({ cls := "ExactdoublesModel$Its", name := "<init>", desc := "(IJ)V" } : Jvm.MethodName) prog_11_method_1_code (4 : Nat) (Option.none : Option Jvm.ClassFile.FieldType)) ∈ ky_B := ky_mem (kc_6 _ (List.mem_of_getElem? (i := 8) rfl)) (by decide +kernel)
theorem kw_6_217 : (Jvm.Cond.methodLink "ExactdoublesModel$Its" (92 : Nat) ({ cls := "ExactdoublesModel$Its", name := "up", desc := "()LExactdoublesModel$Its;" } : Jvm.MethodName)) ∈ ky_B := ky_mem (kc_6 _ (List.mem_of_getElem? (i := 217) rfl)) (by decide +kernel)
theorem kw_6_205 : (Jvm.Cond.instanceMethod ({ cls := "ExactdoublesModel$Its", name := "up", desc := "()LExactdoublesModel$Its;" } : Jvm.MethodName)) ∈ ky_B := ky_mem (kc_6 _ (List.mem_of_getElem? (i := 205) rfl)) (by decide +kernel)
theorem kw_6_206 : (Jvm.Cond.selects "ExactdoublesModel$Its" ({ cls := "ExactdoublesModel$Its", name := "up", desc := "()LExactdoublesModel$Its;" } : Jvm.MethodName) ({ cls := "ExactdoublesModel$Its", name := "up", desc := "()LExactdoublesModel$Its;" } : Jvm.MethodName)) ∈ ky_B := ky_mem (kc_6 _ (List.mem_of_getElem? (i := 206) rfl)) (by decide +kernel)
theorem kw_6_207 : (Jvm.Cond.code ({ cls := "ExactdoublesModel$Its", name := "up", desc := "()LExactdoublesModel$Its;" } : Jvm.MethodName) prog_11_method_17_code (1 : Nat) (Option.some (Jvm.ClassFile.FieldType.object "ExactdoublesModel$Its"))) ∈ ky_B := ky_mem (kc_6 _ (List.mem_of_getElem? (i := 207) rfl)) (by decide +kernel)
theorem kw_6_216 : (Jvm.Cond.methodLink "ExactdoublesModel$Its" (88 : Nat) ({ cls := "ExactdoublesModel$Its", name := "turned", desc := "()LExactdoublesModel$Its;" } : Jvm.MethodName)) ∈ ky_B := ky_mem (kc_6 _ (List.mem_of_getElem? (i := 216) rfl)) (by decide +kernel)
theorem kw_6_189 : (Jvm.Cond.instanceMethod ({ cls := "ExactdoublesModel$Its", name := "turned", desc := "()LExactdoublesModel$Its;" } : Jvm.MethodName)) ∈ ky_B := ky_mem (kc_6 _ (List.mem_of_getElem? (i := 189) rfl)) (by decide +kernel)
theorem kw_6_190 : (Jvm.Cond.selects "ExactdoublesModel$Its" ({ cls := "ExactdoublesModel$Its", name := "turned", desc := "()LExactdoublesModel$Its;" } : Jvm.MethodName) ({ cls := "ExactdoublesModel$Its", name := "turned", desc := "()LExactdoublesModel$Its;" } : Jvm.MethodName)) ∈ ky_B := ky_mem (kc_6 _ (List.mem_of_getElem? (i := 190) rfl)) (by decide +kernel)
theorem kw_6_191 : (Jvm.Cond.code ({ cls := "ExactdoublesModel$Its", name := "turned", desc := "()LExactdoublesModel$Its;" } : Jvm.MethodName) prog_11_method_10_code (1 : Nat) (Option.some (Jvm.ClassFile.FieldType.object "ExactdoublesModel$Its"))) ∈ ky_B := ky_mem (kc_6 _ (List.mem_of_getElem? (i := 191) rfl)) (by decide +kernel)
theorem kw_6_226 : (Jvm.Cond.methodLink "ExactdoublesModel$Its" (95 : Nat) ({ cls := "java/lang/Math", name := "max", desc := "(II)I" } : Jvm.MethodName)) ∈ ky_B := ky_mem (kc_6 _ (List.mem_of_getElem? (i := 226) rfl)) (by decide +kernel)
theorem kw_6_110 : (Jvm.Cond.static ({ cls := "ExactdoublesModel", name := "nearest", desc := "(JJ)J" } : Jvm.MethodName)) ∈ ky_B := ky_mem (kc_6 _ (List.mem_of_getElem? (i := 110) rfl)) (by decide +kernel)
theorem kw_6_111 : (Jvm.Cond.code ({ cls := "ExactdoublesModel", name := "nearest", desc := "(JJ)J" } : Jvm.MethodName) prog_10_method_1_code (15 : Nat) (Option.some Jvm.ClassFile.FieldType.long)) ∈ ky_B := ky_mem (kc_6 _ (List.mem_of_getElem? (i := 111) rfl)) (by decide +kernel)
theorem kw_6_168 : (Jvm.Cond.constantLong "ExactdoublesModel$Its" (74 : Nat) (2 : Int64)) ∈ ky_B := ky_mem (kc_6 _ (List.mem_of_getElem? (i := 168) rfl)) (by decide +kernel)
theorem kI_X8_33 : ky_wI "ExactdoublesModel$Its" 33 my_X8_init prog_11_method_1_code 4 2 := ⟨kw_6_171, kw_6_7, kw_1_9, kw_6_8, rfl, by decide, by decide, by decide +kernel⟩
theorem kv_X8_92 : ky_wV "ExactdoublesModel$Its" 92 my_X8_up prog_11_method_17_code 1 (Option.some (Jvm.ClassFile.FieldType.object "ExactdoublesModel$Its")) 0 := ⟨kw_6_217, kw_6_205, kw_6_206, kw_1_9, kw_6_207, by decide, by decide, by decide +kernel⟩
theorem kv_X8_88 : ky_wV "ExactdoublesModel$Its" 88 my_X8_turned prog_11_method_10_code 1 (Option.some (Jvm.ClassFile.FieldType.object "ExactdoublesModel$Its")) 0 := ⟨kw_6_216, kw_6_189, kw_6_190, kw_1_9, kw_6_191, by decide, by decide, by decide +kernel⟩
theorem kn_X8_84 : ky_wN "ExactdoublesModel$Its" 84 my_X9_nearest "ExactdoublesModel" prog_10_method_1_code 15 (Option.some Jvm.ClassFile.FieldType.long) 2 := ⟨kc_6 _ (List.mem_of_getElem? (i := 170) rfl), kw_6_110, kw_1_8, kw_6_111, by decide, by decide, by decide +kernel⟩
def dl_X8_init_0 : List (ByteArray × Nat × Jvm.ClassFile.Instr × Nat) := [(prog_11_method_1_code, 0, .aload_n 0, 1), (prog_11_method_1_code, 1, .invokespecial 3, 3), (prog_11_method_1_code, 4, .aload_n 0, 1), (prog_11_method_1_code, 5, .iload_n 1, 1), (prog_11_method_1_code, 6, .putfield 9, 3), (prog_11_method_1_code, 9, .aload_n 0, 1), (prog_11_method_1_code, 10, .lload_n 2, 1), (prog_11_method_1_code, 11, .putfield 15, 3), (prog_11_method_1_code, 14, .return_, 1), (prog_11_method_10_code, 0, .new 10, 3), (prog_11_method_10_code, 3, .dup, 1), (prog_11_method_10_code, 4, .iconst 1, 1), (prog_11_method_10_code, 5, .aload_n 0, 1), (prog_11_method_10_code, 6, .getfield 9, 3), (prog_11_method_10_code, 9, .isub, 1), (prog_11_method_10_code, 10, .aload_n 0, 1), (prog_11_method_10_code, 11, .getfield 15, 3), (prog_11_method_10_code, 14, .invokespecial 33, 3), (prog_11_method_10_code, 17, .areturn, 1), (prog_11_method_17_code, 0, .aload_n 0, 1), (prog_11_method_17_code, 1, .getfield 9, 3), (prog_11_method_17_code, 4, .ifCond .ne 29, 3), (prog_11_method_17_code, 33, .aload_n 0, 1), (prog_11_method_17_code, 34, .getfield 15, 3), (prog_11_method_17_code, 37, .lconst 0, 1), (prog_11_method_17_code, 38, .lcmp, 1), (prog_11_method_17_code, 39, .ifCond .ne 15, 3), (prog_11_method_17_code, 54, .new 10, 3), (prog_11_method_17_code, 57, .dup, 1), (prog_11_method_17_code, 58, .iconst 1, 1), (prog_11_method_17_code, 59, .aload_n 0, 1), (prog_11_method_17_code, 60, .getfield 15, 3), (prog_11_method_17_code, 63, .lconst 1, 1), (prog_11_method_17_code, 64, .lsub, 1), (prog_11_method_17_code, 65, .invokespecial 33, 3), (prog_11_method_17_code, 68, .areturn, 1), (prog_11_method_17_code, 42, .new 10, 3), (prog_11_method_17_code, 45, .dup, 1), (prog_11_method_17_code, 46, .iconst 0, 1), (prog_11_method_17_code, 47, .lconst 1, 1), (prog_11_method_17_code, 48, .invokespecial 33, 3), (prog_11_method_17_code, 51, .goto 17, 3), (prog_11_method_17_code, 7, .aload_n 0, 1), (prog_11_method_17_code, 8, .invokevirtual 45, 3), (prog_11_method_17_code, 11, .ifCond .eq 7, 3), (prog_11_method_17_code, 18, .new 10, 3), (prog_11_method_17_code, 21, .dup, 1), (prog_11_method_17_code, 22, .iconst 0, 1), (prog_11_method_17_code, 23, .aload_n 0, 1), (prog_11_method_17_code, 24, .getfield 15, 3), (prog_11_method_17_code, 27, .lconst 1, 1), (prog_11_method_17_code, 28, .ladd, 1), (prog_11_method_17_code, 29, .invokespecial 33, 3), (prog_11_method_17_code, 32, .areturn, 1), (prog_11_method_17_code, 14, .aload_n 0, 1), (prog_11_method_17_code, 15, .goto 17, 3), (prog_11_method_18_code, 0, .iload_n 1, 1), (prog_11_method_18_code, 1, .ifCond .eq 16, 3), (prog_11_method_18_code, 17, .aload_n 0, 1), (prog_11_method_18_code, 18, .invokevirtual 92, 3)]
theorem db_X8_init_0 : dl_X8_init_0.all (fun x => decide (decode x.1 x.2.1 = .ok x.2.2)) = true := by decide +kernel
theorem dc_X8_init_0 : decode prog_11_method_1_code 0 = .ok (.aload_n 0, 1) := ky_dc db_X8_init_0 0 rfl
theorem dc_X8_init_1 : decode prog_11_method_1_code 1 = .ok (.invokespecial 3, 3) := ky_dc db_X8_init_0 1 rfl
theorem dc_X8_init_4 : decode prog_11_method_1_code 4 = .ok (.aload_n 0, 1) := ky_dc db_X8_init_0 2 rfl
theorem dc_X8_init_5 : decode prog_11_method_1_code 5 = .ok (.iload_n 1, 1) := ky_dc db_X8_init_0 3 rfl
theorem dc_X8_init_6 : decode prog_11_method_1_code 6 = .ok (.putfield 9, 3) := ky_dc db_X8_init_0 4 rfl
theorem dc_X8_init_9 : decode prog_11_method_1_code 9 = .ok (.aload_n 0, 1) := ky_dc db_X8_init_0 5 rfl
theorem dc_X8_init_10 : decode prog_11_method_1_code 10 = .ok (.lload_n 2, 1) := ky_dc db_X8_init_0 6 rfl
theorem dc_X8_init_11 : decode prog_11_method_1_code 11 = .ok (.putfield 15, 3) := ky_dc db_X8_init_0 7 rfl
theorem dc_X8_init_14 : decode prog_11_method_1_code 14 = .ok (.return_, 1) := ky_dc db_X8_init_0 8 rfl
theorem dc_X8_turned_0 : decode prog_11_method_10_code 0 = .ok (.new 10, 3) := ky_dc db_X8_init_0 9 rfl
theorem dc_X8_turned_3 : decode prog_11_method_10_code 3 = .ok (.dup, 1) := ky_dc db_X8_init_0 10 rfl
theorem dc_X8_turned_4 : decode prog_11_method_10_code 4 = .ok (.iconst 1, 1) := ky_dc db_X8_init_0 11 rfl
theorem dc_X8_turned_5 : decode prog_11_method_10_code 5 = .ok (.aload_n 0, 1) := ky_dc db_X8_init_0 12 rfl
theorem dc_X8_turned_6 : decode prog_11_method_10_code 6 = .ok (.getfield 9, 3) := ky_dc db_X8_init_0 13 rfl
theorem dc_X8_turned_9 : decode prog_11_method_10_code 9 = .ok (.isub, 1) := ky_dc db_X8_init_0 14 rfl
theorem dc_X8_turned_10 : decode prog_11_method_10_code 10 = .ok (.aload_n 0, 1) := ky_dc db_X8_init_0 15 rfl
theorem dc_X8_turned_11 : decode prog_11_method_10_code 11 = .ok (.getfield 15, 3) := ky_dc db_X8_init_0 16 rfl
theorem dc_X8_turned_14 : decode prog_11_method_10_code 14 = .ok (.invokespecial 33, 3) := ky_dc db_X8_init_0 17 rfl
theorem dc_X8_turned_17 : decode prog_11_method_10_code 17 = .ok (.areturn, 1) := ky_dc db_X8_init_0 18 rfl
theorem dc_X8_up_0 : decode prog_11_method_17_code 0 = .ok (.aload_n 0, 1) := ky_dc db_X8_init_0 19 rfl
theorem dc_X8_up_1 : decode prog_11_method_17_code 1 = .ok (.getfield 9, 3) := ky_dc db_X8_init_0 20 rfl
theorem dc_X8_up_4 : decode prog_11_method_17_code 4 = .ok (.ifCond .ne 29, 3) := ky_dc db_X8_init_0 21 rfl
theorem dc_X8_up_33 : decode prog_11_method_17_code 33 = .ok (.aload_n 0, 1) := ky_dc db_X8_init_0 22 rfl
theorem dc_X8_up_34 : decode prog_11_method_17_code 34 = .ok (.getfield 15, 3) := ky_dc db_X8_init_0 23 rfl
theorem dc_X8_up_37 : decode prog_11_method_17_code 37 = .ok (.lconst 0, 1) := ky_dc db_X8_init_0 24 rfl
theorem dc_X8_up_38 : decode prog_11_method_17_code 38 = .ok (.lcmp, 1) := ky_dc db_X8_init_0 25 rfl
theorem dc_X8_up_39 : decode prog_11_method_17_code 39 = .ok (.ifCond .ne 15, 3) := ky_dc db_X8_init_0 26 rfl
theorem dc_X8_up_54 : decode prog_11_method_17_code 54 = .ok (.new 10, 3) := ky_dc db_X8_init_0 27 rfl
theorem dc_X8_up_57 : decode prog_11_method_17_code 57 = .ok (.dup, 1) := ky_dc db_X8_init_0 28 rfl
theorem dc_X8_up_58 : decode prog_11_method_17_code 58 = .ok (.iconst 1, 1) := ky_dc db_X8_init_0 29 rfl
theorem dc_X8_up_59 : decode prog_11_method_17_code 59 = .ok (.aload_n 0, 1) := ky_dc db_X8_init_0 30 rfl
theorem dc_X8_up_60 : decode prog_11_method_17_code 60 = .ok (.getfield 15, 3) := ky_dc db_X8_init_0 31 rfl
theorem dc_X8_up_63 : decode prog_11_method_17_code 63 = .ok (.lconst 1, 1) := ky_dc db_X8_init_0 32 rfl
theorem dc_X8_up_64 : decode prog_11_method_17_code 64 = .ok (.lsub, 1) := ky_dc db_X8_init_0 33 rfl
theorem dc_X8_up_65 : decode prog_11_method_17_code 65 = .ok (.invokespecial 33, 3) := ky_dc db_X8_init_0 34 rfl
theorem dc_X8_up_68 : decode prog_11_method_17_code 68 = .ok (.areturn, 1) := ky_dc db_X8_init_0 35 rfl
theorem dc_X8_up_42 : decode prog_11_method_17_code 42 = .ok (.new 10, 3) := ky_dc db_X8_init_0 36 rfl
theorem dc_X8_up_45 : decode prog_11_method_17_code 45 = .ok (.dup, 1) := ky_dc db_X8_init_0 37 rfl
theorem dc_X8_up_46 : decode prog_11_method_17_code 46 = .ok (.iconst 0, 1) := ky_dc db_X8_init_0 38 rfl
theorem dc_X8_up_47 : decode prog_11_method_17_code 47 = .ok (.lconst 1, 1) := ky_dc db_X8_init_0 39 rfl
theorem dc_X8_up_48 : decode prog_11_method_17_code 48 = .ok (.invokespecial 33, 3) := ky_dc db_X8_init_0 40 rfl
theorem dc_X8_up_51 : decode prog_11_method_17_code 51 = .ok (.goto 17, 3) := ky_dc db_X8_init_0 41 rfl
theorem dc_X8_up_7 : decode prog_11_method_17_code 7 = .ok (.aload_n 0, 1) := ky_dc db_X8_init_0 42 rfl
theorem dc_X8_up_8 : decode prog_11_method_17_code 8 = .ok (.invokevirtual 45, 3) := ky_dc db_X8_init_0 43 rfl
theorem dc_X8_up_11 : decode prog_11_method_17_code 11 = .ok (.ifCond .eq 7, 3) := ky_dc db_X8_init_0 44 rfl
theorem dc_X8_up_18 : decode prog_11_method_17_code 18 = .ok (.new 10, 3) := ky_dc db_X8_init_0 45 rfl
theorem dc_X8_up_21 : decode prog_11_method_17_code 21 = .ok (.dup, 1) := ky_dc db_X8_init_0 46 rfl
theorem dc_X8_up_22 : decode prog_11_method_17_code 22 = .ok (.iconst 0, 1) := ky_dc db_X8_init_0 47 rfl
theorem dc_X8_up_23 : decode prog_11_method_17_code 23 = .ok (.aload_n 0, 1) := ky_dc db_X8_init_0 48 rfl
theorem dc_X8_up_24 : decode prog_11_method_17_code 24 = .ok (.getfield 15, 3) := ky_dc db_X8_init_0 49 rfl
theorem dc_X8_up_27 : decode prog_11_method_17_code 27 = .ok (.lconst 1, 1) := ky_dc db_X8_init_0 50 rfl
theorem dc_X8_up_28 : decode prog_11_method_17_code 28 = .ok (.ladd, 1) := ky_dc db_X8_init_0 51 rfl
theorem dc_X8_up_29 : decode prog_11_method_17_code 29 = .ok (.invokespecial 33, 3) := ky_dc db_X8_init_0 52 rfl
theorem dc_X8_up_32 : decode prog_11_method_17_code 32 = .ok (.areturn, 1) := ky_dc db_X8_init_0 53 rfl
theorem dc_X8_up_14 : decode prog_11_method_17_code 14 = .ok (.aload_n 0, 1) := ky_dc db_X8_init_0 54 rfl
theorem dc_X8_up_15 : decode prog_11_method_17_code 15 = .ok (.goto 17, 3) := ky_dc db_X8_init_0 55 rfl
theorem dc_X8_next_0 : decode prog_11_method_18_code 0 = .ok (.iload_n 1, 1) := ky_dc db_X8_init_0 56 rfl
theorem dc_X8_next_1 : decode prog_11_method_18_code 1 = .ok (.ifCond .eq 16, 3) := ky_dc db_X8_init_0 57 rfl
theorem dc_X8_next_17 : decode prog_11_method_18_code 17 = .ok (.aload_n 0, 1) := ky_dc db_X8_init_0 58 rfl
theorem dc_X8_next_18 : decode prog_11_method_18_code 18 = .ok (.invokevirtual 92, 3) := ky_dc db_X8_init_0 59 rfl
def dl_X8_next_21 : List (ByteArray × Nat × Jvm.ClassFile.Instr × Nat) := [(prog_11_method_18_code, 21, .areturn, 1), (prog_11_method_18_code, 4, .aload_n 0, 1), (prog_11_method_18_code, 5, .invokevirtual 88, 3), (prog_11_method_18_code, 8, .invokevirtual 92, 3), (prog_11_method_18_code, 11, .invokevirtual 88, 3), (prog_11_method_18_code, 14, .goto 7, 3), (prog_11_method_19_code, 0, .aload_n 0, 1), (prog_11_method_19_code, 1, .invokevirtual 45, 3), (prog_11_method_19_code, 4, .ifCond .eq 17, 3), (prog_11_method_19_code, 21, .new 10, 3), (prog_11_method_19_code, 24, .dup, 1), (prog_11_method_19_code, 25, .iconst 0, 1), (prog_11_method_19_code, 26, .lconst 1, 1), (prog_11_method_19_code, 27, .iconst 1, 1), (prog_11_method_19_code, 28, .aload_n 0, 1), (prog_11_method_19_code, 29, .invokevirtual 21, 3), (prog_11_method_19_code, 32, .invokestatic 95, 3), (prog_11_method_19_code, 35, .sipush 1075, 3), (prog_11_method_19_code, 38, .isub, 1), (prog_11_method_19_code, 39, .i2l, 1), (prog_11_method_19_code, 40, .invokestatic 84, 3), (prog_11_method_19_code, 43, .invokespecial 33, 3), (prog_11_method_19_code, 46, .areturn, 1), (prog_11_method_19_code, 7, .new 10, 3), (prog_11_method_19_code, 10, .dup, 1), (prog_11_method_19_code, 11, .iconst 0, 1), (prog_11_method_19_code, 12, .ldc2_w 31, 3), (prog_11_method_19_code, 15, .invokespecial 33, 3), (prog_11_method_19_code, 18, .goto 28, 3), (prog_11_method_21_code, 0, .aload_n 0, 1), (prog_11_method_21_code, 1, .getfield 15, 3), (prog_11_method_21_code, 4, .lconst 0, 1), (prog_11_method_21_code, 5, .lcmp, 1), (prog_11_method_21_code, 6, .ifCond .eq 10, 3), (prog_11_method_21_code, 16, .aload_n 0, 1), (prog_11_method_21_code, 17, .goto 28, 3), (prog_11_method_21_code, 45, .areturn, 1), (prog_11_method_21_code, 9, .aload_n 0, 1), (prog_11_method_21_code, 10, .invokevirtual 45, 3), (prog_11_method_21_code, 13, .ifCond .eq 7, 3), (prog_11_method_21_code, 20, .new 10, 3), (prog_11_method_21_code, 23, .dup, 1), (prog_11_method_21_code, 24, .aload_n 0, 1), (prog_11_method_21_code, 25, .getfield 9, 3), (prog_11_method_21_code, 28, .aload_n 0, 1), (prog_11_method_21_code, 29, .invokevirtual 39, 3), (prog_11_method_21_code, 32, .aload_n 0, 1), (prog_11_method_21_code, 33, .invokevirtual 36, 3), (prog_11_method_21_code, 36, .i2l, 1), (prog_11_method_21_code, 37, .lload_n 1, 1), (prog_11_method_21_code, 38, .ladd, 1), (prog_11_method_21_code, 39, .invokestatic 84, 3), (prog_11_method_21_code, 42, .invokespecial 33, 3), (prog_11_method_22_code, 0, .aload_n 0, 1), (prog_11_method_22_code, 1, .getfield 15, 3), (prog_11_method_22_code, 4, .lconst 0, 1), (prog_11_method_22_code, 5, .lcmp, 1), (prog_11_method_22_code, 6, .ifCond .ne 7, 3), (prog_11_method_22_code, 13, .new 10, 3), (prog_11_method_22_code, 16, .dup, 1)]
theorem db_X8_next_21 : dl_X8_next_21.all (fun x => decide (decode x.1 x.2.1 = .ok x.2.2)) = true := by decide +kernel
theorem dc_X8_next_21 : decode prog_11_method_18_code 21 = .ok (.areturn, 1) := ky_dc db_X8_next_21 0 rfl
theorem dc_X8_next_4 : decode prog_11_method_18_code 4 = .ok (.aload_n 0, 1) := ky_dc db_X8_next_21 1 rfl
theorem dc_X8_next_5 : decode prog_11_method_18_code 5 = .ok (.invokevirtual 88, 3) := ky_dc db_X8_next_21 2 rfl
theorem dc_X8_next_8 : decode prog_11_method_18_code 8 = .ok (.invokevirtual 92, 3) := ky_dc db_X8_next_21 3 rfl
theorem dc_X8_next_11 : decode prog_11_method_18_code 11 = .ok (.invokevirtual 88, 3) := ky_dc db_X8_next_21 4 rfl
theorem dc_X8_next_14 : decode prog_11_method_18_code 14 = .ok (.goto 7, 3) := ky_dc db_X8_next_21 5 rfl
theorem dc_X8_step_0 : decode prog_11_method_19_code 0 = .ok (.aload_n 0, 1) := ky_dc db_X8_next_21 6 rfl
theorem dc_X8_step_1 : decode prog_11_method_19_code 1 = .ok (.invokevirtual 45, 3) := ky_dc db_X8_next_21 7 rfl
theorem dc_X8_step_4 : decode prog_11_method_19_code 4 = .ok (.ifCond .eq 17, 3) := ky_dc db_X8_next_21 8 rfl
theorem dc_X8_step_21 : decode prog_11_method_19_code 21 = .ok (.new 10, 3) := ky_dc db_X8_next_21 9 rfl
theorem dc_X8_step_24 : decode prog_11_method_19_code 24 = .ok (.dup, 1) := ky_dc db_X8_next_21 10 rfl
theorem dc_X8_step_25 : decode prog_11_method_19_code 25 = .ok (.iconst 0, 1) := ky_dc db_X8_next_21 11 rfl
theorem dc_X8_step_26 : decode prog_11_method_19_code 26 = .ok (.lconst 1, 1) := ky_dc db_X8_next_21 12 rfl
theorem dc_X8_step_27 : decode prog_11_method_19_code 27 = .ok (.iconst 1, 1) := ky_dc db_X8_next_21 13 rfl
theorem dc_X8_step_28 : decode prog_11_method_19_code 28 = .ok (.aload_n 0, 1) := ky_dc db_X8_next_21 14 rfl
theorem dc_X8_step_29 : decode prog_11_method_19_code 29 = .ok (.invokevirtual 21, 3) := ky_dc db_X8_next_21 15 rfl
theorem dc_X8_step_32 : decode prog_11_method_19_code 32 = .ok (.invokestatic 95, 3) := ky_dc db_X8_next_21 16 rfl
theorem dc_X8_step_35 : decode prog_11_method_19_code 35 = .ok (.sipush 1075, 3) := ky_dc db_X8_next_21 17 rfl
theorem dc_X8_step_38 : decode prog_11_method_19_code 38 = .ok (.isub, 1) := ky_dc db_X8_next_21 18 rfl
theorem dc_X8_step_39 : decode prog_11_method_19_code 39 = .ok (.i2l, 1) := ky_dc db_X8_next_21 19 rfl
theorem dc_X8_step_40 : decode prog_11_method_19_code 40 = .ok (.invokestatic 84, 3) := ky_dc db_X8_next_21 20 rfl
theorem dc_X8_step_43 : decode prog_11_method_19_code 43 = .ok (.invokespecial 33, 3) := ky_dc db_X8_next_21 21 rfl
theorem dc_X8_step_46 : decode prog_11_method_19_code 46 = .ok (.areturn, 1) := ky_dc db_X8_next_21 22 rfl
theorem dc_X8_step_7 : decode prog_11_method_19_code 7 = .ok (.new 10, 3) := ky_dc db_X8_next_21 23 rfl
theorem dc_X8_step_10 : decode prog_11_method_19_code 10 = .ok (.dup, 1) := ky_dc db_X8_next_21 24 rfl
theorem dc_X8_step_11 : decode prog_11_method_19_code 11 = .ok (.iconst 0, 1) := ky_dc db_X8_next_21 25 rfl
theorem dc_X8_step_12 : decode prog_11_method_19_code 12 = .ok (.ldc2_w 31, 3) := ky_dc db_X8_next_21 26 rfl
theorem dc_X8_step_15 : decode prog_11_method_19_code 15 = .ok (.invokespecial 33, 3) := ky_dc db_X8_next_21 27 rfl
theorem dc_X8_step_18 : decode prog_11_method_19_code 18 = .ok (.goto 28, 3) := ky_dc db_X8_next_21 28 rfl
theorem dc_X8_times_0 : decode prog_11_method_21_code 0 = .ok (.aload_n 0, 1) := ky_dc db_X8_next_21 29 rfl
theorem dc_X8_times_1 : decode prog_11_method_21_code 1 = .ok (.getfield 15, 3) := ky_dc db_X8_next_21 30 rfl
theorem dc_X8_times_4 : decode prog_11_method_21_code 4 = .ok (.lconst 0, 1) := ky_dc db_X8_next_21 31 rfl
theorem dc_X8_times_5 : decode prog_11_method_21_code 5 = .ok (.lcmp, 1) := ky_dc db_X8_next_21 32 rfl
theorem dc_X8_times_6 : decode prog_11_method_21_code 6 = .ok (.ifCond .eq 10, 3) := ky_dc db_X8_next_21 33 rfl
theorem dc_X8_times_16 : decode prog_11_method_21_code 16 = .ok (.aload_n 0, 1) := ky_dc db_X8_next_21 34 rfl
theorem dc_X8_times_17 : decode prog_11_method_21_code 17 = .ok (.goto 28, 3) := ky_dc db_X8_next_21 35 rfl
theorem dc_X8_times_45 : decode prog_11_method_21_code 45 = .ok (.areturn, 1) := ky_dc db_X8_next_21 36 rfl
theorem dc_X8_times_9 : decode prog_11_method_21_code 9 = .ok (.aload_n 0, 1) := ky_dc db_X8_next_21 37 rfl
theorem dc_X8_times_10 : decode prog_11_method_21_code 10 = .ok (.invokevirtual 45, 3) := ky_dc db_X8_next_21 38 rfl
theorem dc_X8_times_13 : decode prog_11_method_21_code 13 = .ok (.ifCond .eq 7, 3) := ky_dc db_X8_next_21 39 rfl
theorem dc_X8_times_20 : decode prog_11_method_21_code 20 = .ok (.new 10, 3) := ky_dc db_X8_next_21 40 rfl
theorem dc_X8_times_23 : decode prog_11_method_21_code 23 = .ok (.dup, 1) := ky_dc db_X8_next_21 41 rfl
theorem dc_X8_times_24 : decode prog_11_method_21_code 24 = .ok (.aload_n 0, 1) := ky_dc db_X8_next_21 42 rfl
theorem dc_X8_times_25 : decode prog_11_method_21_code 25 = .ok (.getfield 9, 3) := ky_dc db_X8_next_21 43 rfl
theorem dc_X8_times_28 : decode prog_11_method_21_code 28 = .ok (.aload_n 0, 1) := ky_dc db_X8_next_21 44 rfl
theorem dc_X8_times_29 : decode prog_11_method_21_code 29 = .ok (.invokevirtual 39, 3) := ky_dc db_X8_next_21 45 rfl
theorem dc_X8_times_32 : decode prog_11_method_21_code 32 = .ok (.aload_n 0, 1) := ky_dc db_X8_next_21 46 rfl
theorem dc_X8_times_33 : decode prog_11_method_21_code 33 = .ok (.invokevirtual 36, 3) := ky_dc db_X8_next_21 47 rfl
theorem dc_X8_times_36 : decode prog_11_method_21_code 36 = .ok (.i2l, 1) := ky_dc db_X8_next_21 48 rfl
theorem dc_X8_times_37 : decode prog_11_method_21_code 37 = .ok (.lload_n 1, 1) := ky_dc db_X8_next_21 49 rfl
theorem dc_X8_times_38 : decode prog_11_method_21_code 38 = .ok (.ladd, 1) := ky_dc db_X8_next_21 50 rfl
theorem dc_X8_times_39 : decode prog_11_method_21_code 39 = .ok (.invokestatic 84, 3) := ky_dc db_X8_next_21 51 rfl
theorem dc_X8_times_42 : decode prog_11_method_21_code 42 = .ok (.invokespecial 33, 3) := ky_dc db_X8_next_21 52 rfl
theorem dc_X8_sign_0 : decode prog_11_method_22_code 0 = .ok (.aload_n 0, 1) := ky_dc db_X8_next_21 53 rfl
theorem dc_X8_sign_1 : decode prog_11_method_22_code 1 = .ok (.getfield 15, 3) := ky_dc db_X8_next_21 54 rfl
theorem dc_X8_sign_4 : decode prog_11_method_22_code 4 = .ok (.lconst 0, 1) := ky_dc db_X8_next_21 55 rfl
theorem dc_X8_sign_5 : decode prog_11_method_22_code 5 = .ok (.lcmp, 1) := ky_dc db_X8_next_21 56 rfl
theorem dc_X8_sign_6 : decode prog_11_method_22_code 6 = .ok (.ifCond .ne 7, 3) := ky_dc db_X8_next_21 57 rfl
theorem dc_X8_sign_13 : decode prog_11_method_22_code 13 = .ok (.new 10, 3) := ky_dc db_X8_next_21 58 rfl
theorem dc_X8_sign_16 : decode prog_11_method_22_code 16 = .ok (.dup, 1) := ky_dc db_X8_next_21 59 rfl
def dl_X8_sign_17 : List (ByteArray × Nat × Jvm.ClassFile.Instr × Nat) := [(prog_11_method_22_code, 17, .aload_n 0, 1), (prog_11_method_22_code, 18, .getfield 9, 3), (prog_11_method_22_code, 21, .lconst 1, 1), (prog_11_method_22_code, 22, .lconst 0, 1), (prog_11_method_22_code, 23, .invokestatic 84, 3), (prog_11_method_22_code, 26, .invokespecial 33, 3), (prog_11_method_22_code, 29, .areturn, 1), (prog_11_method_22_code, 9, .aload_n 0, 1), (prog_11_method_22_code, 10, .goto 19, 3), (prog_11_method_16_code, 0, .aload_n 0, 1), (prog_11_method_16_code, 1, .invokevirtual 45, 3), (prog_11_method_16_code, 4, .ifCond .ne 10, 3), (prog_11_method_16_code, 14, .aload_n 0, 1), (prog_11_method_16_code, 15, .areturn, 1), (prog_11_method_16_code, 7, .aload_n 0, 1), (prog_11_method_16_code, 8, .invokevirtual 36, 3), (prog_11_method_16_code, 11, .ifCond .lt 5, 3), (prog_11_method_16_code, 16, .aload_n 0, 1), (prog_11_method_16_code, 17, .invokevirtual 49, 3), (prog_11_method_16_code, 20, .istore_n 2, 1), (prog_11_method_16_code, 21, .iload_n 1, 1), (prog_11_method_16_code, 22, .iconst 2, 1), (prog_11_method_16_code, 23, .if_icmp .ne 34, 3), (prog_11_method_16_code, 57, .iload_n 2, 1), (prog_11_method_16_code, 58, .ifCond .le 32, 3), (prog_11_method_16_code, 90, .iconst 0, 1), (prog_11_method_16_code, 91, .istore_n 3, 1), (prog_11_method_16_code, 92, .new 10, 3), (prog_11_method_16_code, 95, .dup, 1), (prog_11_method_16_code, 96, .aload_n 0, 1), (prog_11_method_16_code, 97, .getfield 9, 3), (prog_11_method_16_code, 100, .aload_n 0, 1), (prog_11_method_16_code, 101, .invokevirtual 42, 3), (prog_11_method_16_code, 104, .iload_n 3, 1), (prog_11_method_16_code, 105, .ifCond .eq 7, 3), (prog_11_method_16_code, 112, .iconst 0, 1), (prog_11_method_16_code, 113, .i2l, 1), (prog_11_method_16_code, 114, .ladd, 1), (prog_11_method_16_code, 115, .lconst 0, 1), (prog_11_method_16_code, 116, .invokestatic 84, 3), (prog_11_method_16_code, 119, .invokespecial 33, 3), (prog_11_method_16_code, 122, .areturn, 1), (prog_11_method_16_code, 61, .iload_n 1, 1), (prog_11_method_16_code, 62, .iconst 1, 1), (prog_11_method_16_code, 63, .if_icmp .ne 7, 3), (prog_11_method_16_code, 70, .iconst 0, 1), (prog_11_method_16_code, 71, .aload_n 0, 1), (prog_11_method_16_code, 72, .getfield 9, 3), (prog_11_method_16_code, 75, .ifCond .ne 7, 3), (prog_11_method_16_code, 82, .iconst 0, 1), (prog_11_method_16_code, 83, .if_icmp .ne 7, 3), (prog_11_method_16_code, 86, .iconst 1, 1), (prog_11_method_16_code, 87, .goto 4, 3), (prog_11_method_16_code, 108, .iconst 1, 1), (prog_11_method_16_code, 109, .goto 4, 3), (prog_11_method_16_code, 78, .iconst 1, 1), (prog_11_method_16_code, 79, .goto 4, 3), (prog_11_method_16_code, 66, .iconst 1, 1), (prog_11_method_16_code, 67, .goto 4, 3), (prog_11_method_16_code, 26, .iload_n 2, 1)]
theorem db_X8_sign_17 : dl_X8_sign_17.all (fun x => decide (decode x.1 x.2.1 = .ok x.2.2)) = true := by decide +kernel
theorem dc_X8_sign_17 : decode prog_11_method_22_code 17 = .ok (.aload_n 0, 1) := ky_dc db_X8_sign_17 0 rfl
theorem dc_X8_sign_18 : decode prog_11_method_22_code 18 = .ok (.getfield 9, 3) := ky_dc db_X8_sign_17 1 rfl
theorem dc_X8_sign_21 : decode prog_11_method_22_code 21 = .ok (.lconst 1, 1) := ky_dc db_X8_sign_17 2 rfl
theorem dc_X8_sign_22 : decode prog_11_method_22_code 22 = .ok (.lconst 0, 1) := ky_dc db_X8_sign_17 3 rfl
theorem dc_X8_sign_23 : decode prog_11_method_22_code 23 = .ok (.invokestatic 84, 3) := ky_dc db_X8_sign_17 4 rfl
theorem dc_X8_sign_26 : decode prog_11_method_22_code 26 = .ok (.invokespecial 33, 3) := ky_dc db_X8_sign_17 5 rfl
theorem dc_X8_sign_29 : decode prog_11_method_22_code 29 = .ok (.areturn, 1) := ky_dc db_X8_sign_17 6 rfl
theorem dc_X8_sign_9 : decode prog_11_method_22_code 9 = .ok (.aload_n 0, 1) := ky_dc db_X8_sign_17 7 rfl
theorem dc_X8_sign_10 : decode prog_11_method_22_code 10 = .ok (.goto 19, 3) := ky_dc db_X8_sign_17 8 rfl
theorem dc_X8_taken_0 : decode prog_11_method_16_code 0 = .ok (.aload_n 0, 1) := ky_dc db_X8_sign_17 9 rfl
theorem dc_X8_taken_1 : decode prog_11_method_16_code 1 = .ok (.invokevirtual 45, 3) := ky_dc db_X8_sign_17 10 rfl
theorem dc_X8_taken_4 : decode prog_11_method_16_code 4 = .ok (.ifCond .ne 10, 3) := ky_dc db_X8_sign_17 11 rfl
theorem dc_X8_taken_14 : decode prog_11_method_16_code 14 = .ok (.aload_n 0, 1) := ky_dc db_X8_sign_17 12 rfl
theorem dc_X8_taken_15 : decode prog_11_method_16_code 15 = .ok (.areturn, 1) := ky_dc db_X8_sign_17 13 rfl
theorem dc_X8_taken_7 : decode prog_11_method_16_code 7 = .ok (.aload_n 0, 1) := ky_dc db_X8_sign_17 14 rfl
theorem dc_X8_taken_8 : decode prog_11_method_16_code 8 = .ok (.invokevirtual 36, 3) := ky_dc db_X8_sign_17 15 rfl
theorem dc_X8_taken_11 : decode prog_11_method_16_code 11 = .ok (.ifCond .lt 5, 3) := ky_dc db_X8_sign_17 16 rfl
theorem dc_X8_taken_16 : decode prog_11_method_16_code 16 = .ok (.aload_n 0, 1) := ky_dc db_X8_sign_17 17 rfl
theorem dc_X8_taken_17 : decode prog_11_method_16_code 17 = .ok (.invokevirtual 49, 3) := ky_dc db_X8_sign_17 18 rfl
theorem dc_X8_taken_20 : decode prog_11_method_16_code 20 = .ok (.istore_n 2, 1) := ky_dc db_X8_sign_17 19 rfl
theorem dc_X8_taken_21 : decode prog_11_method_16_code 21 = .ok (.iload_n 1, 1) := ky_dc db_X8_sign_17 20 rfl
theorem dc_X8_taken_22 : decode prog_11_method_16_code 22 = .ok (.iconst 2, 1) := ky_dc db_X8_sign_17 21 rfl
theorem dc_X8_taken_23 : decode prog_11_method_16_code 23 = .ok (.if_icmp .ne 34, 3) := ky_dc db_X8_sign_17 22 rfl
theorem dc_X8_taken_57 : decode prog_11_method_16_code 57 = .ok (.iload_n 2, 1) := ky_dc db_X8_sign_17 23 rfl
theorem dc_X8_taken_58 : decode prog_11_method_16_code 58 = .ok (.ifCond .le 32, 3) := ky_dc db_X8_sign_17 24 rfl
theorem dc_X8_taken_90 : decode prog_11_method_16_code 90 = .ok (.iconst 0, 1) := ky_dc db_X8_sign_17 25 rfl
theorem dc_X8_taken_91 : decode prog_11_method_16_code 91 = .ok (.istore_n 3, 1) := ky_dc db_X8_sign_17 26 rfl
theorem dc_X8_taken_92 : decode prog_11_method_16_code 92 = .ok (.new 10, 3) := ky_dc db_X8_sign_17 27 rfl
theorem dc_X8_taken_95 : decode prog_11_method_16_code 95 = .ok (.dup, 1) := ky_dc db_X8_sign_17 28 rfl
theorem dc_X8_taken_96 : decode prog_11_method_16_code 96 = .ok (.aload_n 0, 1) := ky_dc db_X8_sign_17 29 rfl
theorem dc_X8_taken_97 : decode prog_11_method_16_code 97 = .ok (.getfield 9, 3) := ky_dc db_X8_sign_17 30 rfl
theorem dc_X8_taken_100 : decode prog_11_method_16_code 100 = .ok (.aload_n 0, 1) := ky_dc db_X8_sign_17 31 rfl
theorem dc_X8_taken_101 : decode prog_11_method_16_code 101 = .ok (.invokevirtual 42, 3) := ky_dc db_X8_sign_17 32 rfl
theorem dc_X8_taken_104 : decode prog_11_method_16_code 104 = .ok (.iload_n 3, 1) := ky_dc db_X8_sign_17 33 rfl
theorem dc_X8_taken_105 : decode prog_11_method_16_code 105 = .ok (.ifCond .eq 7, 3) := ky_dc db_X8_sign_17 34 rfl
theorem dc_X8_taken_112 : decode prog_11_method_16_code 112 = .ok (.iconst 0, 1) := ky_dc db_X8_sign_17 35 rfl
theorem dc_X8_taken_113 : decode prog_11_method_16_code 113 = .ok (.i2l, 1) := ky_dc db_X8_sign_17 36 rfl
theorem dc_X8_taken_114 : decode prog_11_method_16_code 114 = .ok (.ladd, 1) := ky_dc db_X8_sign_17 37 rfl
theorem dc_X8_taken_115 : decode prog_11_method_16_code 115 = .ok (.lconst 0, 1) := ky_dc db_X8_sign_17 38 rfl
theorem dc_X8_taken_116 : decode prog_11_method_16_code 116 = .ok (.invokestatic 84, 3) := ky_dc db_X8_sign_17 39 rfl
theorem dc_X8_taken_119 : decode prog_11_method_16_code 119 = .ok (.invokespecial 33, 3) := ky_dc db_X8_sign_17 40 rfl
theorem dc_X8_taken_122 : decode prog_11_method_16_code 122 = .ok (.areturn, 1) := ky_dc db_X8_sign_17 41 rfl
theorem dc_X8_taken_61 : decode prog_11_method_16_code 61 = .ok (.iload_n 1, 1) := ky_dc db_X8_sign_17 42 rfl
theorem dc_X8_taken_62 : decode prog_11_method_16_code 62 = .ok (.iconst 1, 1) := ky_dc db_X8_sign_17 43 rfl
theorem dc_X8_taken_63 : decode prog_11_method_16_code 63 = .ok (.if_icmp .ne 7, 3) := ky_dc db_X8_sign_17 44 rfl
theorem dc_X8_taken_70 : decode prog_11_method_16_code 70 = .ok (.iconst 0, 1) := ky_dc db_X8_sign_17 45 rfl
theorem dc_X8_taken_71 : decode prog_11_method_16_code 71 = .ok (.aload_n 0, 1) := ky_dc db_X8_sign_17 46 rfl
theorem dc_X8_taken_72 : decode prog_11_method_16_code 72 = .ok (.getfield 9, 3) := ky_dc db_X8_sign_17 47 rfl
theorem dc_X8_taken_75 : decode prog_11_method_16_code 75 = .ok (.ifCond .ne 7, 3) := ky_dc db_X8_sign_17 48 rfl
theorem dc_X8_taken_82 : decode prog_11_method_16_code 82 = .ok (.iconst 0, 1) := ky_dc db_X8_sign_17 49 rfl
theorem dc_X8_taken_83 : decode prog_11_method_16_code 83 = .ok (.if_icmp .ne 7, 3) := ky_dc db_X8_sign_17 50 rfl
theorem dc_X8_taken_86 : decode prog_11_method_16_code 86 = .ok (.iconst 1, 1) := ky_dc db_X8_sign_17 51 rfl
theorem dc_X8_taken_87 : decode prog_11_method_16_code 87 = .ok (.goto 4, 3) := ky_dc db_X8_sign_17 52 rfl
theorem dc_X8_taken_108 : decode prog_11_method_16_code 108 = .ok (.iconst 1, 1) := ky_dc db_X8_sign_17 53 rfl
theorem dc_X8_taken_109 : decode prog_11_method_16_code 109 = .ok (.goto 4, 3) := ky_dc db_X8_sign_17 54 rfl
theorem dc_X8_taken_78 : decode prog_11_method_16_code 78 = .ok (.iconst 1, 1) := ky_dc db_X8_sign_17 55 rfl
theorem dc_X8_taken_79 : decode prog_11_method_16_code 79 = .ok (.goto 4, 3) := ky_dc db_X8_sign_17 56 rfl
theorem dc_X8_taken_66 : decode prog_11_method_16_code 66 = .ok (.iconst 1, 1) := ky_dc db_X8_sign_17 57 rfl
theorem dc_X8_taken_67 : decode prog_11_method_16_code 67 = .ok (.goto 4, 3) := ky_dc db_X8_sign_17 58 rfl
theorem dc_X8_taken_26 : decode prog_11_method_16_code 26 = .ok (.iload_n 2, 1) := ky_dc db_X8_sign_17 59 rfl
def dl_X8_taken_27 : List (ByteArray × Nat × Jvm.ClassFile.Instr × Nat) := [(prog_11_method_16_code, 27, .iconst 3, 1), (prog_11_method_16_code, 28, .if_icmp .eq 21, 3), (prog_11_method_16_code, 49, .iconst 1, 1), (prog_11_method_16_code, 50, .goto 41, 3), (prog_11_method_16_code, 31, .iload_n 2, 1), (prog_11_method_16_code, 32, .iconst 2, 1), (prog_11_method_16_code, 33, .if_icmp .ne 20, 3), (prog_11_method_16_code, 53, .iconst 0, 1), (prog_11_method_16_code, 54, .goto 37, 3), (prog_11_method_16_code, 36, .aload_n 0, 1), (prog_11_method_16_code, 37, .invokevirtual 42, 3), (prog_11_method_16_code, 40, .ldc2_w 74, 3), (prog_11_method_16_code, 43, .lrem, 1), (prog_11_method_16_code, 44, .lconst 1, 1), (prog_11_method_16_code, 45, .lcmp, 1), (prog_11_method_16_code, 46, .ifCond .ne 7, 3)]
theorem db_X8_taken_27 : dl_X8_taken_27.all (fun x => decide (decode x.1 x.2.1 = .ok x.2.2)) = true := by decide +kernel
theorem dc_X8_taken_27 : decode prog_11_method_16_code 27 = .ok (.iconst 3, 1) := ky_dc db_X8_taken_27 0 rfl
theorem dc_X8_taken_28 : decode prog_11_method_16_code 28 = .ok (.if_icmp .eq 21, 3) := ky_dc db_X8_taken_27 1 rfl
theorem dc_X8_taken_49 : decode prog_11_method_16_code 49 = .ok (.iconst 1, 1) := ky_dc db_X8_taken_27 2 rfl
theorem dc_X8_taken_50 : decode prog_11_method_16_code 50 = .ok (.goto 41, 3) := ky_dc db_X8_taken_27 3 rfl
theorem dc_X8_taken_31 : decode prog_11_method_16_code 31 = .ok (.iload_n 2, 1) := ky_dc db_X8_taken_27 4 rfl
theorem dc_X8_taken_32 : decode prog_11_method_16_code 32 = .ok (.iconst 2, 1) := ky_dc db_X8_taken_27 5 rfl
theorem dc_X8_taken_33 : decode prog_11_method_16_code 33 = .ok (.if_icmp .ne 20, 3) := ky_dc db_X8_taken_27 6 rfl
theorem dc_X8_taken_53 : decode prog_11_method_16_code 53 = .ok (.iconst 0, 1) := ky_dc db_X8_taken_27 7 rfl
theorem dc_X8_taken_54 : decode prog_11_method_16_code 54 = .ok (.goto 37, 3) := ky_dc db_X8_taken_27 8 rfl
theorem dc_X8_taken_36 : decode prog_11_method_16_code 36 = .ok (.aload_n 0, 1) := ky_dc db_X8_taken_27 9 rfl
theorem dc_X8_taken_37 : decode prog_11_method_16_code 37 = .ok (.invokevirtual 42, 3) := ky_dc db_X8_taken_27 10 rfl
theorem dc_X8_taken_40 : decode prog_11_method_16_code 40 = .ok (.ldc2_w 74, 3) := ky_dc db_X8_taken_27 11 rfl
theorem dc_X8_taken_43 : decode prog_11_method_16_code 43 = .ok (.lrem, 1) := ky_dc db_X8_taken_27 12 rfl
theorem dc_X8_taken_44 : decode prog_11_method_16_code 44 = .ok (.lconst 1, 1) := ky_dc db_X8_taken_27 13 rfl
theorem dc_X8_taken_45 : decode prog_11_method_16_code 45 = .ok (.lcmp, 1) := ky_dc db_X8_taken_27 14 rfl
theorem dc_X8_taken_46 : decode prog_11_method_16_code 46 = .ok (.ifCond .ne 7, 3) := ky_dc db_X8_taken_27 15 rfl
