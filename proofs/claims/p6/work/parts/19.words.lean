abbrev my_X8_high : MethodName := ⟨"ExactdoublesModel$Its", "high", "()I"⟩
abbrev my_X8_low : MethodName := ⟨"ExactdoublesModel$Its", "low", "()J"⟩
abbrev my_X8_many : MethodName := ⟨"ExactdoublesModel$Its", "many", "()J"⟩
abbrev my_X8_power : MethodName := ⟨"ExactdoublesModel$Its", "power", "()I"⟩
abbrev my_X8_isEndless : MethodName := ⟨"ExactdoublesModel$Its", "isEndless", "()Z"⟩
abbrev my_X8_rung : MethodName := ⟨"ExactdoublesModel$Its", "rung", "()J"⟩
abbrev my_X8_place : MethodName := ⟨"ExactdoublesModel$Its", "place", "()J"⟩
abbrev my_X8_isSame : MethodName := ⟨"ExactdoublesModel$Its", "isSame", "(LExactdoublesModel$Its;)Z"⟩
abbrev my_X8_whole : MethodName := ⟨"ExactdoublesModel$Its", "whole", "()J"⟩
abbrev my_X8_behind : MethodName := ⟨"ExactdoublesModel$Its", "behind", "()I"⟩
abbrev my_X8_kind : MethodName := ⟨"ExactdoublesModel$Its", "kind", "()I"⟩
abbrev my_X8_isWhole : MethodName := ⟨"ExactdoublesModel$Its", "isWhole", "()Z"⟩
abbrev my_X8_exponent : MethodName := ⟨"ExactdoublesModel$Its", "exponent", "()I"⟩
abbrev my_X8_rounded : MethodName := ⟨"ExactdoublesModel$Its", "rounded", "(Z)J"⟩
theorem kw_6_12 : (Jvm.Cond.fieldLink "ExactdoublesModel$Its" (15 : Nat) "ExactdoublesModel$Its" "size" "J") ∈ ky_B := ky_mem (kc_6 _ (List.mem_of_getElem? (i := 12) rfl)) (by decide +kernel)
theorem kw_6_93 : (Jvm.Cond.constantLong "ExactdoublesModel$Its" (19 : Nat) (4503599627370495 : Int64)) ∈ ky_B := ky_mem (kc_6 _ (List.mem_of_getElem? (i := 93) rfl)) (by decide +kernel)
theorem kw_6_73 : (Jvm.Cond.methodLink "ExactdoublesModel$Its" (21 : Nat) ({ cls := "ExactdoublesModel$Its", name := "high", desc := "()I" } : Jvm.MethodName)) ∈ ky_B := ky_mem (kc_6 _ (List.mem_of_getElem? (i := 73) rfl)) (by decide +kernel)
theorem kw_6_74 : (Jvm.Cond.instanceMethod ({ cls := "ExactdoublesModel$Its", name := "high", desc := "()I" } : Jvm.MethodName)) ∈ ky_B := ky_mem (kc_6 _ (List.mem_of_getElem? (i := 74) rfl)) (by decide +kernel)
theorem kw_6_75 : (Jvm.Cond.selects "ExactdoublesModel$Its" ({ cls := "ExactdoublesModel$Its", name := "high", desc := "()I" } : Jvm.MethodName) ({ cls := "ExactdoublesModel$Its", name := "high", desc := "()I" } : Jvm.MethodName)) ∈ ky_B := ky_mem (kc_6 _ (List.mem_of_getElem? (i := 75) rfl)) (by decide +kernel)
theorem kw_1_9 : (Jvm.Cond.initialized "ExactdoublesModel$Its") ∈ ky_B := ky_mem (kc_1 _ (List.mem_of_getElem? (i := 9) rfl)) (by decide +kernel)
theorem kw_6_76 : (Jvm.Cond.code ({ cls := "ExactdoublesModel$Its", name := "high", desc := "()I" } : Jvm.MethodName) prog_11_method_2_code (1 : Nat) (Option.some Jvm.ClassFile.FieldType.int)) ∈ ky_B := ky_mem (kc_6 _ (List.mem_of_getElem? (i := 76) rfl)) (by decide +kernel)
theorem kw_6_89 : (Jvm.Cond.methodLink "ExactdoublesModel$Its" (25 : Nat) ({ cls := "ExactdoublesModel$Its", name := "low", desc := "()J" } : Jvm.MethodName)) ∈ ky_B := ky_mem (kc_6 _ (List.mem_of_getElem? (i := 89) rfl)) (by decide +kernel)
theorem kw_6_90 : (Jvm.Cond.instanceMethod ({ cls := "ExactdoublesModel$Its", name := "low", desc := "()J" } : Jvm.MethodName)) ∈ ky_B := ky_mem (kc_6 _ (List.mem_of_getElem? (i := 90) rfl)) (by decide +kernel)
theorem kw_6_91 : (Jvm.Cond.selects "ExactdoublesModel$Its" ({ cls := "ExactdoublesModel$Its", name := "low", desc := "()J" } : Jvm.MethodName) ({ cls := "ExactdoublesModel$Its", name := "low", desc := "()J" } : Jvm.MethodName)) ∈ ky_B := ky_mem (kc_6 _ (List.mem_of_getElem? (i := 91) rfl)) (by decide +kernel)
theorem kw_6_92 : (Jvm.Cond.code ({ cls := "ExactdoublesModel$Its", name := "low", desc := "()J" } : Jvm.MethodName) prog_11_method_3_code (1 : Nat) (Option.some Jvm.ClassFile.FieldType.long)) ∈ ky_B := ky_mem (kc_6 _ (List.mem_of_getElem? (i := 92) rfl)) (by decide +kernel)
theorem kw_6_94 : (Jvm.Cond.constantLong "ExactdoublesModel$Its" (29 : Nat) (4503599627370496 : Int64)) ∈ ky_B := ky_mem (kc_6 _ (List.mem_of_getElem? (i := 94) rfl)) (by decide +kernel)
theorem kw_6_72 : (Jvm.Cond.constantLong "ExactdoublesModel$Its" (31 : Nat) (9218868437227405312 : Int64)) ∈ ky_B := ky_mem (kc_6 _ (List.mem_of_getElem? (i := 72) rfl)) (by decide +kernel)
theorem kw_6_10 : (Jvm.Cond.fieldLink "ExactdoublesModel$Its" (9 : Nat) "ExactdoublesModel$Its" "side" "I") ∈ ky_B := ky_mem (kc_6 _ (List.mem_of_getElem? (i := 10) rfl)) (by decide +kernel)
theorem kw_6_81 : (Jvm.Cond.methodLink "ExactdoublesModel$Its" (36 : Nat) ({ cls := "ExactdoublesModel$Its", name := "power", desc := "()I" } : Jvm.MethodName)) ∈ ky_B := ky_mem (kc_6 _ (List.mem_of_getElem? (i := 81) rfl)) (by decide +kernel)
theorem kw_6_82 : (Jvm.Cond.instanceMethod ({ cls := "ExactdoublesModel$Its", name := "power", desc := "()I" } : Jvm.MethodName)) ∈ ky_B := ky_mem (kc_6 _ (List.mem_of_getElem? (i := 82) rfl)) (by decide +kernel)
theorem kw_6_83 : (Jvm.Cond.selects "ExactdoublesModel$Its" ({ cls := "ExactdoublesModel$Its", name := "power", desc := "()I" } : Jvm.MethodName) ({ cls := "ExactdoublesModel$Its", name := "power", desc := "()I" } : Jvm.MethodName)) ∈ ky_B := ky_mem (kc_6 _ (List.mem_of_getElem? (i := 83) rfl)) (by decide +kernel)
theorem kw_6_84 : (Jvm.Cond.code ({ cls := "ExactdoublesModel$Its", name := "power", desc := "()I" } : Jvm.MethodName) prog_11_method_5_code (1 : Nat) (Option.some Jvm.ClassFile.FieldType.int)) ∈ ky_B := ky_mem (kc_6 _ (List.mem_of_getElem? (i := 84) rfl)) (by decide +kernel)
theorem kw_6_85 : (Jvm.Cond.methodLink "ExactdoublesModel$Its" (39 : Nat) ({ cls := "ExactdoublesModel$Its", name := "many", desc := "()J" } : Jvm.MethodName)) ∈ ky_B := ky_mem (kc_6 _ (List.mem_of_getElem? (i := 85) rfl)) (by decide +kernel)
theorem kw_6_86 : (Jvm.Cond.instanceMethod ({ cls := "ExactdoublesModel$Its", name := "many", desc := "()J" } : Jvm.MethodName)) ∈ ky_B := ky_mem (kc_6 _ (List.mem_of_getElem? (i := 86) rfl)) (by decide +kernel)
theorem kw_6_87 : (Jvm.Cond.selects "ExactdoublesModel$Its" ({ cls := "ExactdoublesModel$Its", name := "many", desc := "()J" } : Jvm.MethodName) ({ cls := "ExactdoublesModel$Its", name := "many", desc := "()J" } : Jvm.MethodName)) ∈ ky_B := ky_mem (kc_6 _ (List.mem_of_getElem? (i := 87) rfl)) (by decide +kernel)
theorem kw_6_88 : (Jvm.Cond.code ({ cls := "ExactdoublesModel$Its", name := "many", desc := "()J" } : Jvm.MethodName) prog_11_method_4_code (1 : Nat) (Option.some Jvm.ClassFile.FieldType.long)) ∈ ky_B := ky_mem (kc_6 _ (List.mem_of_getElem? (i := 88) rfl)) (by decide +kernel)
theorem kw_6_95 : (Jvm.Cond.methodLink "ExactdoublesModel$Its" (42 : Nat) ({ cls := "ExactdoublesModel$Its", name := "whole", desc := "()J" } : Jvm.MethodName)) ∈ ky_B := ky_mem (kc_6 _ (List.mem_of_getElem? (i := 95) rfl)) (by decide +kernel)
theorem kw_6_96 : (Jvm.Cond.instanceMethod ({ cls := "ExactdoublesModel$Its", name := "whole", desc := "()J" } : Jvm.MethodName)) ∈ ky_B := ky_mem (kc_6 _ (List.mem_of_getElem? (i := 96) rfl)) (by decide +kernel)
theorem kw_6_97 : (Jvm.Cond.selects "ExactdoublesModel$Its" ({ cls := "ExactdoublesModel$Its", name := "whole", desc := "()J" } : Jvm.MethodName) ({ cls := "ExactdoublesModel$Its", name := "whole", desc := "()J" } : Jvm.MethodName)) ∈ ky_B := ky_mem (kc_6 _ (List.mem_of_getElem? (i := 97) rfl)) (by decide +kernel)
theorem kw_6_98 : (Jvm.Cond.code ({ cls := "ExactdoublesModel$Its", name := "whole", desc := "()J" } : Jvm.MethodName) prog_11_method_12_code (1 : Nat) (Option.some Jvm.ClassFile.FieldType.long)) ∈ ky_B := ky_mem (kc_6 _ (List.mem_of_getElem? (i := 98) rfl)) (by decide +kernel)
theorem kw_6_68 : (Jvm.Cond.methodLink "ExactdoublesModel$Its" (45 : Nat) ({ cls := "ExactdoublesModel$Its", name := "isEndless", desc := "()Z" } : Jvm.MethodName)) ∈ ky_B := ky_mem (kc_6 _ (List.mem_of_getElem? (i := 68) rfl)) (by decide +kernel)
theorem kw_6_69 : (Jvm.Cond.instanceMethod ({ cls := "ExactdoublesModel$Its", name := "isEndless", desc := "()Z" } : Jvm.MethodName)) ∈ ky_B := ky_mem (kc_6 _ (List.mem_of_getElem? (i := 69) rfl)) (by decide +kernel)
theorem kw_6_70 : (Jvm.Cond.selects "ExactdoublesModel$Its" ({ cls := "ExactdoublesModel$Its", name := "isEndless", desc := "()Z" } : Jvm.MethodName) ({ cls := "ExactdoublesModel$Its", name := "isEndless", desc := "()Z" } : Jvm.MethodName)) ∈ ky_B := ky_mem (kc_6 _ (List.mem_of_getElem? (i := 70) rfl)) (by decide +kernel)
theorem kw_6_71 : (Jvm.Cond.code ({ cls := "ExactdoublesModel$Its", name := "isEndless", desc := "()Z" } : Jvm.MethodName) prog_11_method_6_code (1 : Nat) (Option.some Jvm.ClassFile.FieldType.boolean)) ∈ ky_B := ky_mem (kc_6 _ (List.mem_of_getElem? (i := 71) rfl)) (by decide +kernel)
theorem kw_6_77 : (Jvm.Cond.methodLink "ExactdoublesModel$Its" (49 : Nat) ({ cls := "ExactdoublesModel$Its", name := "behind", desc := "()I" } : Jvm.MethodName)) ∈ ky_B := ky_mem (kc_6 _ (List.mem_of_getElem? (i := 77) rfl)) (by decide +kernel)
theorem kw_6_78 : (Jvm.Cond.instanceMethod ({ cls := "ExactdoublesModel$Its", name := "behind", desc := "()I" } : Jvm.MethodName)) ∈ ky_B := ky_mem (kc_6 _ (List.mem_of_getElem? (i := 78) rfl)) (by decide +kernel)
theorem kw_6_79 : (Jvm.Cond.selects "ExactdoublesModel$Its" ({ cls := "ExactdoublesModel$Its", name := "behind", desc := "()I" } : Jvm.MethodName) ({ cls := "ExactdoublesModel$Its", name := "behind", desc := "()I" } : Jvm.MethodName)) ∈ ky_B := ky_mem (kc_6 _ (List.mem_of_getElem? (i := 79) rfl)) (by decide +kernel)
theorem kw_6_80 : (Jvm.Cond.code ({ cls := "ExactdoublesModel$Its", name := "behind", desc := "()I" } : Jvm.MethodName) prog_11_method_11_code (6 : Nat) (Option.some Jvm.ClassFile.FieldType.int)) ∈ ky_B := ky_mem (kc_6 _ (List.mem_of_getElem? (i := 80) rfl)) (by decide +kernel)
theorem kw_7_156 : (Jvm.Cond.methodLink "ExactdoublesModel$Its" (52 : Nat) ({ cls := "ExactdoublesModel$Its", name := "kind", desc := "()I" } : Jvm.MethodName)) ∈ ky_B := ky_mem (kc_7 _ (List.mem_of_getElem? (i := 156) rfl)) (by decide +kernel)
theorem kw_6_65 : (Jvm.Cond.instanceMethod ({ cls := "ExactdoublesModel$Its", name := "kind", desc := "()I" } : Jvm.MethodName)) ∈ ky_B := ky_mem (kc_6 _ (List.mem_of_getElem? (i := 65) rfl)) (by decide +kernel)
theorem kw_6_66 : (Jvm.Cond.selects "ExactdoublesModel$Its" ({ cls := "ExactdoublesModel$Its", name := "kind", desc := "()I" } : Jvm.MethodName) ({ cls := "ExactdoublesModel$Its", name := "kind", desc := "()I" } : Jvm.MethodName)) ∈ ky_B := ky_mem (kc_6 _ (List.mem_of_getElem? (i := 66) rfl)) (by decide +kernel)
theorem kw_6_67 : (Jvm.Cond.code ({ cls := "ExactdoublesModel$Its", name := "kind", desc := "()I" } : Jvm.MethodName) prog_11_method_13_code (1 : Nat) (Option.some Jvm.ClassFile.FieldType.int)) ∈ ky_B := ky_mem (kc_6 _ (List.mem_of_getElem? (i := 67) rfl)) (by decide +kernel)
theorem kw_7_107 : (Jvm.Cond.constantLong "ExactdoublesModel$Its" (105 : Nat) (-9223372036854775808 : Int64)) ∈ ky_B := ky_mem (kc_7 _ (List.mem_of_getElem? (i := 107) rfl)) (by decide +kernel)
theorem kw_7_106 : (Jvm.Cond.constantLong "ExactdoublesModel$Its" (103 : Nat) (9223372036854775807 : Int64)) ∈ ky_B := ky_mem (kc_7 _ (List.mem_of_getElem? (i := 106) rfl)) (by decide +kernel)
theorem kv_X8_21 : ky_wV "ExactdoublesModel$Its" 21 my_X8_high prog_11_method_2_code 1 (Option.some Jvm.ClassFile.FieldType.int) 0 := ⟨kw_6_73, kw_6_74, kw_6_75, kw_1_9, kw_6_76, by decide, by decide, by decide +kernel⟩
theorem kv_X8_25 : ky_wV "ExactdoublesModel$Its" 25 my_X8_low prog_11_method_3_code 1 (Option.some Jvm.ClassFile.FieldType.long) 0 := ⟨kw_6_89, kw_6_90, kw_6_91, kw_1_9, kw_6_92, by decide, by decide, by decide +kernel⟩
theorem kv_X8_36 : ky_wV "ExactdoublesModel$Its" 36 my_X8_power prog_11_method_5_code 1 (Option.some Jvm.ClassFile.FieldType.int) 0 := ⟨kw_6_81, kw_6_82, kw_6_83, kw_1_9, kw_6_84, by decide, by decide, by decide +kernel⟩
theorem kv_X8_39 : ky_wV "ExactdoublesModel$Its" 39 my_X8_many prog_11_method_4_code 1 (Option.some Jvm.ClassFile.FieldType.long) 0 := ⟨kw_6_85, kw_6_86, kw_6_87, kw_1_9, kw_6_88, by decide, by decide, by decide +kernel⟩
theorem kv_X8_42 : ky_wV "ExactdoublesModel$Its" 42 my_X8_whole prog_11_method_12_code 1 (Option.some Jvm.ClassFile.FieldType.long) 0 := ⟨kw_6_95, kw_6_96, kw_6_97, kw_1_9, kw_6_98, by decide, by decide, by decide +kernel⟩
theorem kv_X8_45 : ky_wV "ExactdoublesModel$Its" 45 my_X8_isEndless prog_11_method_6_code 1 (Option.some Jvm.ClassFile.FieldType.boolean) 0 := ⟨kw_6_68, kw_6_69, kw_6_70, kw_1_9, kw_6_71, by decide, by decide, by decide +kernel⟩
theorem kv_X8_49 : ky_wV "ExactdoublesModel$Its" 49 my_X8_behind prog_11_method_11_code 6 (Option.some Jvm.ClassFile.FieldType.int) 0 := ⟨kw_6_77, kw_6_78, kw_6_79, kw_1_9, kw_6_80, by decide, by decide, by decide +kernel⟩
theorem kv_X8_52 : ky_wV "ExactdoublesModel$Its" 52 my_X8_kind prog_11_method_13_code 1 (Option.some Jvm.ClassFile.FieldType.int) 0 := ⟨kw_7_156, kw_6_65, kw_6_66, kw_1_9, kw_6_67, by decide, by decide, by decide +kernel⟩
def dl_X8_high_0 : List (ByteArray × Nat × Jvm.ClassFile.Instr × Nat) := [(prog_11_method_2_code, 0, .aload_n 0, 1), (prog_11_method_2_code, 1, .getfield 15, 3), (prog_11_method_2_code, 4, .bipush 52, 2), (prog_11_method_2_code, 6, .lshr, 1), (prog_11_method_2_code, 7, .l2i, 1), (prog_11_method_2_code, 8, .ireturn, 1), (prog_11_method_3_code, 0, .aload_n 0, 1), (prog_11_method_3_code, 1, .getfield 15, 3), (prog_11_method_3_code, 4, .ldc2_w 19, 3), (prog_11_method_3_code, 7, .land, 1), (prog_11_method_3_code, 8, .lreturn, 1), (prog_11_method_4_code, 0, .aload_n 0, 1), (prog_11_method_4_code, 1, .invokevirtual 21, 3), (prog_11_method_4_code, 4, .ifCond .ne 10, 3), (prog_11_method_4_code, 14, .aload_n 0, 1), (prog_11_method_4_code, 15, .invokevirtual 25, 3), (prog_11_method_4_code, 18, .ldc2_w 29, 3), (prog_11_method_4_code, 21, .ladd, 1), (prog_11_method_4_code, 22, .lreturn, 1), (prog_11_method_4_code, 7, .aload_n 0, 1), (prog_11_method_4_code, 8, .invokevirtual 25, 3), (prog_11_method_4_code, 11, .goto 11, 3), (prog_11_method_5_code, 0, .aload_n 0, 1), (prog_11_method_5_code, 1, .invokevirtual 21, 3), (prog_11_method_5_code, 4, .ifCond .ne 9, 3), (prog_11_method_5_code, 13, .aload_n 0, 1), (prog_11_method_5_code, 14, .invokevirtual 21, 3), (prog_11_method_5_code, 17, .sipush 1075, 3), (prog_11_method_5_code, 20, .isub, 1), (prog_11_method_5_code, 21, .ireturn, 1), (prog_11_method_5_code, 7, .sipush (-1074), 3), (prog_11_method_5_code, 10, .goto 11, 3), (prog_11_method_6_code, 0, .aload_n 0, 1), (prog_11_method_6_code, 1, .getfield 15, 3), (prog_11_method_6_code, 4, .ldc2_w 31, 3), (prog_11_method_6_code, 7, .lcmp, 1), (prog_11_method_6_code, 8, .ifCond .ne 7, 3), (prog_11_method_6_code, 15, .iconst 0, 1), (prog_11_method_6_code, 16, .ireturn, 1), (prog_11_method_6_code, 11, .iconst 1, 1), (prog_11_method_6_code, 12, .goto 4, 3), (prog_11_method_7_code, 0, .aload_n 0, 1), (prog_11_method_7_code, 1, .getfield 9, 3), (prog_11_method_7_code, 4, .ifCond .ne 10, 3), (prog_11_method_7_code, 14, .aload_n 0, 1), (prog_11_method_7_code, 15, .getfield 15, 3), (prog_11_method_7_code, 18, .lneg, 1), (prog_11_method_7_code, 19, .lreturn, 1), (prog_11_method_7_code, 7, .aload_n 0, 1), (prog_11_method_7_code, 8, .getfield 15, 3), (prog_11_method_7_code, 11, .goto 8, 3), (prog_11_method_8_code, 0, .aload_n 0, 1), (prog_11_method_8_code, 1, .getfield 9, 3), (prog_11_method_8_code, 4, .ifCond .ne 10, 3), (prog_11_method_8_code, 14, .aload_n 0, 1), (prog_11_method_8_code, 15, .getfield 15, 3), (prog_11_method_8_code, 18, .lneg, 1), (prog_11_method_8_code, 19, .lconst 1, 1), (prog_11_method_8_code, 20, .lsub, 1), (prog_11_method_8_code, 21, .lreturn, 1)]
theorem db_X8_high_0 : dl_X8_high_0.all (fun x => decide (decode x.1 x.2.1 = .ok x.2.2)) = true := by decide +kernel
theorem dc_X8_high_0 : decode prog_11_method_2_code 0 = .ok (.aload_n 0, 1) := ky_dc db_X8_high_0 0 rfl
theorem dc_X8_high_1 : decode prog_11_method_2_code 1 = .ok (.getfield 15, 3) := ky_dc db_X8_high_0 1 rfl
theorem dc_X8_high_4 : decode prog_11_method_2_code 4 = .ok (.bipush 52, 2) := ky_dc db_X8_high_0 2 rfl
theorem dc_X8_high_6 : decode prog_11_method_2_code 6 = .ok (.lshr, 1) := ky_dc db_X8_high_0 3 rfl
theorem dc_X8_high_7 : decode prog_11_method_2_code 7 = .ok (.l2i, 1) := ky_dc db_X8_high_0 4 rfl
theorem dc_X8_high_8 : decode prog_11_method_2_code 8 = .ok (.ireturn, 1) := ky_dc db_X8_high_0 5 rfl
theorem dc_X8_low_0 : decode prog_11_method_3_code 0 = .ok (.aload_n 0, 1) := ky_dc db_X8_high_0 6 rfl
theorem dc_X8_low_1 : decode prog_11_method_3_code 1 = .ok (.getfield 15, 3) := ky_dc db_X8_high_0 7 rfl
theorem dc_X8_low_4 : decode prog_11_method_3_code 4 = .ok (.ldc2_w 19, 3) := ky_dc db_X8_high_0 8 rfl
theorem dc_X8_low_7 : decode prog_11_method_3_code 7 = .ok (.land, 1) := ky_dc db_X8_high_0 9 rfl
theorem dc_X8_low_8 : decode prog_11_method_3_code 8 = .ok (.lreturn, 1) := ky_dc db_X8_high_0 10 rfl
theorem dc_X8_many_0 : decode prog_11_method_4_code 0 = .ok (.aload_n 0, 1) := ky_dc db_X8_high_0 11 rfl
theorem dc_X8_many_1 : decode prog_11_method_4_code 1 = .ok (.invokevirtual 21, 3) := ky_dc db_X8_high_0 12 rfl
theorem dc_X8_many_4 : decode prog_11_method_4_code 4 = .ok (.ifCond .ne 10, 3) := ky_dc db_X8_high_0 13 rfl
theorem dc_X8_many_14 : decode prog_11_method_4_code 14 = .ok (.aload_n 0, 1) := ky_dc db_X8_high_0 14 rfl
theorem dc_X8_many_15 : decode prog_11_method_4_code 15 = .ok (.invokevirtual 25, 3) := ky_dc db_X8_high_0 15 rfl
theorem dc_X8_many_18 : decode prog_11_method_4_code 18 = .ok (.ldc2_w 29, 3) := ky_dc db_X8_high_0 16 rfl
theorem dc_X8_many_21 : decode prog_11_method_4_code 21 = .ok (.ladd, 1) := ky_dc db_X8_high_0 17 rfl
theorem dc_X8_many_22 : decode prog_11_method_4_code 22 = .ok (.lreturn, 1) := ky_dc db_X8_high_0 18 rfl
theorem dc_X8_many_7 : decode prog_11_method_4_code 7 = .ok (.aload_n 0, 1) := ky_dc db_X8_high_0 19 rfl
theorem dc_X8_many_8 : decode prog_11_method_4_code 8 = .ok (.invokevirtual 25, 3) := ky_dc db_X8_high_0 20 rfl
theorem dc_X8_many_11 : decode prog_11_method_4_code 11 = .ok (.goto 11, 3) := ky_dc db_X8_high_0 21 rfl
theorem dc_X8_power_0 : decode prog_11_method_5_code 0 = .ok (.aload_n 0, 1) := ky_dc db_X8_high_0 22 rfl
theorem dc_X8_power_1 : decode prog_11_method_5_code 1 = .ok (.invokevirtual 21, 3) := ky_dc db_X8_high_0 23 rfl
theorem dc_X8_power_4 : decode prog_11_method_5_code 4 = .ok (.ifCond .ne 9, 3) := ky_dc db_X8_high_0 24 rfl
theorem dc_X8_power_13 : decode prog_11_method_5_code 13 = .ok (.aload_n 0, 1) := ky_dc db_X8_high_0 25 rfl
theorem dc_X8_power_14 : decode prog_11_method_5_code 14 = .ok (.invokevirtual 21, 3) := ky_dc db_X8_high_0 26 rfl
theorem dc_X8_power_17 : decode prog_11_method_5_code 17 = .ok (.sipush 1075, 3) := ky_dc db_X8_high_0 27 rfl
theorem dc_X8_power_20 : decode prog_11_method_5_code 20 = .ok (.isub, 1) := ky_dc db_X8_high_0 28 rfl
theorem dc_X8_power_21 : decode prog_11_method_5_code 21 = .ok (.ireturn, 1) := ky_dc db_X8_high_0 29 rfl
theorem dc_X8_power_7 : decode prog_11_method_5_code 7 = .ok (.sipush (-1074), 3) := ky_dc db_X8_high_0 30 rfl
theorem dc_X8_power_10 : decode prog_11_method_5_code 10 = .ok (.goto 11, 3) := ky_dc db_X8_high_0 31 rfl
theorem dc_X8_isEndless_0 : decode prog_11_method_6_code 0 = .ok (.aload_n 0, 1) := ky_dc db_X8_high_0 32 rfl
theorem dc_X8_isEndless_1 : decode prog_11_method_6_code 1 = .ok (.getfield 15, 3) := ky_dc db_X8_high_0 33 rfl
theorem dc_X8_isEndless_4 : decode prog_11_method_6_code 4 = .ok (.ldc2_w 31, 3) := ky_dc db_X8_high_0 34 rfl
theorem dc_X8_isEndless_7 : decode prog_11_method_6_code 7 = .ok (.lcmp, 1) := ky_dc db_X8_high_0 35 rfl
theorem dc_X8_isEndless_8 : decode prog_11_method_6_code 8 = .ok (.ifCond .ne 7, 3) := ky_dc db_X8_high_0 36 rfl
theorem dc_X8_isEndless_15 : decode prog_11_method_6_code 15 = .ok (.iconst 0, 1) := ky_dc db_X8_high_0 37 rfl
theorem dc_X8_isEndless_16 : decode prog_11_method_6_code 16 = .ok (.ireturn, 1) := ky_dc db_X8_high_0 38 rfl
theorem dc_X8_isEndless_11 : decode prog_11_method_6_code 11 = .ok (.iconst 1, 1) := ky_dc db_X8_high_0 39 rfl
theorem dc_X8_isEndless_12 : decode prog_11_method_6_code 12 = .ok (.goto 4, 3) := ky_dc db_X8_high_0 40 rfl
theorem dc_X8_rung_0 : decode prog_11_method_7_code 0 = .ok (.aload_n 0, 1) := ky_dc db_X8_high_0 41 rfl
theorem dc_X8_rung_1 : decode prog_11_method_7_code 1 = .ok (.getfield 9, 3) := ky_dc db_X8_high_0 42 rfl
theorem dc_X8_rung_4 : decode prog_11_method_7_code 4 = .ok (.ifCond .ne 10, 3) := ky_dc db_X8_high_0 43 rfl
theorem dc_X8_rung_14 : decode prog_11_method_7_code 14 = .ok (.aload_n 0, 1) := ky_dc db_X8_high_0 44 rfl
theorem dc_X8_rung_15 : decode prog_11_method_7_code 15 = .ok (.getfield 15, 3) := ky_dc db_X8_high_0 45 rfl
theorem dc_X8_rung_18 : decode prog_11_method_7_code 18 = .ok (.lneg, 1) := ky_dc db_X8_high_0 46 rfl
theorem dc_X8_rung_19 : decode prog_11_method_7_code 19 = .ok (.lreturn, 1) := ky_dc db_X8_high_0 47 rfl
theorem dc_X8_rung_7 : decode prog_11_method_7_code 7 = .ok (.aload_n 0, 1) := ky_dc db_X8_high_0 48 rfl
theorem dc_X8_rung_8 : decode prog_11_method_7_code 8 = .ok (.getfield 15, 3) := ky_dc db_X8_high_0 49 rfl
theorem dc_X8_rung_11 : decode prog_11_method_7_code 11 = .ok (.goto 8, 3) := ky_dc db_X8_high_0 50 rfl
theorem dc_X8_place_0 : decode prog_11_method_8_code 0 = .ok (.aload_n 0, 1) := ky_dc db_X8_high_0 51 rfl
theorem dc_X8_place_1 : decode prog_11_method_8_code 1 = .ok (.getfield 9, 3) := ky_dc db_X8_high_0 52 rfl
theorem dc_X8_place_4 : decode prog_11_method_8_code 4 = .ok (.ifCond .ne 10, 3) := ky_dc db_X8_high_0 53 rfl
theorem dc_X8_place_14 : decode prog_11_method_8_code 14 = .ok (.aload_n 0, 1) := ky_dc db_X8_high_0 54 rfl
theorem dc_X8_place_15 : decode prog_11_method_8_code 15 = .ok (.getfield 15, 3) := ky_dc db_X8_high_0 55 rfl
theorem dc_X8_place_18 : decode prog_11_method_8_code 18 = .ok (.lneg, 1) := ky_dc db_X8_high_0 56 rfl
theorem dc_X8_place_19 : decode prog_11_method_8_code 19 = .ok (.lconst 1, 1) := ky_dc db_X8_high_0 57 rfl
theorem dc_X8_place_20 : decode prog_11_method_8_code 20 = .ok (.lsub, 1) := ky_dc db_X8_high_0 58 rfl
theorem dc_X8_place_21 : decode prog_11_method_8_code 21 = .ok (.lreturn, 1) := ky_dc db_X8_high_0 59 rfl
def dl_X8_place_7 : List (ByteArray × Nat × Jvm.ClassFile.Instr × Nat) := [(prog_11_method_8_code, 7, .aload_n 0, 1), (prog_11_method_8_code, 8, .getfield 15, 3), (prog_11_method_8_code, 11, .goto 10, 3), (prog_11_method_9_code, 0, .aload_n 0, 1), (prog_11_method_9_code, 1, .getfield 9, 3), (prog_11_method_9_code, 4, .aload_n 1, 1), (prog_11_method_9_code, 5, .getfield 9, 3), (prog_11_method_9_code, 8, .if_icmp .ne 19, 3), (prog_11_method_9_code, 27, .iconst 0, 1), (prog_11_method_9_code, 28, .ireturn, 1), (prog_11_method_9_code, 11, .aload_n 0, 1), (prog_11_method_9_code, 12, .getfield 15, 3), (prog_11_method_9_code, 15, .aload_n 1, 1), (prog_11_method_9_code, 16, .getfield 15, 3), (prog_11_method_9_code, 19, .lcmp, 1), (prog_11_method_9_code, 20, .ifCond .ne 7, 3), (prog_11_method_9_code, 23, .iconst 1, 1), (prog_11_method_9_code, 24, .goto 4, 3), (prog_11_method_12_code, 0, .aload_n 0, 1), (prog_11_method_12_code, 1, .invokevirtual 36, 3), (prog_11_method_12_code, 4, .bipush (-53), 2), (prog_11_method_12_code, 6, .if_icmp .ge 7, 3), (prog_11_method_12_code, 13, .aload_n 0, 1), (prog_11_method_12_code, 14, .invokevirtual 39, 3), (prog_11_method_12_code, 17, .aload_n 0, 1), (prog_11_method_12_code, 18, .invokevirtual 36, 3), (prog_11_method_12_code, 21, .ineg, 1), (prog_11_method_12_code, 22, .lshr, 1), (prog_11_method_12_code, 23, .lreturn, 1), (prog_11_method_12_code, 9, .lconst 0, 1), (prog_11_method_12_code, 10, .goto 13, 3), (prog_11_method_11_code, 0, .aload_n 0, 1), (prog_11_method_11_code, 1, .invokevirtual 36, 3), (prog_11_method_11_code, 4, .ineg, 1), (prog_11_method_11_code, 5, .istore_n 1, 1), (prog_11_method_11_code, 6, .iload_n 1, 1), (prog_11_method_11_code, 7, .ifCond .le 12, 3), (prog_11_method_11_code, 19, .iconst 0, 1), (prog_11_method_11_code, 20, .ireturn, 1), (prog_11_method_11_code, 10, .aload_n 0, 1), (prog_11_method_11_code, 11, .invokevirtual 39, 3), (prog_11_method_11_code, 14, .lconst 0, 1), (prog_11_method_11_code, 15, .lcmp, 1), (prog_11_method_11_code, 16, .ifCond .ne 5, 3), (prog_11_method_11_code, 21, .iload_n 1, 1), (prog_11_method_11_code, 22, .bipush 53, 2), (prog_11_method_11_code, 24, .if_icmp .le 5, 3), (prog_11_method_11_code, 29, .aload_n 0, 1), (prog_11_method_11_code, 30, .invokevirtual 39, 3), (prog_11_method_11_code, 33, .aload_n 0, 1), (prog_11_method_11_code, 34, .invokevirtual 42, 3), (prog_11_method_11_code, 37, .iload_n 1, 1), (prog_11_method_11_code, 38, .lshl, 1), (prog_11_method_11_code, 39, .lsub, 1), (prog_11_method_11_code, 40, .lstore_n 2, 1), (prog_11_method_11_code, 41, .lconst 1, 1), (prog_11_method_11_code, 42, .iload_n 1, 1), (prog_11_method_11_code, 43, .iconst 1, 1), (prog_11_method_11_code, 44, .isub, 1), (prog_11_method_11_code, 45, .lshl, 1)]
theorem db_X8_place_7 : dl_X8_place_7.all (fun x => decide (decode x.1 x.2.1 = .ok x.2.2)) = true := by decide +kernel
theorem dc_X8_place_7 : decode prog_11_method_8_code 7 = .ok (.aload_n 0, 1) := ky_dc db_X8_place_7 0 rfl
theorem dc_X8_place_8 : decode prog_11_method_8_code 8 = .ok (.getfield 15, 3) := ky_dc db_X8_place_7 1 rfl
theorem dc_X8_place_11 : decode prog_11_method_8_code 11 = .ok (.goto 10, 3) := ky_dc db_X8_place_7 2 rfl
theorem dc_X8_isSame_0 : decode prog_11_method_9_code 0 = .ok (.aload_n 0, 1) := ky_dc db_X8_place_7 3 rfl
theorem dc_X8_isSame_1 : decode prog_11_method_9_code 1 = .ok (.getfield 9, 3) := ky_dc db_X8_place_7 4 rfl
theorem dc_X8_isSame_4 : decode prog_11_method_9_code 4 = .ok (.aload_n 1, 1) := ky_dc db_X8_place_7 5 rfl
theorem dc_X8_isSame_5 : decode prog_11_method_9_code 5 = .ok (.getfield 9, 3) := ky_dc db_X8_place_7 6 rfl
theorem dc_X8_isSame_8 : decode prog_11_method_9_code 8 = .ok (.if_icmp .ne 19, 3) := ky_dc db_X8_place_7 7 rfl
theorem dc_X8_isSame_27 : decode prog_11_method_9_code 27 = .ok (.iconst 0, 1) := ky_dc db_X8_place_7 8 rfl
theorem dc_X8_isSame_28 : decode prog_11_method_9_code 28 = .ok (.ireturn, 1) := ky_dc db_X8_place_7 9 rfl
theorem dc_X8_isSame_11 : decode prog_11_method_9_code 11 = .ok (.aload_n 0, 1) := ky_dc db_X8_place_7 10 rfl
theorem dc_X8_isSame_12 : decode prog_11_method_9_code 12 = .ok (.getfield 15, 3) := ky_dc db_X8_place_7 11 rfl
theorem dc_X8_isSame_15 : decode prog_11_method_9_code 15 = .ok (.aload_n 1, 1) := ky_dc db_X8_place_7 12 rfl
theorem dc_X8_isSame_16 : decode prog_11_method_9_code 16 = .ok (.getfield 15, 3) := ky_dc db_X8_place_7 13 rfl
theorem dc_X8_isSame_19 : decode prog_11_method_9_code 19 = .ok (.lcmp, 1) := ky_dc db_X8_place_7 14 rfl
theorem dc_X8_isSame_20 : decode prog_11_method_9_code 20 = .ok (.ifCond .ne 7, 3) := ky_dc db_X8_place_7 15 rfl
theorem dc_X8_isSame_23 : decode prog_11_method_9_code 23 = .ok (.iconst 1, 1) := ky_dc db_X8_place_7 16 rfl
theorem dc_X8_isSame_24 : decode prog_11_method_9_code 24 = .ok (.goto 4, 3) := ky_dc db_X8_place_7 17 rfl
theorem dc_X8_whole_0 : decode prog_11_method_12_code 0 = .ok (.aload_n 0, 1) := ky_dc db_X8_place_7 18 rfl
theorem dc_X8_whole_1 : decode prog_11_method_12_code 1 = .ok (.invokevirtual 36, 3) := ky_dc db_X8_place_7 19 rfl
theorem dc_X8_whole_4 : decode prog_11_method_12_code 4 = .ok (.bipush (-53), 2) := ky_dc db_X8_place_7 20 rfl
theorem dc_X8_whole_6 : decode prog_11_method_12_code 6 = .ok (.if_icmp .ge 7, 3) := ky_dc db_X8_place_7 21 rfl
theorem dc_X8_whole_13 : decode prog_11_method_12_code 13 = .ok (.aload_n 0, 1) := ky_dc db_X8_place_7 22 rfl
theorem dc_X8_whole_14 : decode prog_11_method_12_code 14 = .ok (.invokevirtual 39, 3) := ky_dc db_X8_place_7 23 rfl
theorem dc_X8_whole_17 : decode prog_11_method_12_code 17 = .ok (.aload_n 0, 1) := ky_dc db_X8_place_7 24 rfl
theorem dc_X8_whole_18 : decode prog_11_method_12_code 18 = .ok (.invokevirtual 36, 3) := ky_dc db_X8_place_7 25 rfl
theorem dc_X8_whole_21 : decode prog_11_method_12_code 21 = .ok (.ineg, 1) := ky_dc db_X8_place_7 26 rfl
theorem dc_X8_whole_22 : decode prog_11_method_12_code 22 = .ok (.lshr, 1) := ky_dc db_X8_place_7 27 rfl
theorem dc_X8_whole_23 : decode prog_11_method_12_code 23 = .ok (.lreturn, 1) := ky_dc db_X8_place_7 28 rfl
theorem dc_X8_whole_9 : decode prog_11_method_12_code 9 = .ok (.lconst 0, 1) := ky_dc db_X8_place_7 29 rfl
theorem dc_X8_whole_10 : decode prog_11_method_12_code 10 = .ok (.goto 13, 3) := ky_dc db_X8_place_7 30 rfl
theorem dc_X8_behind_0 : decode prog_11_method_11_code 0 = .ok (.aload_n 0, 1) := ky_dc db_X8_place_7 31 rfl
theorem dc_X8_behind_1 : decode prog_11_method_11_code 1 = .ok (.invokevirtual 36, 3) := ky_dc db_X8_place_7 32 rfl
theorem dc_X8_behind_4 : decode prog_11_method_11_code 4 = .ok (.ineg, 1) := ky_dc db_X8_place_7 33 rfl
theorem dc_X8_behind_5 : decode prog_11_method_11_code 5 = .ok (.istore_n 1, 1) := ky_dc db_X8_place_7 34 rfl
theorem dc_X8_behind_6 : decode prog_11_method_11_code 6 = .ok (.iload_n 1, 1) := ky_dc db_X8_place_7 35 rfl
theorem dc_X8_behind_7 : decode prog_11_method_11_code 7 = .ok (.ifCond .le 12, 3) := ky_dc db_X8_place_7 36 rfl
theorem dc_X8_behind_19 : decode prog_11_method_11_code 19 = .ok (.iconst 0, 1) := ky_dc db_X8_place_7 37 rfl
theorem dc_X8_behind_20 : decode prog_11_method_11_code 20 = .ok (.ireturn, 1) := ky_dc db_X8_place_7 38 rfl
theorem dc_X8_behind_10 : decode prog_11_method_11_code 10 = .ok (.aload_n 0, 1) := ky_dc db_X8_place_7 39 rfl
theorem dc_X8_behind_11 : decode prog_11_method_11_code 11 = .ok (.invokevirtual 39, 3) := ky_dc db_X8_place_7 40 rfl
theorem dc_X8_behind_14 : decode prog_11_method_11_code 14 = .ok (.lconst 0, 1) := ky_dc db_X8_place_7 41 rfl
theorem dc_X8_behind_15 : decode prog_11_method_11_code 15 = .ok (.lcmp, 1) := ky_dc db_X8_place_7 42 rfl
theorem dc_X8_behind_16 : decode prog_11_method_11_code 16 = .ok (.ifCond .ne 5, 3) := ky_dc db_X8_place_7 43 rfl
theorem dc_X8_behind_21 : decode prog_11_method_11_code 21 = .ok (.iload_n 1, 1) := ky_dc db_X8_place_7 44 rfl
theorem dc_X8_behind_22 : decode prog_11_method_11_code 22 = .ok (.bipush 53, 2) := ky_dc db_X8_place_7 45 rfl
theorem dc_X8_behind_24 : decode prog_11_method_11_code 24 = .ok (.if_icmp .le 5, 3) := ky_dc db_X8_place_7 46 rfl
theorem dc_X8_behind_29 : decode prog_11_method_11_code 29 = .ok (.aload_n 0, 1) := ky_dc db_X8_place_7 47 rfl
theorem dc_X8_behind_30 : decode prog_11_method_11_code 30 = .ok (.invokevirtual 39, 3) := ky_dc db_X8_place_7 48 rfl
theorem dc_X8_behind_33 : decode prog_11_method_11_code 33 = .ok (.aload_n 0, 1) := ky_dc db_X8_place_7 49 rfl
theorem dc_X8_behind_34 : decode prog_11_method_11_code 34 = .ok (.invokevirtual 42, 3) := ky_dc db_X8_place_7 50 rfl
theorem dc_X8_behind_37 : decode prog_11_method_11_code 37 = .ok (.iload_n 1, 1) := ky_dc db_X8_place_7 51 rfl
theorem dc_X8_behind_38 : decode prog_11_method_11_code 38 = .ok (.lshl, 1) := ky_dc db_X8_place_7 52 rfl
theorem dc_X8_behind_39 : decode prog_11_method_11_code 39 = .ok (.lsub, 1) := ky_dc db_X8_place_7 53 rfl
theorem dc_X8_behind_40 : decode prog_11_method_11_code 40 = .ok (.lstore_n 2, 1) := ky_dc db_X8_place_7 54 rfl
theorem dc_X8_behind_41 : decode prog_11_method_11_code 41 = .ok (.lconst 1, 1) := ky_dc db_X8_place_7 55 rfl
theorem dc_X8_behind_42 : decode prog_11_method_11_code 42 = .ok (.iload_n 1, 1) := ky_dc db_X8_place_7 56 rfl
theorem dc_X8_behind_43 : decode prog_11_method_11_code 43 = .ok (.iconst 1, 1) := ky_dc db_X8_place_7 57 rfl
theorem dc_X8_behind_44 : decode prog_11_method_11_code 44 = .ok (.isub, 1) := ky_dc db_X8_place_7 58 rfl
theorem dc_X8_behind_45 : decode prog_11_method_11_code 45 = .ok (.lshl, 1) := ky_dc db_X8_place_7 59 rfl
def dl_X8_behind_46 : List (ByteArray × Nat × Jvm.ClassFile.Instr × Nat) := [(prog_11_method_11_code, 46, .lstore 4, 2), (prog_11_method_11_code, 48, .lload_n 2, 1), (prog_11_method_11_code, 49, .lconst 0, 1), (prog_11_method_11_code, 50, .lcmp, 1), (prog_11_method_11_code, 51, .ifCond .ne 7, 3), (prog_11_method_11_code, 58, .lload_n 2, 1), (prog_11_method_11_code, 59, .lload 4, 2), (prog_11_method_11_code, 61, .lcmp, 1), (prog_11_method_11_code, 62, .ifCond .ge 7, 3), (prog_11_method_11_code, 69, .lload_n 2, 1), (prog_11_method_11_code, 70, .lload 4, 2), (prog_11_method_11_code, 72, .lcmp, 1), (prog_11_method_11_code, 73, .ifCond .ne 7, 3), (prog_11_method_11_code, 80, .iconst 3, 1), (prog_11_method_11_code, 81, .ireturn, 1), (prog_11_method_11_code, 76, .iconst 2, 1), (prog_11_method_11_code, 77, .goto 4, 3), (prog_11_method_11_code, 65, .iconst 1, 1), (prog_11_method_11_code, 66, .goto 15, 3), (prog_11_method_11_code, 54, .iconst 0, 1), (prog_11_method_11_code, 55, .goto 26, 3), (prog_11_method_11_code, 27, .iconst 1, 1), (prog_11_method_11_code, 28, .ireturn, 1), (prog_11_method_13_code, 0, .aload_n 0, 1), (prog_11_method_13_code, 1, .getfield 15, 3), (prog_11_method_13_code, 4, .lconst 0, 1), (prog_11_method_13_code, 5, .lcmp, 1), (prog_11_method_13_code, 6, .ifCond .eq 10, 3), (prog_11_method_13_code, 16, .aload_n 0, 1), (prog_11_method_13_code, 17, .getfield 15, 3), (prog_11_method_13_code, 20, .lconst 0, 1), (prog_11_method_13_code, 21, .lcmp, 1), (prog_11_method_13_code, 22, .ifCond .ne 7, 3), (prog_11_method_13_code, 29, .iconst 4, 1), (prog_11_method_13_code, 30, .ireturn, 1), (prog_11_method_13_code, 25, .iconst 0, 1), (prog_11_method_13_code, 26, .goto 4, 3), (prog_11_method_13_code, 9, .aload_n 0, 1), (prog_11_method_13_code, 10, .invokevirtual 45, 3), (prog_11_method_13_code, 13, .ifCond .eq 18, 3), (prog_11_method_13_code, 31, .aload_n 0, 1), (prog_11_method_13_code, 32, .invokevirtual 21, 3), (prog_11_method_13_code, 35, .ifCond .ne 7, 3), (prog_11_method_13_code, 42, .aload_n 0, 1), (prog_11_method_13_code, 43, .invokevirtual 49, 3), (prog_11_method_13_code, 46, .ifCond .ne 7, 3), (prog_11_method_13_code, 53, .iconst 2, 1), (prog_11_method_13_code, 54, .ireturn, 1), (prog_11_method_13_code, 49, .iconst 3, 1), (prog_11_method_13_code, 50, .goto 4, 3), (prog_11_method_13_code, 38, .iconst 1, 1), (prog_11_method_13_code, 39, .goto 15, 3), (prog_11_method_14_code, 0, .aload_n 0, 1), (prog_11_method_14_code, 1, .invokevirtual 52, 3), (prog_11_method_14_code, 4, .ifCond .eq 11, 3), (prog_11_method_14_code, 15, .iconst 1, 1), (prog_11_method_14_code, 16, .goto 4, 3), (prog_11_method_14_code, 20, .ireturn, 1), (prog_11_method_14_code, 7, .aload_n 0, 1), (prog_11_method_14_code, 8, .invokevirtual 52, 3)]
theorem db_X8_behind_46 : dl_X8_behind_46.all (fun x => decide (decode x.1 x.2.1 = .ok x.2.2)) = true := by decide +kernel
theorem dc_X8_behind_46 : decode prog_11_method_11_code 46 = .ok (.lstore 4, 2) := ky_dc db_X8_behind_46 0 rfl
theorem dc_X8_behind_48 : decode prog_11_method_11_code 48 = .ok (.lload_n 2, 1) := ky_dc db_X8_behind_46 1 rfl
theorem dc_X8_behind_49 : decode prog_11_method_11_code 49 = .ok (.lconst 0, 1) := ky_dc db_X8_behind_46 2 rfl
theorem dc_X8_behind_50 : decode prog_11_method_11_code 50 = .ok (.lcmp, 1) := ky_dc db_X8_behind_46 3 rfl
theorem dc_X8_behind_51 : decode prog_11_method_11_code 51 = .ok (.ifCond .ne 7, 3) := ky_dc db_X8_behind_46 4 rfl
theorem dc_X8_behind_58 : decode prog_11_method_11_code 58 = .ok (.lload_n 2, 1) := ky_dc db_X8_behind_46 5 rfl
theorem dc_X8_behind_59 : decode prog_11_method_11_code 59 = .ok (.lload 4, 2) := ky_dc db_X8_behind_46 6 rfl
theorem dc_X8_behind_61 : decode prog_11_method_11_code 61 = .ok (.lcmp, 1) := ky_dc db_X8_behind_46 7 rfl
theorem dc_X8_behind_62 : decode prog_11_method_11_code 62 = .ok (.ifCond .ge 7, 3) := ky_dc db_X8_behind_46 8 rfl
theorem dc_X8_behind_69 : decode prog_11_method_11_code 69 = .ok (.lload_n 2, 1) := ky_dc db_X8_behind_46 9 rfl
theorem dc_X8_behind_70 : decode prog_11_method_11_code 70 = .ok (.lload 4, 2) := ky_dc db_X8_behind_46 10 rfl
theorem dc_X8_behind_72 : decode prog_11_method_11_code 72 = .ok (.lcmp, 1) := ky_dc db_X8_behind_46 11 rfl
theorem dc_X8_behind_73 : decode prog_11_method_11_code 73 = .ok (.ifCond .ne 7, 3) := ky_dc db_X8_behind_46 12 rfl
theorem dc_X8_behind_80 : decode prog_11_method_11_code 80 = .ok (.iconst 3, 1) := ky_dc db_X8_behind_46 13 rfl
theorem dc_X8_behind_81 : decode prog_11_method_11_code 81 = .ok (.ireturn, 1) := ky_dc db_X8_behind_46 14 rfl
theorem dc_X8_behind_76 : decode prog_11_method_11_code 76 = .ok (.iconst 2, 1) := ky_dc db_X8_behind_46 15 rfl
theorem dc_X8_behind_77 : decode prog_11_method_11_code 77 = .ok (.goto 4, 3) := ky_dc db_X8_behind_46 16 rfl
theorem dc_X8_behind_65 : decode prog_11_method_11_code 65 = .ok (.iconst 1, 1) := ky_dc db_X8_behind_46 17 rfl
theorem dc_X8_behind_66 : decode prog_11_method_11_code 66 = .ok (.goto 15, 3) := ky_dc db_X8_behind_46 18 rfl
theorem dc_X8_behind_54 : decode prog_11_method_11_code 54 = .ok (.iconst 0, 1) := ky_dc db_X8_behind_46 19 rfl
theorem dc_X8_behind_55 : decode prog_11_method_11_code 55 = .ok (.goto 26, 3) := ky_dc db_X8_behind_46 20 rfl
theorem dc_X8_behind_27 : decode prog_11_method_11_code 27 = .ok (.iconst 1, 1) := ky_dc db_X8_behind_46 21 rfl
theorem dc_X8_behind_28 : decode prog_11_method_11_code 28 = .ok (.ireturn, 1) := ky_dc db_X8_behind_46 22 rfl
theorem dc_X8_kind_0 : decode prog_11_method_13_code 0 = .ok (.aload_n 0, 1) := ky_dc db_X8_behind_46 23 rfl
theorem dc_X8_kind_1 : decode prog_11_method_13_code 1 = .ok (.getfield 15, 3) := ky_dc db_X8_behind_46 24 rfl
theorem dc_X8_kind_4 : decode prog_11_method_13_code 4 = .ok (.lconst 0, 1) := ky_dc db_X8_behind_46 25 rfl
theorem dc_X8_kind_5 : decode prog_11_method_13_code 5 = .ok (.lcmp, 1) := ky_dc db_X8_behind_46 26 rfl
theorem dc_X8_kind_6 : decode prog_11_method_13_code 6 = .ok (.ifCond .eq 10, 3) := ky_dc db_X8_behind_46 27 rfl
theorem dc_X8_kind_16 : decode prog_11_method_13_code 16 = .ok (.aload_n 0, 1) := ky_dc db_X8_behind_46 28 rfl
theorem dc_X8_kind_17 : decode prog_11_method_13_code 17 = .ok (.getfield 15, 3) := ky_dc db_X8_behind_46 29 rfl
theorem dc_X8_kind_20 : decode prog_11_method_13_code 20 = .ok (.lconst 0, 1) := ky_dc db_X8_behind_46 30 rfl
theorem dc_X8_kind_21 : decode prog_11_method_13_code 21 = .ok (.lcmp, 1) := ky_dc db_X8_behind_46 31 rfl
theorem dc_X8_kind_22 : decode prog_11_method_13_code 22 = .ok (.ifCond .ne 7, 3) := ky_dc db_X8_behind_46 32 rfl
theorem dc_X8_kind_29 : decode prog_11_method_13_code 29 = .ok (.iconst 4, 1) := ky_dc db_X8_behind_46 33 rfl
theorem dc_X8_kind_30 : decode prog_11_method_13_code 30 = .ok (.ireturn, 1) := ky_dc db_X8_behind_46 34 rfl
theorem dc_X8_kind_25 : decode prog_11_method_13_code 25 = .ok (.iconst 0, 1) := ky_dc db_X8_behind_46 35 rfl
theorem dc_X8_kind_26 : decode prog_11_method_13_code 26 = .ok (.goto 4, 3) := ky_dc db_X8_behind_46 36 rfl
theorem dc_X8_kind_9 : decode prog_11_method_13_code 9 = .ok (.aload_n 0, 1) := ky_dc db_X8_behind_46 37 rfl
theorem dc_X8_kind_10 : decode prog_11_method_13_code 10 = .ok (.invokevirtual 45, 3) := ky_dc db_X8_behind_46 38 rfl
theorem dc_X8_kind_13 : decode prog_11_method_13_code 13 = .ok (.ifCond .eq 18, 3) := ky_dc db_X8_behind_46 39 rfl
theorem dc_X8_kind_31 : decode prog_11_method_13_code 31 = .ok (.aload_n 0, 1) := ky_dc db_X8_behind_46 40 rfl
theorem dc_X8_kind_32 : decode prog_11_method_13_code 32 = .ok (.invokevirtual 21, 3) := ky_dc db_X8_behind_46 41 rfl
theorem dc_X8_kind_35 : decode prog_11_method_13_code 35 = .ok (.ifCond .ne 7, 3) := ky_dc db_X8_behind_46 42 rfl
theorem dc_X8_kind_42 : decode prog_11_method_13_code 42 = .ok (.aload_n 0, 1) := ky_dc db_X8_behind_46 43 rfl
theorem dc_X8_kind_43 : decode prog_11_method_13_code 43 = .ok (.invokevirtual 49, 3) := ky_dc db_X8_behind_46 44 rfl
theorem dc_X8_kind_46 : decode prog_11_method_13_code 46 = .ok (.ifCond .ne 7, 3) := ky_dc db_X8_behind_46 45 rfl
theorem dc_X8_kind_53 : decode prog_11_method_13_code 53 = .ok (.iconst 2, 1) := ky_dc db_X8_behind_46 46 rfl
theorem dc_X8_kind_54 : decode prog_11_method_13_code 54 = .ok (.ireturn, 1) := ky_dc db_X8_behind_46 47 rfl
theorem dc_X8_kind_49 : decode prog_11_method_13_code 49 = .ok (.iconst 3, 1) := ky_dc db_X8_behind_46 48 rfl
theorem dc_X8_kind_50 : decode prog_11_method_13_code 50 = .ok (.goto 4, 3) := ky_dc db_X8_behind_46 49 rfl
theorem dc_X8_kind_38 : decode prog_11_method_13_code 38 = .ok (.iconst 1, 1) := ky_dc db_X8_behind_46 50 rfl
theorem dc_X8_kind_39 : decode prog_11_method_13_code 39 = .ok (.goto 15, 3) := ky_dc db_X8_behind_46 51 rfl
theorem dc_X8_isWhole_0 : decode prog_11_method_14_code 0 = .ok (.aload_n 0, 1) := ky_dc db_X8_behind_46 52 rfl
theorem dc_X8_isWhole_1 : decode prog_11_method_14_code 1 = .ok (.invokevirtual 52, 3) := ky_dc db_X8_behind_46 53 rfl
theorem dc_X8_isWhole_4 : decode prog_11_method_14_code 4 = .ok (.ifCond .eq 11, 3) := ky_dc db_X8_behind_46 54 rfl
theorem dc_X8_isWhole_15 : decode prog_11_method_14_code 15 = .ok (.iconst 1, 1) := ky_dc db_X8_behind_46 55 rfl
theorem dc_X8_isWhole_16 : decode prog_11_method_14_code 16 = .ok (.goto 4, 3) := ky_dc db_X8_behind_46 56 rfl
theorem dc_X8_isWhole_20 : decode prog_11_method_14_code 20 = .ok (.ireturn, 1) := ky_dc db_X8_behind_46 57 rfl
theorem dc_X8_isWhole_7 : decode prog_11_method_14_code 7 = .ok (.aload_n 0, 1) := ky_dc db_X8_behind_46 58 rfl
theorem dc_X8_isWhole_8 : decode prog_11_method_14_code 8 = .ok (.invokevirtual 52, 3) := ky_dc db_X8_behind_46 59 rfl
def dl_X8_isWhole_11 : List (ByteArray × Nat × Jvm.ClassFile.Instr × Nat) := [(prog_11_method_14_code, 11, .iconst 3, 1), (prog_11_method_14_code, 12, .if_icmp .ne 7, 3), (prog_11_method_14_code, 19, .iconst 0, 1), (prog_11_method_20_code, 0, .aload_n 0, 1), (prog_11_method_20_code, 1, .invokevirtual 21, 3), (prog_11_method_20_code, 4, .sipush 1023, 3), (prog_11_method_20_code, 7, .isub, 1), (prog_11_method_20_code, 8, .ireturn, 1), (prog_11_method_23_code, 0, .aload_n 0, 1), (prog_11_method_23_code, 1, .invokevirtual 45, 3), (prog_11_method_23_code, 4, .ifCond .ne 12, 3), (prog_11_method_23_code, 16, .aload_n 0, 1), (prog_11_method_23_code, 17, .getfield 9, 3), (prog_11_method_23_code, 20, .ifCond .ne 9, 3), (prog_11_method_23_code, 29, .ldc2_w 105, 3), (prog_11_method_23_code, 32, .lreturn, 1), (prog_11_method_23_code, 23, .ldc2_w 103, 3), (prog_11_method_23_code, 26, .goto 6, 3), (prog_11_method_23_code, 7, .aload_n 0, 1), (prog_11_method_23_code, 8, .invokevirtual 36, 3), (prog_11_method_23_code, 11, .bipush 10, 2), (prog_11_method_23_code, 13, .if_icmp .le 20, 3), (prog_11_method_23_code, 33, .aload_n 0, 1), (prog_11_method_23_code, 34, .invokevirtual 36, 3), (prog_11_method_23_code, 37, .ifCond .lt 33, 3), (prog_11_method_23_code, 70, .aload_n 0, 1), (prog_11_method_23_code, 71, .invokevirtual 49, 3), (prog_11_method_23_code, 74, .istore_n 2, 1), (prog_11_method_23_code, 75, .iload_n 1, 1), (prog_11_method_23_code, 76, .ifCond .ne 24, 3), (prog_11_method_23_code, 100, .iconst 0, 1), (prog_11_method_23_code, 101, .istore_n 3, 1), (prog_11_method_23_code, 102, .aload_n 0, 1), (prog_11_method_23_code, 103, .invokevirtual 42, 3), (prog_11_method_23_code, 106, .iload_n 3, 1), (prog_11_method_23_code, 107, .ifCond .eq 7, 3), (prog_11_method_23_code, 114, .iconst 0, 1), (prog_11_method_23_code, 115, .i2l, 1), (prog_11_method_23_code, 116, .ladd, 1), (prog_11_method_23_code, 117, .lstore 4, 2), (prog_11_method_23_code, 119, .aload_n 0, 1), (prog_11_method_23_code, 120, .getfield 9, 3), (prog_11_method_23_code, 123, .ifCond .ne 8, 3), (prog_11_method_23_code, 131, .lload 4, 2), (prog_11_method_23_code, 133, .lneg, 1), (prog_11_method_23_code, 134, .lreturn, 1), (prog_11_method_23_code, 126, .lload 4, 2), (prog_11_method_23_code, 128, .goto 6, 3), (prog_11_method_23_code, 79, .iload_n 2, 1), (prog_11_method_23_code, 80, .iconst 3, 1), (prog_11_method_23_code, 81, .if_icmp .eq 15, 3), (prog_11_method_23_code, 96, .iconst 1, 1), (prog_11_method_23_code, 97, .goto 4, 3), (prog_11_method_23_code, 110, .iconst 1, 1), (prog_11_method_23_code, 111, .goto 4, 3), (prog_11_method_23_code, 84, .iload_n 2, 1), (prog_11_method_23_code, 85, .iconst 2, 1), (prog_11_method_23_code, 86, .if_icmp .ne 14, 3), (prog_11_method_23_code, 89, .aload_n 0, 1), (prog_11_method_23_code, 90, .getfield 9, 3)]
theorem db_X8_isWhole_11 : dl_X8_isWhole_11.all (fun x => decide (decode x.1 x.2.1 = .ok x.2.2)) = true := by decide +kernel
theorem dc_X8_isWhole_11 : decode prog_11_method_14_code 11 = .ok (.iconst 3, 1) := ky_dc db_X8_isWhole_11 0 rfl
theorem dc_X8_isWhole_12 : decode prog_11_method_14_code 12 = .ok (.if_icmp .ne 7, 3) := ky_dc db_X8_isWhole_11 1 rfl
theorem dc_X8_isWhole_19 : decode prog_11_method_14_code 19 = .ok (.iconst 0, 1) := ky_dc db_X8_isWhole_11 2 rfl
theorem dc_X8_exponent_0 : decode prog_11_method_20_code 0 = .ok (.aload_n 0, 1) := ky_dc db_X8_isWhole_11 3 rfl
theorem dc_X8_exponent_1 : decode prog_11_method_20_code 1 = .ok (.invokevirtual 21, 3) := ky_dc db_X8_isWhole_11 4 rfl
theorem dc_X8_exponent_4 : decode prog_11_method_20_code 4 = .ok (.sipush 1023, 3) := ky_dc db_X8_isWhole_11 5 rfl
theorem dc_X8_exponent_7 : decode prog_11_method_20_code 7 = .ok (.isub, 1) := ky_dc db_X8_isWhole_11 6 rfl
theorem dc_X8_exponent_8 : decode prog_11_method_20_code 8 = .ok (.ireturn, 1) := ky_dc db_X8_isWhole_11 7 rfl
theorem dc_X8_rounded_0 : decode prog_11_method_23_code 0 = .ok (.aload_n 0, 1) := ky_dc db_X8_isWhole_11 8 rfl
theorem dc_X8_rounded_1 : decode prog_11_method_23_code 1 = .ok (.invokevirtual 45, 3) := ky_dc db_X8_isWhole_11 9 rfl
theorem dc_X8_rounded_4 : decode prog_11_method_23_code 4 = .ok (.ifCond .ne 12, 3) := ky_dc db_X8_isWhole_11 10 rfl
theorem dc_X8_rounded_16 : decode prog_11_method_23_code 16 = .ok (.aload_n 0, 1) := ky_dc db_X8_isWhole_11 11 rfl
theorem dc_X8_rounded_17 : decode prog_11_method_23_code 17 = .ok (.getfield 9, 3) := ky_dc db_X8_isWhole_11 12 rfl
theorem dc_X8_rounded_20 : decode prog_11_method_23_code 20 = .ok (.ifCond .ne 9, 3) := ky_dc db_X8_isWhole_11 13 rfl
theorem dc_X8_rounded_29 : decode prog_11_method_23_code 29 = .ok (.ldc2_w 105, 3) := ky_dc db_X8_isWhole_11 14 rfl
theorem dc_X8_rounded_32 : decode prog_11_method_23_code 32 = .ok (.lreturn, 1) := ky_dc db_X8_isWhole_11 15 rfl
theorem dc_X8_rounded_23 : decode prog_11_method_23_code 23 = .ok (.ldc2_w 103, 3) := ky_dc db_X8_isWhole_11 16 rfl
theorem dc_X8_rounded_26 : decode prog_11_method_23_code 26 = .ok (.goto 6, 3) := ky_dc db_X8_isWhole_11 17 rfl
theorem dc_X8_rounded_7 : decode prog_11_method_23_code 7 = .ok (.aload_n 0, 1) := ky_dc db_X8_isWhole_11 18 rfl
theorem dc_X8_rounded_8 : decode prog_11_method_23_code 8 = .ok (.invokevirtual 36, 3) := ky_dc db_X8_isWhole_11 19 rfl
theorem dc_X8_rounded_11 : decode prog_11_method_23_code 11 = .ok (.bipush 10, 2) := ky_dc db_X8_isWhole_11 20 rfl
theorem dc_X8_rounded_13 : decode prog_11_method_23_code 13 = .ok (.if_icmp .le 20, 3) := ky_dc db_X8_isWhole_11 21 rfl
theorem dc_X8_rounded_33 : decode prog_11_method_23_code 33 = .ok (.aload_n 0, 1) := ky_dc db_X8_isWhole_11 22 rfl
theorem dc_X8_rounded_34 : decode prog_11_method_23_code 34 = .ok (.invokevirtual 36, 3) := ky_dc db_X8_isWhole_11 23 rfl
theorem dc_X8_rounded_37 : decode prog_11_method_23_code 37 = .ok (.ifCond .lt 33, 3) := ky_dc db_X8_isWhole_11 24 rfl
theorem dc_X8_rounded_70 : decode prog_11_method_23_code 70 = .ok (.aload_n 0, 1) := ky_dc db_X8_isWhole_11 25 rfl
theorem dc_X8_rounded_71 : decode prog_11_method_23_code 71 = .ok (.invokevirtual 49, 3) := ky_dc db_X8_isWhole_11 26 rfl
theorem dc_X8_rounded_74 : decode prog_11_method_23_code 74 = .ok (.istore_n 2, 1) := ky_dc db_X8_isWhole_11 27 rfl
theorem dc_X8_rounded_75 : decode prog_11_method_23_code 75 = .ok (.iload_n 1, 1) := ky_dc db_X8_isWhole_11 28 rfl
theorem dc_X8_rounded_76 : decode prog_11_method_23_code 76 = .ok (.ifCond .ne 24, 3) := ky_dc db_X8_isWhole_11 29 rfl
theorem dc_X8_rounded_100 : decode prog_11_method_23_code 100 = .ok (.iconst 0, 1) := ky_dc db_X8_isWhole_11 30 rfl
theorem dc_X8_rounded_101 : decode prog_11_method_23_code 101 = .ok (.istore_n 3, 1) := ky_dc db_X8_isWhole_11 31 rfl
theorem dc_X8_rounded_102 : decode prog_11_method_23_code 102 = .ok (.aload_n 0, 1) := ky_dc db_X8_isWhole_11 32 rfl
theorem dc_X8_rounded_103 : decode prog_11_method_23_code 103 = .ok (.invokevirtual 42, 3) := ky_dc db_X8_isWhole_11 33 rfl
theorem dc_X8_rounded_106 : decode prog_11_method_23_code 106 = .ok (.iload_n 3, 1) := ky_dc db_X8_isWhole_11 34 rfl
theorem dc_X8_rounded_107 : decode prog_11_method_23_code 107 = .ok (.ifCond .eq 7, 3) := ky_dc db_X8_isWhole_11 35 rfl
theorem dc_X8_rounded_114 : decode prog_11_method_23_code 114 = .ok (.iconst 0, 1) := ky_dc db_X8_isWhole_11 36 rfl
theorem dc_X8_rounded_115 : decode prog_11_method_23_code 115 = .ok (.i2l, 1) := ky_dc db_X8_isWhole_11 37 rfl
theorem dc_X8_rounded_116 : decode prog_11_method_23_code 116 = .ok (.ladd, 1) := ky_dc db_X8_isWhole_11 38 rfl
theorem dc_X8_rounded_117 : decode prog_11_method_23_code 117 = .ok (.lstore 4, 2) := ky_dc db_X8_isWhole_11 39 rfl
theorem dc_X8_rounded_119 : decode prog_11_method_23_code 119 = .ok (.aload_n 0, 1) := ky_dc db_X8_isWhole_11 40 rfl
theorem dc_X8_rounded_120 : decode prog_11_method_23_code 120 = .ok (.getfield 9, 3) := ky_dc db_X8_isWhole_11 41 rfl
theorem dc_X8_rounded_123 : decode prog_11_method_23_code 123 = .ok (.ifCond .ne 8, 3) := ky_dc db_X8_isWhole_11 42 rfl
theorem dc_X8_rounded_131 : decode prog_11_method_23_code 131 = .ok (.lload 4, 2) := ky_dc db_X8_isWhole_11 43 rfl
theorem dc_X8_rounded_133 : decode prog_11_method_23_code 133 = .ok (.lneg, 1) := ky_dc db_X8_isWhole_11 44 rfl
theorem dc_X8_rounded_134 : decode prog_11_method_23_code 134 = .ok (.lreturn, 1) := ky_dc db_X8_isWhole_11 45 rfl
theorem dc_X8_rounded_126 : decode prog_11_method_23_code 126 = .ok (.lload 4, 2) := ky_dc db_X8_isWhole_11 46 rfl
theorem dc_X8_rounded_128 : decode prog_11_method_23_code 128 = .ok (.goto 6, 3) := ky_dc db_X8_isWhole_11 47 rfl
theorem dc_X8_rounded_79 : decode prog_11_method_23_code 79 = .ok (.iload_n 2, 1) := ky_dc db_X8_isWhole_11 48 rfl
theorem dc_X8_rounded_80 : decode prog_11_method_23_code 80 = .ok (.iconst 3, 1) := ky_dc db_X8_isWhole_11 49 rfl
theorem dc_X8_rounded_81 : decode prog_11_method_23_code 81 = .ok (.if_icmp .eq 15, 3) := ky_dc db_X8_isWhole_11 50 rfl
theorem dc_X8_rounded_96 : decode prog_11_method_23_code 96 = .ok (.iconst 1, 1) := ky_dc db_X8_isWhole_11 51 rfl
theorem dc_X8_rounded_97 : decode prog_11_method_23_code 97 = .ok (.goto 4, 3) := ky_dc db_X8_isWhole_11 52 rfl
theorem dc_X8_rounded_110 : decode prog_11_method_23_code 110 = .ok (.iconst 1, 1) := ky_dc db_X8_isWhole_11 53 rfl
theorem dc_X8_rounded_111 : decode prog_11_method_23_code 111 = .ok (.goto 4, 3) := ky_dc db_X8_isWhole_11 54 rfl
theorem dc_X8_rounded_84 : decode prog_11_method_23_code 84 = .ok (.iload_n 2, 1) := ky_dc db_X8_isWhole_11 55 rfl
theorem dc_X8_rounded_85 : decode prog_11_method_23_code 85 = .ok (.iconst 2, 1) := ky_dc db_X8_isWhole_11 56 rfl
theorem dc_X8_rounded_86 : decode prog_11_method_23_code 86 = .ok (.if_icmp .ne 14, 3) := ky_dc db_X8_isWhole_11 57 rfl
theorem dc_X8_rounded_89 : decode prog_11_method_23_code 89 = .ok (.aload_n 0, 1) := ky_dc db_X8_isWhole_11 58 rfl
theorem dc_X8_rounded_90 : decode prog_11_method_23_code 90 = .ok (.getfield 9, 3) := ky_dc db_X8_isWhole_11 59 rfl
def dl_X8_rounded_93 : List (ByteArray × Nat × Jvm.ClassFile.Instr × Nat) := [(prog_11_method_23_code, 93, .ifCond .ne 7, 3), (prog_11_method_23_code, 40, .aload_n 0, 1), (prog_11_method_23_code, 41, .getfield 9, 3), (prog_11_method_23_code, 44, .ifCond .ne 15, 3), (prog_11_method_23_code, 59, .aload_n 0, 1), (prog_11_method_23_code, 60, .invokevirtual 39, 3), (prog_11_method_23_code, 63, .aload_n 0, 1), (prog_11_method_23_code, 64, .invokevirtual 36, 3), (prog_11_method_23_code, 67, .lshl, 1), (prog_11_method_23_code, 68, .lneg, 1), (prog_11_method_23_code, 69, .lreturn, 1), (prog_11_method_23_code, 47, .aload_n 0, 1), (prog_11_method_23_code, 48, .invokevirtual 39, 3), (prog_11_method_23_code, 51, .aload_n 0, 1), (prog_11_method_23_code, 52, .invokevirtual 36, 3), (prog_11_method_23_code, 55, .lshl, 1), (prog_11_method_23_code, 56, .goto 13, 3)]
theorem db_X8_rounded_93 : dl_X8_rounded_93.all (fun x => decide (decode x.1 x.2.1 = .ok x.2.2)) = true := by decide +kernel
theorem dc_X8_rounded_93 : decode prog_11_method_23_code 93 = .ok (.ifCond .ne 7, 3) := ky_dc db_X8_rounded_93 0 rfl
theorem dc_X8_rounded_40 : decode prog_11_method_23_code 40 = .ok (.aload_n 0, 1) := ky_dc db_X8_rounded_93 1 rfl
theorem dc_X8_rounded_41 : decode prog_11_method_23_code 41 = .ok (.getfield 9, 3) := ky_dc db_X8_rounded_93 2 rfl
theorem dc_X8_rounded_44 : decode prog_11_method_23_code 44 = .ok (.ifCond .ne 15, 3) := ky_dc db_X8_rounded_93 3 rfl
theorem dc_X8_rounded_59 : decode prog_11_method_23_code 59 = .ok (.aload_n 0, 1) := ky_dc db_X8_rounded_93 4 rfl
theorem dc_X8_rounded_60 : decode prog_11_method_23_code 60 = .ok (.invokevirtual 39, 3) := ky_dc db_X8_rounded_93 5 rfl
theorem dc_X8_rounded_63 : decode prog_11_method_23_code 63 = .ok (.aload_n 0, 1) := ky_dc db_X8_rounded_93 6 rfl
theorem dc_X8_rounded_64 : decode prog_11_method_23_code 64 = .ok (.invokevirtual 36, 3) := ky_dc db_X8_rounded_93 7 rfl
theorem dc_X8_rounded_67 : decode prog_11_method_23_code 67 = .ok (.lshl, 1) := ky_dc db_X8_rounded_93 8 rfl
theorem dc_X8_rounded_68 : decode prog_11_method_23_code 68 = .ok (.lneg, 1) := ky_dc db_X8_rounded_93 9 rfl
theorem dc_X8_rounded_69 : decode prog_11_method_23_code 69 = .ok (.lreturn, 1) := ky_dc db_X8_rounded_93 10 rfl
theorem dc_X8_rounded_47 : decode prog_11_method_23_code 47 = .ok (.aload_n 0, 1) := ky_dc db_X8_rounded_93 11 rfl
theorem dc_X8_rounded_48 : decode prog_11_method_23_code 48 = .ok (.invokevirtual 39, 3) := ky_dc db_X8_rounded_93 12 rfl
theorem dc_X8_rounded_51 : decode prog_11_method_23_code 51 = .ok (.aload_n 0, 1) := ky_dc db_X8_rounded_93 13 rfl
theorem dc_X8_rounded_52 : decode prog_11_method_23_code 52 = .ok (.invokevirtual 36, 3) := ky_dc db_X8_rounded_93 14 rfl
theorem dc_X8_rounded_55 : decode prog_11_method_23_code 55 = .ok (.lshl, 1) := ky_dc db_X8_rounded_93 15 rfl
theorem dc_X8_rounded_56 : decode prog_11_method_23_code 56 = .ok (.goto 13, 3) := ky_dc db_X8_rounded_93 16 rfl
