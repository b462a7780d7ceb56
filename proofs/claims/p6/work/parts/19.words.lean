abbrev my_X8_high : MethodName := ⟨"ExactdoublesModel$Its", "high", "()I"⟩
abbrev my_X8_low : MethodName := ⟨"ExactdoublesModel$Its", "low", "()J"⟩
abbrev my_X8_many : MethodName := ⟨"ExactdoublesModel$Its", "many", "()J"⟩
abbrev my_X8_power : MethodName := ⟨"ExactdoublesModel$Its", "power", "()I"⟩
abbrev my_X8_isEndless : MethodName := ⟨"ExactdoublesModel$Its", "isEndless", "()Z"⟩
abbrev my_X8_rung : MethodName := ⟨"ExactdoublesModel$Its", "rung", "()J"⟩
abbrev my_X8_place : MethodName := ⟨"ExactdoublesModel$Its", "place", "()J"⟩
abbrev my_X8_isSame : MethodName := ⟨"ExactdoublesModel$Its", "isSame", "(LExactdoublesModel$Its;)Z"⟩
abbrev my_X8_whole : MethodName := ⟨"ExactdoublesModel$Its", "whole", "()J"⟩
abbrev my_X8_behind : MethodName := ⟨"ExactdoublesModel$Its", "behind", "()I"⟩
abbrev my_X8_kind : MethodName := ⟨"ExactdoublesModel$Its", "kind", "()I"⟩
abbrev my_X8_isWhole : MethodName := ⟨"ExactdoublesModel$Its", "isWhole", "()Z"⟩
abbrev my_X8_exponent : MethodName := ⟨"ExactdoublesModel$Its", "exponent", "()I"⟩
abbrev my_X8_rounded : MethodName := ⟨"ExactdoublesModel$Its", "rounded", "(Z)J"⟩
theorem kw_6_12 : (Jvm.Cond.fieldLink "ExactdoublesModel$Its" (15 : Nat) "ExactdoublesModel$Its" "size" "J") ∈ ky_B := ky_mem (kc_6 _ (List.mem_of_getElem? (i := 12) rfl)) (by decide +kernel)
theorem kw_6_93 : (Jvm.Cond.constantLong "ExactdoublesModel$Its" (19 : Nat) (4503599627370495 : Int64)) ∈ ky_B := ky_mem (kc_6 _ (List.mem_of_getElem? (i := 93) rfl)) (by decide +kernel)
theorem kw_6_73 : (Jvm.Cond.methodLink "ExactdoublesModel$Its" (21 : Nat) ({ cls := "ExactdoublesModel$Its", name := "high", desc := "()I" } : Jvm.MethodName)) ∈ ky_B := ky_mem (kc_6 _ (List.mem_of_getElem? (i := 73) rfl)) (by decide +kernel)
theorem kw_6_74 : (Jvm.Cond.instanceMethod ({ cls := "ExactdoublesModel$Its", name := "high", desc := "()I" } : Jvm.MethodName)) ∈ ky_B := ky_mem (kc_6 _ (List.mem_of_getElem? (i := 74) rfl)) (by decide +kernel)
theorem kw_6_75 : (Jvm.Cond.selects "ExactdoublesModel$Its" ({ cls := "ExactdoublesModel$Its", name := "high", desc := "()I" } : Jvm.MethodName) ({ cls := "ExactdoublesModel$Its", name := "high", desc := "()I" } : Jvm.MethodName)) ∈ ky_B := ky_mem (kc_6 _ (List.mem_of_getElem? (i := 75) rfl)) (by decide +kernel)
theorem kw_1_9 : (Jvm.Cond.initialized "ExactdoublesModel$Its") ∈ ky_B := ky_mem (kc_1 _ (List.mem_of_getElem? (i := 9) rfl)) (by decide +kernel)
theorem kw_6_76 : (Jvm.Cond.code ({ cls := "ExactdoublesModel$Its", name := "high", desc := "()I" } : Jvm.MethodName) prog_11_method_2_code (1 : Nat) (Option.some Jvm.ClassFile.FieldType.int)) ∈ ky_B := ky_mem (kc_6 _ (List.mem_of_getElem? (i := 76) rfl)) (by decide +kernel)
theorem kw_6_89 : (Jvm.Cond.methodLink "ExactdoublesModel$Its" (25 : Nat) ({ cls := "ExactdoublesModel$Its", name := "low", desc := "()J" } : Jvm.MethodName)) ∈ ky_B := ky_mem (kc_6 _ (List.mem_of_getElem? (i := 89) rfl)) (by decide +kernel)
theorem kw_6_90 : (Jvm.Cond.instanceMethod ({ cls := "ExactdoublesModel$Its", name := "low", desc := "()J" } : Jvm.MethodName)) ∈ ky_B := ky_mem (kc_6 _ (List.mem_of_getElem? (i := 90) rfl)) (by decide +kernel)
theorem kw_6_91 : (Jvm.Cond.selects "ExactdoublesModel$Its" ({ cls := "ExactdoublesModel$Its", name := "low", desc := "()J" } : Jvm.MethodName) ({ cls := "ExactdoublesModel$Its", name := "low", desc := "()J" } : Jvm.MethodName)) ∈ ky_B := ky_mem (kc_6 _ (List.mem_of_getElem? (i := 91) rfl)) (by decide +kernel)
theorem kw_6_92 : (Jvm.Cond.code ({ cls := "ExactdoublesModel$Its", name := "low", desc := "()J" } : Jvm.MethodName) prog_11_method_3_code (1 : Nat) (Option.some Jvm.ClassFile.FieldType.long)) ∈ ky_B := ky_mem (kc_6 _ (List.mem_of_getElem? (i := 92) rfl)) (by decide +kernel)
theorem kw_6_94 : (Jvm.Cond.constantLong "ExactdoublesModel$Its" (29 : Nat) (4503599627370496 : Int64)) ∈ ky_B := ky_mem (kc_6 _ (List.mem_of_getElem? (i := 94) rfl)) (by decide +kernel)
theorem kw_6_72 : (Jvm.Cond.constantLong "ExactdoublesModel$Its" (31 : Nat) (9218868437227405312 : Int64)) ∈ ky_B := ky_mem (kc_6 _ (List.mem_of_getElem? (i := 72) rfl)) (by decide +kernel)
theorem kw_6_10 : (Jvm.Cond.fieldLink "ExactdoublesModel$Its" (9 : Nat) "ExactdoublesModel$Its" "side" "I") ∈ ky_B := ky_mem (kc_6 _ (List.mem_of_getElem? (i := 10) rfl)) (by decide +kernel)
theorem kw_6_81 : (Jvm.Cond.methodLink "ExactdoublesModel$Its" (36 : Nat) ({ cls := "ExactdoublesModel$Its", name := "power", desc := "()I" } : Jvm.MethodName)) ∈ ky_B := ky_mem (kc_6 _ (List.mem_of_getElem? (i := 81) rfl)) (by decide +kernel)
theorem kw_6_82 : (Jvm.Cond.instanceMethod ({ cls := "ExactdoublesModel$Its", name := "power", desc := "()I" } : Jvm.MethodName)) ∈ ky_B := ky_mem (kc_6 _ (List.mem_of_getElem? (i := 82) rfl)) (by decide +kernel)
theorem kw_6_83 : (Jvm.Cond.selects "ExactdoublesModel$Its" ({ cls := "ExactdoublesModel$Its", name := "power", desc := "()I" } : Jvm.MethodName) ({ cls := "ExactdoublesModel$Its", name := "power", desc := "()I" } : Jvm.MethodName)) ∈ ky_B := ky_mem (kc_6 _ (List.mem_of_getElem? (i := 83) rfl)) (by decide +kernel)
theorem kw_6_84 : (Jvm.Cond.code ({ cls := "ExactdoublesModel$Its", name := "power", desc := "()I" } : Jvm.MethodName) prog_11_method_5_code (1 : Nat) (Option.some Jvm.ClassFile.FieldType.int)) ∈ ky_B := ky_mem (kc_6 _ (List.mem_of_getElem? (i := 84) rfl)) (by decide +kernel)
theorem kw_6_85 : (Jvm.Cond.methodLink "ExactdoublesModel$Its" (39 : Nat) ({ cls := "ExactdoublesModel$Its", name := "many", desc := "()J" } : Jvm.MethodName)) ∈ ky_B := ky_mem (kc_6 _ (List.mem_of_getElem? (i := 85) rfl)) (by decide +kernel)
theorem kw_6_86 : (Jvm.Cond.instanceMethod ({ cls := "ExactdoublesModel$Its", name := "many", desc := "()J" } : Jvm.MethodName)) ∈ ky_B := ky_mem (kc_6 _ (List.mem_of_getElem? (i := 86) rfl)) (by decide +kernel)
theorem kw_6_87 : (Jvm.Cond.selects "ExactdoublesModel$Its" ({ cls := "ExactdoublesModel$Its", name := "many", desc := "()J" } : Jvm.MethodName) ({ cls := "ExactdoublesModel$Its", name := "many", desc := "()J" } : Jvm.MethodName)) ∈ ky_B := ky_mem (kc_6 _ (List.mem_of_getElem? (i := 87) rfl)) (by decide +kernel)
theorem kw_6_88 : (Jvm.Cond.code ({ cls := "ExactdoublesModel$Its", name := "many", desc := "()J" } : Jvm.MethodName) prog_11_method_4_code (1 : Nat) (Option.some Jvm.ClassFile.FieldType.long)) ∈ ky_B := ky_mem (kc_6 _ (List.mem_of_getElem? (i := 88) rfl)) (by decide +kernel)
theorem kw_6_95 : (Jvm.Cond.methodLink "ExactdoublesModel$Its" (42 : Nat) ({ cls := "ExactdoublesModel$Its", name := "whole", desc := "()J" } : Jvm.MethodName)) ∈ ky_B := ky_mem (kc_6 _ (List.mem_of_getElem? (i := 95) rfl)) (by decide +kernel)
theorem kw_6_96 : (Jvm.Cond.instanceMethod ({ cls := "ExactdoublesModel$Its", name := "whole", desc := "()J" } : Jvm.MethodName)) ∈ ky_B := ky_mem (kc_6 _ (List.mem_of_getElem? (i := 96) rfl)) (by decide +kernel)
theorem kw_6_97 : (Jvm.Cond.selects "ExactdoublesModel$Its" ({ cls := "ExactdoublesModel$Its", name := "whole", desc := "()J" } : Jvm.MethodName) ({ cls := "ExactdoublesModel$Its", name := "whole", desc := "()J" } : Jvm.MethodName)) ∈ ky_B := ky_mem (kc_6 _ (List.mem_of_getElem? (i := 97) rfl)) (by decide +kernel)
theorem kw_6_98 : (Jvm.Cond.code ({ cls := "ExactdoublesModel$Its", name := "whole", desc := "()J" } : Jvm.MethodName) prog_11_method_12_code (1 : Nat) (Option.some Jvm.ClassFile.FieldType.long)) ∈ ky_B := ky_mem (kc_6 _ (List.mem_of_getElem? (i := 98) rfl)) (by decide +kernel)
theorem kw_6_68 : (Jvm.Cond.methodLink "ExactdoublesModel$Its" (45 : Nat) ({ cls := "ExactdoublesModel$Its", name := "isEndless", desc := "()Z" } : Jvm.MethodName)) ∈ ky_B := ky_mem (kc_6 _ (List.mem_of_getElem? (i := 68) rfl)) (by decide +kernel)
theorem kw_6_69 : (Jvm.Cond.instanceMethod ({ cls := "ExactdoublesModel$Its", name := "isEndless", desc := "()Z" } : Jvm.MethodName)) ∈ ky_B := ky_mem (kc_6 _ (List.mem_of_getElem? (i := 69) rfl)) (by decide +kernel)
theorem kw_6_70 : (Jvm.Cond.selects "ExactdoublesModel$Its" ({ cls := "ExactdoublesModel$Its", name := "isEndless", desc := "()Z" } : Jvm.MethodName) ({ cls := "ExactdoublesModel$Its", name := "isEndless", desc := "()Z" } : Jvm.MethodName)) ∈ ky_B := ky_mem (kc_6 _ (List.mem_of_getElem? (i := 70) rfl)) (by decide +kernel)
theorem kw_6_71 : (Jvm.Cond.code ({ cls := "ExactdoublesModel$Its", name := "isEndless", desc := "()Z" } : Jvm.MethodName) prog_11_method_6_code (1 : Nat) (Option.some Jvm.ClassFile.FieldType.boolean)) ∈ ky_B := ky_mem (kc_6 _ (List.mem_of_getElem? (i := 71) rfl)) (by decide +kernel)
theorem kw_6_77 : (Jvm.Cond.methodLink "ExactdoublesModel$Its" (49 : Nat) ({ cls := "ExactdoublesModel$Its", name := "behind", desc := "()I" } : Jvm.MethodName)) ∈ ky_B := ky_mem (kc_6 _ (List.mem_of_getElem? (i := 77) rfl)) (by decide +kernel)
theorem kw_6_78 : (Jvm.Cond.instanceMethod ({ cls := "ExactdoublesModel$Its", name := "behind", desc := "()I" } : Jvm.MethodName)) ∈ ky_B := ky_mem (kc_6 _ (List.mem_of_getElem? (i := 78) rfl)) (by decide +kernel)
theorem kw_6_79 : (Jvm.Cond.selects "ExactdoublesModel$Its" ({ cls := "ExactdoublesModel$Its", name := "behind", desc := "()I" } : Jvm.MethodName) ({ cls := "ExactdoublesModel$Its", name := "behind", desc := "()I" } : Jvm.MethodName)) ∈ ky_B := ky_mem (kc_6 _ (List.mem_of_getElem? (i := 79) rfl)) (by decide +kernel)
theorem kw_6_80 : (Jvm.Cond.code ({ cls := "ExactdoublesModel$Its", name := "behind", desc := "()I" } : Jvm.MethodName) prog_11_method_11_code (6 : Nat) (Option.some Jvm.ClassFile.FieldType.int)) ∈ ky_B := ky_mem (kc_6 _ (List.mem_of_getElem? (i := 80) rfl)) (by decide +kernel)
theorem kw_7_156 : (Jvm.Cond.methodLink "ExactdoublesModel$Its" (52 : Nat) ({ cls := "ExactdoublesModel$Its", name := "kind", desc := "()I" } : Jvm.MethodName)) ∈ ky_B := ky_mem (kc_7 _ (List.mem_of_getElem? (i := 156) rfl)) (by decide +kernel)
theorem kw_6_65 : (Jvm.Cond.instanceMethod ({ cls := "ExactdoublesModel$Its", name := "kind", desc := "()I" } : Jvm.MethodName)) ∈ ky_B := ky_mem (kc_6 _ (List.mem_of_getElem? (i := 65) rfl)) (by decide +kernel)
theorem kw_6_66 : (Jvm.Cond.selects "ExactdoublesModel$Its" ({ cls := "ExactdoublesModel$Its", name := "kind", desc := "()I" } : Jvm.MethodName) ({ cls := "ExactdoublesModel$Its", name := "kind", desc := "()I" } : Jvm.MethodName)) ∈ ky_B := ky_mem (kc_6 _ (List.mem_of_getElem? (i := 66) rfl)) (by decide +kernel)
theorem kw_6_67 : (Jvm.Cond.code ({ cls := "ExactdoublesModel$Its", name := "kind", desc := "()I" } : Jvm.MethodName) prog_11_method_13_code (1 : Nat) (Option.some Jvm.ClassFile.FieldType.int)) ∈ ky_B := ky_mem (kc_6 _ (List.mem_of_getElem? (i := 67) rfl)) (by decide +kernel)
theorem kw_7_107 : (Jvm.Cond.constantLong "ExactdoublesModel$Its" (105 : Nat) (-9223372036854775808 : Int64)) ∈ ky_B := ky_mem (kc_7 _ (List.mem_of_getElem? (i := 107) rfl)) (by decide +kernel)
theorem kw_7_106 : (Jvm.Cond.constantLong "ExactdoublesModel$Its" (103 : Nat) (9223372036854775807 : Int64)) ∈ ky_B := ky_mem (kc_7 _ (List.mem_of_getElem? (i := 106) rfl)) (by decide +kernel)
theorem kv_X8_21 : ky_wV "ExactdoublesModel$Its" 21 my_X8_high prog_11_method_2_code 1 (Option.some Jvm.ClassFile.FieldType.int) 0 := ⟨kw_6_73, kw_6_74, kw_6_75, kw_1_9, kw_6_76, by decide, by decide, by decide +kernel⟩
theorem kv_X8_25 : ky_wV "ExactdoublesModel$Its" 25 my_X8_low prog_11_method_3_code 1 (Option.some Jvm.ClassFile.FieldType.long) 0 := ⟨kw_6_89, kw_6_90, kw_6_91, kw_1_9, kw_6_92, by decide, by decide, by decide +kernel⟩
theorem kv_X8_36 : ky_wV "ExactdoublesModel$Its" 36 my_X8_power prog_11_method_5_code 1 (Option.some Jvm.ClassFile.FieldType.int) 0 := ⟨kw_6_81, kw_6_82, kw_6_83, kw_1_9, kw_6_84, by decide, by decide, by decide +kernel⟩
theorem kv_X8_39 : ky_wV "ExactdoublesModel$Its" 39 my_X8_many prog_11_method_4_code 1 (Option.some Jvm.ClassFile.FieldType.long) 0 := ⟨kw_6_85, kw_6_86, kw_6_87, kw_1_9, kw_6_88, by decide, by decide, by decide +kernel⟩
theorem kv_X8_42 : ky_wV "ExactdoublesModel$Its" 42 my_X8_whole prog_11_method_12_code 1 (Option.some Jvm.ClassFile.FieldType.long) 0 := ⟨kw_6_95, kw_6_96, kw_6_97, kw_1_9, kw_6_98, by decide, by decide, by decide +kernel⟩
theorem kv_X8_45 : ky_wV "ExactdoublesModel$Its" 45 my_X8_isEndless prog_11_method_6_code 1 (Option.some Jvm.ClassFile.FieldType.boolean) 0 := ⟨kw_6_68, kw_6_69, kw_6_70, kw_1_9, kw_6_71, by decide, by decide, by decide +kernel⟩
theorem kv_X8_49 : ky_wV "ExactdoublesModel$Its" 49 my_X8_behind prog_11_method_11_code 6 (Option.some Jvm.ClassFile.FieldType.int) 0 := ⟨kw_6_77, kw_6_78, kw_6_79, kw_1_9, kw_6_80, by decide, by decide, by decide +kernel⟩
theorem kv_X8_52 : ky_wV "ExactdoublesModel$Its" 52 my_X8_kind prog_11_method_13_code 1 (Option.some Jvm.ClassFile.FieldType.int) 0 := ⟨kw_7_156, kw_6_65, kw_6_66, kw_1_9, kw_6_67, by decide, by decide, by decide +kernel⟩
theorem dc_X8_high_0 : decode prog_11_method_2_code 0 = .ok (.aload_n 0, 1) := by decide +kernel
theorem dc_X8_high_1 : decode prog_11_method_2_code 1 = .ok (.getfield 15, 3) := by decide +kernel
theorem dc_X8_high_4 : decode prog_11_method_2_code 4 = .ok (.bipush 52, 2) := by decide +kernel
theorem dc_X8_high_6 : decode prog_11_method_2_code 6 = .ok (.lshr, 1) := by decide +kernel
theorem dc_X8_high_7 : decode prog_11_method_2_code 7 = .ok (.l2i, 1) := by decide +kernel
theorem dc_X8_high_8 : decode prog_11_method_2_code 8 = .ok (.ireturn, 1) := by decide +kernel
theorem dc_X8_low_0 : decode prog_11_method_3_code 0 = .ok (.aload_n 0, 1) := by decide +kernel
theorem dc_X8_low_1 : decode prog_11_method_3_code 1 = .ok (.getfield 15, 3) := by decide +kernel
theorem dc_X8_low_4 : decode prog_11_method_3_code 4 = .ok (.ldc2_w 19, 3) := by decide +kernel
theorem dc_X8_low_7 : decode prog_11_method_3_code 7 = .ok (.land, 1) := by decide +kernel
theorem dc_X8_low_8 : decode prog_11_method_3_code 8 = .ok (.lreturn, 1) := by decide +kernel
theorem dc_X8_many_0 : decode prog_11_method_4_code 0 = .ok (.aload_n 0, 1) := by decide +kernel
theorem dc_X8_many_1 : decode prog_11_method_4_code 1 = .ok (.invokevirtual 21, 3) := by decide +kernel
theorem dc_X8_many_4 : decode prog_11_method_4_code 4 = .ok (.ifCond .ne 10, 3) := by decide +kernel
theorem dc_X8_many_14 : decode prog_11_method_4_code 14 = .ok (.aload_n 0, 1) := by decide +kernel
theorem dc_X8_many_15 : decode prog_11_method_4_code 15 = .ok (.invokevirtual 25, 3) := by decide +kernel
theorem dc_X8_many_18 : decode prog_11_method_4_code 18 = .ok (.ldc2_w 29, 3) := by decide +kernel
theorem dc_X8_many_21 : decode prog_11_method_4_code 21 = .ok (.ladd, 1) := by decide +kernel
theorem dc_X8_many_22 : decode prog_11_method_4_code 22 = .ok (.lreturn, 1) := by decide +kernel
theorem dc_X8_many_7 : decode prog_11_method_4_code 7 = .ok (.aload_n 0, 1) := by decide +kernel
theorem dc_X8_many_8 : decode prog_11_method_4_code 8 = .ok (.invokevirtual 25, 3) := by decide +kernel
theorem dc_X8_many_11 : decode prog_11_method_4_code 11 = .ok (.goto 11, 3) := by decide +kernel
theorem dc_X8_power_0 : decode prog_11_method_5_code 0 = .ok (.aload_n 0, 1) := by decide +kernel
theorem dc_X8_power_1 : decode prog_11_method_5_code 1 = .ok (.invokevirtual 21, 3) := by decide +kernel
theorem dc_X8_power_4 : decode prog_11_method_5_code 4 = .ok (.ifCond .ne 9, 3) := by decide +kernel
theorem dc_X8_power_13 : decode prog_11_method_5_code 13 = .ok (.aload_n 0, 1) := by decide +kernel
theorem dc_X8_power_14 : decode prog_11_method_5_code 14 = .ok (.invokevirtual 21, 3) := by decide +kernel
theorem dc_X8_power_17 : decode prog_11_method_5_code 17 = .ok (.sipush 1075, 3) := by decide +kernel
theorem dc_X8_power_20 : decode prog_11_method_5_code 20 = .ok (.isub, 1) := by decide +kernel
theorem dc_X8_power_21 : decode prog_11_method_5_code 21 = .ok (.ireturn, 1) := by decide +kernel
theorem dc_X8_power_7 : decode prog_11_method_5_code 7 = .ok (.sipush (-1074), 3) := by decide +kernel
theorem dc_X8_power_10 : decode prog_11_method_5_code 10 = .ok (.goto 11, 3) := by decide +kernel
theorem dc_X8_isEndless_0 : decode prog_11_method_6_code 0 = .ok (.aload_n 0, 1) := by decide +kernel
theorem dc_X8_isEndless_1 : decode prog_11_method_6_code 1 = .ok (.getfield 15, 3) := by decide +kernel
theorem dc_X8_isEndless_4 : decode prog_11_method_6_code 4 = .ok (.ldc2_w 31, 3) := by decide +kernel
theorem dc_X8_isEndless_7 : decode prog_11_method_6_code 7 = .ok (.lcmp, 1) := by decide +kernel
theorem dc_X8_isEndless_8 : decode prog_11_method_6_code 8 = .ok (.ifCond .ne 7, 3) := by decide +kernel
theorem dc_X8_isEndless_15 : decode prog_11_method_6_code 15 = .ok (.iconst 0, 1) := by decide +kernel
theorem dc_X8_isEndless_16 : decode prog_11_method_6_code 16 = .ok (.ireturn, 1) := by decide +kernel
theorem dc_X8_isEndless_11 : decode prog_11_method_6_code 11 = .ok (.iconst 1, 1) := by decide +kernel
theorem dc_X8_isEndless_12 : decode prog_11_method_6_code 12 = .ok (.goto 4, 3) := by decide +kernel
theorem dc_X8_rung_0 : decode prog_11_method_7_code 0 = .ok (.aload_n 0, 1) := by decide +kernel
theorem dc_X8_rung_1 : decode prog_11_method_7_code 1 = .ok (.getfield 9, 3) := by decide +kernel
theorem dc_X8_rung_4 : decode prog_11_method_7_code 4 = .ok (.ifCond .ne 10, 3) := by decide +kernel
theorem dc_X8_rung_14 : decode prog_11_method_7_code 14 = .ok (.aload_n 0, 1) := by decide +kernel
theorem dc_X8_rung_15 : decode prog_11_method_7_code 15 = .ok (.getfield 15, 3) := by decide +kernel
theorem dc_X8_rung_18 : decode prog_11_method_7_code 18 = .ok (.lneg, 1) := by decide +kernel
theorem dc_X8_rung_19 : decode prog_11_method_7_code 19 = .ok (.lreturn, 1) := by decide +kernel
theorem dc_X8_rung_7 : decode prog_11_method_7_code 7 = .ok (.aload_n 0, 1) := by decide +kernel
theorem dc_X8_rung_8 : decode prog_11_method_7_code 8 = .ok (.getfield 15, 3) := by decide +kernel
theorem dc_X8_rung_11 : decode prog_11_method_7_code 11 = .ok (.goto 8, 3) := by decide +kernel
theorem dc_X8_place_0 : decode prog_11_method_8_code 0 = .ok (.aload_n 0, 1) := by decide +kernel
theorem dc_X8_place_1 : decode prog_11_method_8_code 1 = .ok (.getfield 9, 3) := by decide +kernel
theorem dc_X8_place_4 : decode prog_11_method_8_code 4 = .ok (.ifCond .ne 10, 3) := by decide +kernel
theorem dc_X8_place_14 : decode prog_11_method_8_code 14 = .ok (.aload_n 0, 1) := by decide +kernel
theorem dc_X8_place_15 : decode prog_11_method_8_code 15 = .ok (.getfield 15, 3) := by decide +kernel
theorem dc_X8_place_18 : decode prog_11_method_8_code 18 = .ok (.lneg, 1) := by decide +kernel
theorem dc_X8_place_19 : decode prog_11_method_8_code 19 = .ok (.lconst 1, 1) := by decide +kernel
theorem dc_X8_place_20 : decode prog_11_method_8_code 20 = .ok (.lsub, 1) := by decide +kernel
theorem dc_X8_place_21 : decode prog_11_method_8_code 21 = .ok (.lreturn, 1) := by decide +kernel
theorem dc_X8_place_7 : decode prog_11_method_8_code 7 = .ok (.aload_n 0, 1) := by decide +kernel
theorem dc_X8_place_8 : decode prog_11_method_8_code 8 = .ok (.getfield 15, 3) := by decide +kernel
theorem dc_X8_place_11 : decode prog_11_method_8_code 11 = .ok (.goto 10, 3) := by decide +kernel
theorem dc_X8_isSame_0 : decode prog_11_method_9_code 0 = .ok (.aload_n 0, 1) := by decide +kernel
theorem dc_X8_isSame_1 : decode prog_11_method_9_code 1 = .ok (.getfield 9, 3) := by decide +kernel
theorem dc_X8_isSame_4 : decode prog_11_method_9_code 4 = .ok (.aload_n 1, 1) := by decide +kernel
theorem dc_X8_isSame_5 : decode prog_11_method_9_code 5 = .ok (.getfield 9, 3) := by decide +kernel
theorem dc_X8_isSame_8 : decode prog_11_method_9_code 8 = .ok (.if_icmp .ne 19, 3) := by decide +kernel
theorem dc_X8_isSame_27 : decode prog_11_method_9_code 27 = .ok (.iconst 0, 1) := by decide +kernel
theorem dc_X8_isSame_28 : decode prog_11_method_9_code 28 = .ok (.ireturn, 1) := by decide +kernel
theorem dc_X8_isSame_11 : decode prog_11_method_9_code 11 = .ok (.aload_n 0, 1) := by decide +kernel
theorem dc_X8_isSame_12 : decode prog_11_method_9_code 12 = .ok (.getfield 15, 3) := by decide +kernel
theorem dc_X8_isSame_15 : decode prog_11_method_9_code 15 = .ok (.aload_n 1, 1) := by decide +kernel
theorem dc_X8_isSame_16 : decode prog_11_method_9_code 16 = .ok (.getfield 15, 3) := by decide +kernel
theorem dc_X8_isSame_19 : decode prog_11_method_9_code 19 = .ok (.lcmp, 1) := by decide +kernel
theorem dc_X8_isSame_20 : decode prog_11_method_9_code 20 = .ok (.ifCond .ne 7, 3) := by decide +kernel
theorem dc_X8_isSame_23 : decode prog_11_method_9_code 23 = .ok (.iconst 1, 1) := by decide +kernel
theorem dc_X8_isSame_24 : decode prog_11_method_9_code 24 = .ok (.goto 4, 3) := by decide +kernel
theorem dc_X8_whole_0 : decode prog_11_method_12_code 0 = .ok (.aload_n 0, 1) := by decide +kernel
theorem dc_X8_whole_1 : decode prog_11_method_12_code 1 = .ok (.invokevirtual 36, 3) := by decide +kernel
theorem dc_X8_whole_4 : decode prog_11_method_12_code 4 = .ok (.bipush (-53), 2) := by decide +kernel
theorem dc_X8_whole_6 : decode prog_11_method_12_code 6 = .ok (.if_icmp .ge 7, 3) := by decide +kernel
theorem dc_X8_whole_13 : decode prog_11_method_12_code 13 = .ok (.aload_n 0, 1) := by decide +kernel
theorem dc_X8_whole_14 : decode prog_11_method_12_code 14 = .ok (.invokevirtual 39, 3) := by decide +kernel
theorem dc_X8_whole_17 : decode prog_11_method_12_code 17 = .ok (.aload_n 0, 1) := by decide +kernel
theorem dc_X8_whole_18 : decode prog_11_method_12_code 18 = .ok (.invokevirtual 36, 3) := by decide +kernel
theorem dc_X8_whole_21 : decode prog_11_method_12_code 21 = .ok (.ineg, 1) := by decide +kernel
theorem dc_X8_whole_22 : decode prog_11_method_12_code 22 = .ok (.lshr, 1) := by decide +kernel
theorem dc_X8_whole_23 : decode prog_11_method_12_code 23 = .ok (.lreturn, 1) := by decide +kernel
theorem dc_X8_whole_9 : decode prog_11_method_12_code 9 = .ok (.lconst 0, 1) := by decide +kernel
theorem dc_X8_whole_10 : decode prog_11_method_12_code 10 = .ok (.goto 13, 3) := by decide +kernel
theorem dc_X8_behind_0 : decode prog_11_method_11_code 0 = .ok (.aload_n 0, 1) := by decide +kernel
theorem dc_X8_behind_1 : decode prog_11_method_11_code 1 = .ok (.invokevirtual 36, 3) := by decide +kernel
theorem dc_X8_behind_4 : decode prog_11_method_11_code 4 = .ok (.ineg, 1) := by decide +kernel
theorem dc_X8_behind_5 : decode prog_11_method_11_code 5 = .ok (.istore_n 1, 1) := by decide +kernel
theorem dc_X8_behind_6 : decode prog_11_method_11_code 6 = .ok (.iload_n 1, 1) := by decide +kernel
theorem dc_X8_behind_7 : decode prog_11_method_11_code 7 = .ok (.ifCond .le 12, 3) := by decide +kernel
theorem dc_X8_behind_19 : decode prog_11_method_11_code 19 = .ok (.iconst 0, 1) := by decide +kernel
theorem dc_X8_behind_20 : decode prog_11_method_11_code 20 = .ok (.ireturn, 1) := by decide +kernel
theorem dc_X8_behind_10 : decode prog_11_method_11_code 10 = .ok (.aload_n 0, 1) := by decide +kernel
theorem dc_X8_behind_11 : decode prog_11_method_11_code 11 = .ok (.invokevirtual 39, 3) := by decide +kernel
theorem dc_X8_behind_14 : decode prog_11_method_11_code 14 = .ok (.lconst 0, 1) := by decide +kernel
theorem dc_X8_behind_15 : decode prog_11_method_11_code 15 = .ok (.lcmp, 1) := by decide +kernel
theorem dc_X8_behind_16 : decode prog_11_method_11_code 16 = .ok (.ifCond .ne 5, 3) := by decide +kernel
theorem dc_X8_behind_21 : decode prog_11_method_11_code 21 = .ok (.iload_n 1, 1) := by decide +kernel
theorem dc_X8_behind_22 : decode prog_11_method_11_code 22 = .ok (.bipush 53, 2) := by decide +kernel
theorem dc_X8_behind_24 : decode prog_11_method_11_code 24 = .ok (.if_icmp .le 5, 3) := by decide +kernel
theorem dc_X8_behind_29 : decode prog_11_method_11_code 29 = .ok (.aload_n 0, 1) := by decide +kernel
theorem dc_X8_behind_30 : decode prog_11_method_11_code 30 = .ok (.invokevirtual 39, 3) := by decide +kernel
theorem dc_X8_behind_33 : decode prog_11_method_11_code 33 = .ok (.aload_n 0, 1) := by decide +kernel
theorem dc_X8_behind_34 : decode prog_11_method_11_code 34 = .ok (.invokevirtual 42, 3) := by decide +kernel
theorem dc_X8_behind_37 : decode prog_11_method_11_code 37 = .ok (.iload_n 1, 1) := by decide +kernel
theorem dc_X8_behind_38 : decode prog_11_method_11_code 38 = .ok (.lshl, 1) := by decide +kernel
theorem dc_X8_behind_39 : decode prog_11_method_11_code 39 = .ok (.lsub, 1) := by decide +kernel
theorem dc_X8_behind_40 : decode prog_11_method_11_code 40 = .ok (.lstore_n 2, 1) := by decide +kernel
theorem dc_X8_behind_41 : decode prog_11_method_11_code 41 = .ok (.lconst 1, 1) := by decide +kernel
theorem dc_X8_behind_42 : decode prog_11_method_11_code 42 = .ok (.iload_n 1, 1) := by decide +kernel
theorem dc_X8_behind_43 : decode prog_11_method_11_code 43 = .ok (.iconst 1, 1) := by decide +kernel
theorem dc_X8_behind_44 : decode prog_11_method_11_code 44 = .ok (.isub, 1) := by decide +kernel
theorem dc_X8_behind_45 : decode prog_11_method_11_code 45 = .ok (.lshl, 1) := by decide +kernel
theorem dc_X8_behind_46 : decode prog_11_method_11_code 46 = .ok (.lstore 4, 2) := by decide +kernel
theorem dc_X8_behind_48 : decode prog_11_method_11_code 48 = .ok (.lload_n 2, 1) := by decide +kernel
theorem dc_X8_behind_49 : decode prog_11_method_11_code 49 = .ok (.lconst 0, 1) := by decide +kernel
theorem dc_X8_behind_50 : decode prog_11_method_11_code 50 = .ok (.lcmp, 1) := by decide +kernel
theorem dc_X8_behind_51 : decode prog_11_method_11_code 51 = .ok (.ifCond .ne 7, 3) := by decide +kernel
theorem dc_X8_behind_58 : decode prog_11_method_11_code 58 = .ok (.lload_n 2, 1) := by decide +kernel
theorem dc_X8_behind_59 : decode prog_11_method_11_code 59 = .ok (.lload 4, 2) := by decide +kernel
theorem dc_X8_behind_61 : decode prog_11_method_11_code 61 = .ok (.lcmp, 1) := by decide +kernel
theorem dc_X8_behind_62 : decode prog_11_method_11_code 62 = .ok (.ifCond .ge 7, 3) := by decide +kernel
theorem dc_X8_behind_69 : decode prog_11_method_11_code 69 = .ok (.lload_n 2, 1) := by decide +kernel
theorem dc_X8_behind_70 : decode prog_11_method_11_code 70 = .ok (.lload 4, 2) := by decide +kernel
theorem dc_X8_behind_72 : decode prog_11_method_11_code 72 = .ok (.lcmp, 1) := by decide +kernel
theorem dc_X8_behind_73 : decode prog_11_method_11_code 73 = .ok (.ifCond .ne 7, 3) := by decide +kernel
theorem dc_X8_behind_80 : decode prog_11_method_11_code 80 = .ok (.iconst 3, 1) := by decide +kernel
theorem dc_X8_behind_81 : decode prog_11_method_11_code 81 = .ok (.ireturn, 1) := by decide +kernel
theorem dc_X8_behind_76 : decode prog_11_method_11_code 76 = .ok (.iconst 2, 1) := by decide +kernel
theorem dc_X8_behind_77 : decode prog_11_method_11_code 77 = .ok (.goto 4, 3) := by decide +kernel
theorem dc_X8_behind_65 : decode prog_11_method_11_code 65 = .ok (.iconst 1, 1) := by decide +kernel
theorem dc_X8_behind_66 : decode prog_11_method_11_code 66 = .ok (.goto 15, 3) := by decide +kernel
theorem dc_X8_behind_54 : decode prog_11_method_11_code 54 = .ok (.iconst 0, 1) := by decide +kernel
theorem dc_X8_behind_55 : decode prog_11_method_11_code 55 = .ok (.goto 26, 3) := by decide +kernel
theorem dc_X8_behind_27 : decode prog_11_method_11_code 27 = .ok (.iconst 1, 1) := by decide +kernel
theorem dc_X8_behind_28 : decode prog_11_method_11_code 28 = .ok (.ireturn, 1) := by decide +kernel
theorem dc_X8_kind_0 : decode prog_11_method_13_code 0 = .ok (.aload_n 0, 1) := by decide +kernel
theorem dc_X8_kind_1 : decode prog_11_method_13_code 1 = .ok (.getfield 15, 3) := by decide +kernel
theorem dc_X8_kind_4 : decode prog_11_method_13_code 4 = .ok (.lconst 0, 1) := by decide +kernel
theorem dc_X8_kind_5 : decode prog_11_method_13_code 5 = .ok (.lcmp, 1) := by decide +kernel
theorem dc_X8_kind_6 : decode prog_11_method_13_code 6 = .ok (.ifCond .eq 10, 3) := by decide +kernel
theorem dc_X8_kind_16 : decode prog_11_method_13_code 16 = .ok (.aload_n 0, 1) := by decide +kernel
theorem dc_X8_kind_17 : decode prog_11_method_13_code 17 = .ok (.getfield 15, 3) := by decide +kernel
theorem dc_X8_kind_20 : decode prog_11_method_13_code 20 = .ok (.lconst 0, 1) := by decide +kernel
theorem dc_X8_kind_21 : decode prog_11_method_13_code 21 = .ok (.lcmp, 1) := by decide +kernel
theorem dc_X8_kind_22 : decode prog_11_method_13_code 22 = .ok (.ifCond .ne 7, 3) := by decide +kernel
theorem dc_X8_kind_29 : decode prog_11_method_13_code 29 = .ok (.iconst 4, 1) := by decide +kernel
theorem dc_X8_kind_30 : decode prog_11_method_13_code 30 = .ok (.ireturn, 1) := by decide +kernel
theorem dc_X8_kind_25 : decode prog_11_method_13_code 25 = .ok (.iconst 0, 1) := by decide +kernel
theorem dc_X8_kind_26 : decode prog_11_method_13_code 26 = .ok (.goto 4, 3) := by decide +kernel
theorem dc_X8_kind_9 : decode prog_11_method_13_code 9 = .ok (.aload_n 0, 1) := by decide +kernel
theorem dc_X8_kind_10 : decode prog_11_method_13_code 10 = .ok (.invokevirtual 45, 3) := by decide +kernel
theorem dc_X8_kind_13 : decode prog_11_method_13_code 13 = .ok (.ifCond .eq 18, 3) := by decide +kernel
theorem dc_X8_kind_31 : decode prog_11_method_13_code 31 = .ok (.aload_n 0, 1) := by decide +kernel
theorem dc_X8_kind_32 : decode prog_11_method_13_code 32 = .ok (.invokevirtual 21, 3) := by decide +kernel
theorem dc_X8_kind_35 : decode prog_11_method_13_code 35 = .ok (.ifCond .ne 7, 3) := by decide +kernel
theorem dc_X8_kind_42 : decode prog_11_method_13_code 42 = .ok (.aload_n 0, 1) := by decide +kernel
theorem dc_X8_kind_43 : decode prog_11_method_13_code 43 = .ok (.invokevirtual 49, 3) := by decide +kernel
theorem dc_X8_kind_46 : decode prog_11_method_13_code 46 = .ok (.ifCond .ne 7, 3) := by decide +kernel
theorem dc_X8_kind_53 : decode prog_11_method_13_code 53 = .ok (.iconst 2, 1) := by decide +kernel
theorem dc_X8_kind_54 : decode prog_11_method_13_code 54 = .ok (.ireturn, 1) := by decide +kernel
theorem dc_X8_kind_49 : decode prog_11_method_13_code 49 = .ok (.iconst 3, 1) := by decide +kernel
theorem dc_X8_kind_50 : decode prog_11_method_13_code 50 = .ok (.goto 4, 3) := by decide +kernel
theorem dc_X8_kind_38 : decode prog_11_method_13_code 38 = .ok (.iconst 1, 1) := by decide +kernel
theorem dc_X8_kind_39 : decode prog_11_method_13_code 39 = .ok (.goto 15, 3) := by decide +kernel
theorem dc_X8_isWhole_0 : decode prog_11_method_14_code 0 = .ok (.aload_n 0, 1) := by decide +kernel
theorem dc_X8_isWhole_1 : decode prog_11_method_14_code 1 = .ok (.invokevirtual 52, 3) := by decide +kernel
theorem dc_X8_isWhole_4 : decode prog_11_method_14_code 4 = .ok (.ifCond .eq 11, 3) := by decide +kernel
theorem dc_X8_isWhole_15 : decode prog_11_method_14_code 15 = .ok (.iconst 1, 1) := by decide +kernel
theorem dc_X8_isWhole_16 : decode prog_11_method_14_code 16 = .ok (.goto 4, 3) := by decide +kernel
theorem dc_X8_isWhole_20 : decode prog_11_method_14_code 20 = .ok (.ireturn, 1) := by decide +kernel
theorem dc_X8_isWhole_7 : decode prog_11_method_14_code 7 = .ok (.aload_n 0, 1) := by decide +kernel
theorem dc_X8_isWhole_8 : decode prog_11_method_14_code 8 = .ok (.invokevirtual 52, 3) := by decide +kernel
theorem dc_X8_isWhole_11 : decode prog_11_method_14_code 11 = .ok (.iconst 3, 1) := by decide +kernel
theorem dc_X8_isWhole_12 : decode prog_11_method_14_code 12 = .ok (.if_icmp .ne 7, 3) := by decide +kernel
theorem dc_X8_isWhole_19 : decode prog_11_method_14_code 19 = .ok (.iconst 0, 1) := by decide +kernel
theorem dc_X8_exponent_0 : decode prog_11_method_20_code 0 = .ok (.aload_n 0, 1) := by decide +kernel
theorem dc_X8_exponent_1 : decode prog_11_method_20_code 1 = .ok (.invokevirtual 21, 3) := by decide +kernel
theorem dc_X8_exponent_4 : decode prog_11_method_20_code 4 = .ok (.sipush 1023, 3) := by decide +kernel
theorem dc_X8_exponent_7 : decode prog_11_method_20_code 7 = .ok (.isub, 1) := by decide +kernel
theorem dc_X8_exponent_8 : decode prog_11_method_20_code 8 = .ok (.ireturn, 1) := by decide +kernel
theorem dc_X8_rounded_0 : decode prog_11_method_23_code 0 = .ok (.aload_n 0, 1) := by decide +kernel
theorem dc_X8_rounded_1 : decode prog_11_method_23_code 1 = .ok (.invokevirtual 45, 3) := by decide +kernel
theorem dc_X8_rounded_4 : decode prog_11_method_23_code 4 = .ok (.ifCond .ne 12, 3) := by decide +kernel
theorem dc_X8_rounded_16 : decode prog_11_method_23_code 16 = .ok (.aload_n 0, 1) := by decide +kernel
theorem dc_X8_rounded_17 : decode prog_11_method_23_code 17 = .ok (.getfield 9, 3) := by decide +kernel
theorem dc_X8_rounded_20 : decode prog_11_method_23_code 20 = .ok (.ifCond .ne 9, 3) := by decide +kernel
theorem dc_X8_rounded_29 : decode prog_11_method_23_code 29 = .ok (.ldc2_w 105, 3) := by decide +kernel
theorem dc_X8_rounded_32 : decode prog_11_method_23_code 32 = .ok (.lreturn, 1) := by decide +kernel
theorem dc_X8_rounded_23 : decode prog_11_method_23_code 23 = .ok (.ldc2_w 103, 3) := by decide +kernel
theorem dc_X8_rounded_26 : decode prog_11_method_23_code 26 = .ok (.goto 6, 3) := by decide +kernel
theorem dc_X8_rounded_7 : decode prog_11_method_23_code 7 = .ok (.aload_n 0, 1) := by decide +kernel
theorem dc_X8_rounded_8 : decode prog_11_method_23_code 8 = .ok (.invokevirtual 36, 3) := by decide +kernel
theorem dc_X8_rounded_11 : decode prog_11_method_23_code 11 = .ok (.bipush 10, 2) := by decide +kernel
theorem dc_X8_rounded_13 : decode prog_11_method_23_code 13 = .ok (.if_icmp .le 20, 3) := by decide +kernel
theorem dc_X8_rounded_33 : decode prog_11_method_23_code 33 = .ok (.aload_n 0, 1) := by decide +kernel
theorem dc_X8_rounded_34 : decode prog_11_method_23_code 34 = .ok (.invokevirtual 36, 3) := by decide +kernel
theorem dc_X8_rounded_37 : decode prog_11_method_23_code 37 = .ok (.ifCond .lt 33, 3) := by decide +kernel
theorem dc_X8_rounded_70 : decode prog_11_method_23_code 70 = .ok (.aload_n 0, 1) := by decide +kernel
theorem dc_X8_rounded_71 : decode prog_11_method_23_code 71 = .ok (.invokevirtual 49, 3) := by decide +kernel
theorem dc_X8_rounded_74 : decode prog_11_method_23_code 74 = .ok (.istore_n 2, 1) := by decide +kernel
theorem dc_X8_rounded_75 : decode prog_11_method_23_code 75 = .ok (.iload_n 1, 1) := by decide +kernel
theorem dc_X8_rounded_76 : decode prog_11_method_23_code 76 = .ok (.ifCond .ne 24, 3) := by decide +kernel
theorem dc_X8_rounded_100 : decode prog_11_method_23_code 100 = .ok (.iconst 0, 1) := by decide +kernel
theorem dc_X8_rounded_101 : decode prog_11_method_23_code 101 = .ok (.istore_n 3, 1) := by decide +kernel
theorem dc_X8_rounded_102 : decode prog_11_method_23_code 102 = .ok (.aload_n 0, 1) := by decide +kernel
theorem dc_X8_rounded_103 : decode prog_11_method_23_code 103 = .ok (.invokevirtual 42, 3) := by decide +kernel
theorem dc_X8_rounded_106 : decode prog_11_method_23_code 106 = .ok (.iload_n 3, 1) := by decide +kernel
theorem dc_X8_rounded_107 : decode prog_11_method_23_code 107 = .ok (.ifCond .eq 7, 3) := by decide +kernel
theorem dc_X8_rounded_114 : decode prog_11_method_23_code 114 = .ok (.iconst 0, 1) := by decide +kernel
theorem dc_X8_rounded_115 : decode prog_11_method_23_code 115 = .ok (.i2l, 1) := by decide +kernel
theorem dc_X8_rounded_116 : decode prog_11_method_23_code 116 = .ok (.ladd, 1) := by decide +kernel
theorem dc_X8_rounded_117 : decode prog_11_method_23_code 117 = .ok (.lstore 4, 2) := by decide +kernel
theorem dc_X8_rounded_119 : decode prog_11_method_23_code 119 = .ok (.aload_n 0, 1) := by decide +kernel
theorem dc_X8_rounded_120 : decode prog_11_method_23_code 120 = .ok (.getfield 9, 3) := by decide +kernel
theorem dc_X8_rounded_123 : decode prog_11_method_23_code 123 = .ok (.ifCond .ne 8, 3) := by decide +kernel
theorem dc_X8_rounded_131 : decode prog_11_method_23_code 131 = .ok (.lload 4, 2) := by decide +kernel
theorem dc_X8_rounded_133 : decode prog_11_method_23_code 133 = .ok (.lneg, 1) := by decide +kernel
theorem dc_X8_rounded_134 : decode prog_11_method_23_code 134 = .ok (.lreturn, 1) := by decide +kernel
theorem dc_X8_rounded_126 : decode prog_11_method_23_code 126 = .ok (.lload 4, 2) := by decide +kernel
theorem dc_X8_rounded_128 : decode prog_11_method_23_code 128 = .ok (.goto 6, 3) := by decide +kernel
theorem dc_X8_rounded_79 : decode prog_11_method_23_code 79 = .ok (.iload_n 2, 1) := by decide +kernel
theorem dc_X8_rounded_80 : decode prog_11_method_23_code 80 = .ok (.iconst 3, 1) := by decide +kernel
theorem dc_X8_rounded_81 : decode prog_11_method_23_code 81 = .ok (.if_icmp .eq 15, 3) := by decide +kernel
theorem dc_X8_rounded_96 : decode prog_11_method_23_code 96 = .ok (.iconst 1, 1) := by decide +kernel
theorem dc_X8_rounded_97 : decode prog_11_method_23_code 97 = .ok (.goto 4, 3) := by decide +kernel
theorem dc_X8_rounded_110 : decode prog_11_method_23_code 110 = .ok (.iconst 1, 1) := by decide +kernel
theorem dc_X8_rounded_111 : decode prog_11_method_23_code 111 = .ok (.goto 4, 3) := by decide +kernel
theorem dc_X8_rounded_84 : decode prog_11_method_23_code 84 = .ok (.iload_n 2, 1) := by decide +kernel
theorem dc_X8_rounded_85 : decode prog_11_method_23_code 85 = .ok (.iconst 2, 1) := by decide +kernel
theorem dc_X8_rounded_86 : decode prog_11_method_23_code 86 = .ok (.if_icmp .ne 14, 3) := by decide +kernel
theorem dc_X8_rounded_89 : decode prog_11_method_23_code 89 = .ok (.aload_n 0, 1) := by decide +kernel
theorem dc_X8_rounded_90 : decode prog_11_method_23_code 90 = .ok (.getfield 9, 3) := by decide +kernel
theorem dc_X8_rounded_93 : decode prog_11_method_23_code 93 = .ok (.ifCond .ne 7, 3) := by decide +kernel
theorem dc_X8_rounded_40 : decode prog_11_method_23_code 40 = .ok (.aload_n 0, 1) := by decide +kernel
theorem dc_X8_rounded_41 : decode prog_11_method_23_code 41 = .ok (.getfield 9, 3) := by decide +kernel
theorem dc_X8_rounded_44 : decode prog_11_method_23_code 44 = .ok (.ifCond .ne 15, 3) := by decide +kernel
theorem dc_X8_rounded_59 : decode prog_11_method_23_code 59 = .ok (.aload_n 0, 1) := by decide +kernel
theorem dc_X8_rounded_60 : decode prog_11_method_23_code 60 = .ok (.invokevirtual 39, 3) := by decide +kernel
theorem dc_X8_rounded_63 : decode prog_11_method_23_code 63 = .ok (.aload_n 0, 1) := by decide +kernel
theorem dc_X8_rounded_64 : decode prog_11_method_23_code 64 = .ok (.invokevirtual 36, 3) := by decide +kernel
theorem dc_X8_rounded_67 : decode prog_11_method_23_code 67 = .ok (.lshl, 1) := by decide +kernel
theorem dc_X8_rounded_68 : decode prog_11_method_23_code 68 = .ok (.lneg, 1) := by decide +kernel
theorem dc_X8_rounded_69 : decode prog_11_method_23_code 69 = .ok (.lreturn, 1) := by decide +kernel
theorem dc_X8_rounded_47 : decode prog_11_method_23_code 47 = .ok (.aload_n 0, 1) := by decide +kernel
theorem dc_X8_rounded_48 : decode prog_11_method_23_code 48 = .ok (.invokevirtual 39, 3) := by decide +kernel
theorem dc_X8_rounded_51 : decode prog_11_method_23_code 51 = .ok (.aload_n 0, 1) := by decide +kernel
theorem dc_X8_rounded_52 : decode prog_11_method_23_code 52 = .ok (.invokevirtual 36, 3) := by decide +kernel
theorem dc_X8_rounded_55 : decode prog_11_method_23_code 55 = .ok (.lshl, 1) := by decide +kernel
theorem dc_X8_rounded_56 : decode prog_11_method_23_code 56 = .ok (.goto 13, 3) := by decide +kernel
