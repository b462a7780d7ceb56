abbrev my_X9_placeNow : MethodName := ⟨"ExactdoublesModel", "placeNow", "(I)I"⟩
abbrev my_X9_place : MethodName := ⟨"ExactdoublesModel", "place", "(I)I"⟩
abbrev my_X9_houseNow : MethodName := ⟨"ExactdoublesModel", "houseNow", "(I)I"⟩
abbrev my_X9_house : MethodName := ⟨"ExactdoublesModel", "house", "(I)I"⟩
abbrev my_X6_countWholeOnes : MethodName := ⟨"Exactdoubles", "countWholeOnes", "()I"⟩
abbrev my_X6_placeOf : MethodName := ⟨"Exactdoubles", "placeOf", "(J)I"⟩
abbrev my_X6_lastOfAll : MethodName := ⟨"Exactdoubles", "lastOfAll", "()J"⟩
abbrev my_X6_firstOfAll : MethodName := ⟨"Exactdoubles", "firstOfAll", "()J"⟩
abbrev my_X6_countOf : MethodName := ⟨"Exactdoubles", "countOf", "(I)I"⟩
abbrev my_X6_place : MethodName := ⟨"Exactdoubles", "place", "(I)I"⟩
abbrev my_X6_house : MethodName := ⟨"Exactdoubles", "house", "(I)I"⟩
theorem kw_7_201 : (Jvm.Cond.methodLink "ExactdoublesModel" (244 : Nat) ({ cls := "ExactdoublesModel", name := "placeNow", desc := "(I)I" } : Jvm.MethodName)) ∈ ky_B := ky_mem (kc_7 _ (List.mem_of_getElem? (i := 201) rfl)) (by decide +kernel)
theorem kw_7_203 : (Jvm.Cond.instanceMethod ({ cls := "ExactdoublesModel", name := "placeNow", desc := "(I)I" } : Jvm.MethodName)) ∈ ky_B := ky_mem (kc_7 _ (List.mem_of_getElem? (i := 203) rfl)) (by decide +kernel)
theorem kp_X9_placeNow : (Jvm.Cond.selects "ExactdoublesModel" ({ cls := "ExactdoublesModel", name := "placeNow", desc := "(I)I" } : Jvm.MethodName) ({ cls := "ExactdoublesModel", name := "placeNow", desc := "(I)I" } : Jvm.MethodName)) ∈ ky_B := ky_mem (List.mem_append_left _ (List.mem_of_getElem? (i := 28) (by decide +kernel))) (by decide +kernel)
theorem kw_7_204 : (Jvm.Cond.code ({ cls := "ExactdoublesModel", name := "placeNow", desc := "(I)I" } : Jvm.MethodName) prog_10_method_61_code (7 : Nat) (Option.some Jvm.ClassFile.FieldType.int)) ∈ ky_B := ky_mem (kc_7 _ (List.mem_of_getElem? (i := 204) rfl)) (by decide +kernel)
theorem kw_8_21 : (Jvm.Cond.arrayClass Jvm.ClassFile.FieldType.int) ∈ ky_B := ky_mem (kc_8 _ (List.mem_of_getElem? (i := 21) rfl)) (by decide +kernel)
theorem kw_8_17 : (Jvm.Cond.methodLink "ExactdoublesModel" (258 : Nat) ({ cls := "ExactdoublesModel", name := "houseNow", desc := "(I)I" } : Jvm.MethodName)) ∈ ky_B := ky_mem (kc_8 _ (List.mem_of_getElem? (i := 17) rfl)) (by decide +kernel)
theorem kw_8_19 : (Jvm.Cond.instanceMethod ({ cls := "ExactdoublesModel", name := "houseNow", desc := "(I)I" } : Jvm.MethodName)) ∈ ky_B := ky_mem (kc_8 _ (List.mem_of_getElem? (i := 19) rfl)) (by decide +kernel)
theorem kp_X9_houseNow : (Jvm.Cond.selects "ExactdoublesModel" ({ cls := "ExactdoublesModel", name := "houseNow", desc := "(I)I" } : Jvm.MethodName) ({ cls := "ExactdoublesModel", name := "houseNow", desc := "(I)I" } : Jvm.MethodName)) ∈ ky_B := ky_mem (List.mem_append_left _ (List.mem_of_getElem? (i := 31) (by decide +kernel))) (by decide +kernel)
theorem kw_8_20 : (Jvm.Cond.code ({ cls := "ExactdoublesModel", name := "houseNow", desc := "(I)I" } : Jvm.MethodName) prog_10_method_75_code (7 : Nat) (Option.some Jvm.ClassFile.FieldType.int)) ∈ ky_B := ky_mem (kc_8 _ (List.mem_of_getElem? (i := 20) rfl)) (by decide +kernel)
theorem kw_3_224 : (Jvm.Cond.methodLink "Exactdoubles" (231 : Nat) ({ cls := "Exactdoubles", name := "countWholeOnes", desc := "()I" } : Jvm.MethodName)) ∈ ky_B := ky_mem (kc_3 _ (List.mem_of_getElem? (i := 224) rfl)) (by decide +kernel)
theorem kw_3_226 : (Jvm.Cond.instanceMethod ({ cls := "Exactdoubles", name := "countWholeOnes", desc := "()I" } : Jvm.MethodName)) ∈ ky_B := ky_mem (kc_3 _ (List.mem_of_getElem? (i := 226) rfl)) (by decide +kernel)
theorem kp_X6_countWholeOnes : (Jvm.Cond.selects "Exactdoubles" ({ cls := "Exactdoubles", name := "countWholeOnes", desc := "()I" } : Jvm.MethodName) ({ cls := "Exactdoubles", name := "countWholeOnes", desc := "()I" } : Jvm.MethodName)) ∈ ky_B := ky_mem (List.mem_append_left _ (List.mem_of_getElem? (i := 10) (by decide +kernel))) (by decide +kernel)
theorem kw_3_227 : (Jvm.Cond.code ({ cls := "Exactdoubles", name := "countWholeOnes", desc := "()I" } : Jvm.MethodName) prog_1_method_63_code (3 : Nat) (Option.some Jvm.ClassFile.FieldType.int)) ∈ ky_B := ky_mem (kc_3 _ (List.mem_of_getElem? (i := 227) rfl)) (by decide +kernel)
theorem kw_4_44 : (Jvm.Cond.methodLink "Exactdoubles" (176 : Nat) ({ cls := "Exactdoubles", name := "placeOf", desc := "(J)I" } : Jvm.MethodName)) ∈ ky_B := ky_mem (kc_4 _ (List.mem_of_getElem? (i := 44) rfl)) (by decide +kernel)
theorem kw_4_46 : (Jvm.Cond.instanceMethod ({ cls := "Exactdoubles", name := "placeOf", desc := "(J)I" } : Jvm.MethodName)) ∈ ky_B := ky_mem (kc_4 _ (List.mem_of_getElem? (i := 46) rfl)) (by decide +kernel)
theorem kp_X6_placeOf : (Jvm.Cond.selects "Exactdoubles" ({ cls := "Exactdoubles", name := "placeOf", desc := "(J)I" } : Jvm.MethodName) ({ cls := "Exactdoubles", name := "placeOf", desc := "(J)I" } : Jvm.MethodName)) ∈ ky_B := ky_mem (List.mem_append_left _ (List.mem_of_getElem? (i := 13) (by decide +kernel))) (by decide +kernel)
theorem kw_4_47 : (Jvm.Cond.code ({ cls := "Exactdoubles", name := "placeOf", desc := "(J)I" } : Jvm.MethodName) prog_1_method_68_code (5 : Nat) (Option.some Jvm.ClassFile.FieldType.int)) ∈ ky_B := ky_mem (kc_4 _ (List.mem_of_getElem? (i := 47) rfl)) (by decide +kernel)
theorem kw_3_220 : (Jvm.Cond.methodLink "Exactdoubles" (189 : Nat) ({ cls := "Exactdoubles", name := "countOf", desc := "(I)I" } : Jvm.MethodName)) ∈ ky_B := ky_mem (kc_3 _ (List.mem_of_getElem? (i := 220) rfl)) (by decide +kernel)
theorem kw_3_222 : (Jvm.Cond.instanceMethod ({ cls := "Exactdoubles", name := "countOf", desc := "(I)I" } : Jvm.MethodName)) ∈ ky_B := ky_mem (kc_3 _ (List.mem_of_getElem? (i := 222) rfl)) (by decide +kernel)
theorem kp_X6_countOf : (Jvm.Cond.selects "Exactdoubles" ({ cls := "Exactdoubles", name := "countOf", desc := "(I)I" } : Jvm.MethodName) ({ cls := "Exactdoubles", name := "countOf", desc := "(I)I" } : Jvm.MethodName)) ∈ ky_B := ky_mem (List.mem_append_left _ (List.mem_of_getElem? (i := 9) (by decide +kernel))) (by decide +kernel)
theorem kw_3_223 : (Jvm.Cond.code ({ cls := "Exactdoubles", name := "countOf", desc := "(I)I" } : Jvm.MethodName) prog_1_method_62_code (2 : Nat) (Option.some Jvm.ClassFile.FieldType.int)) ∈ ky_B := ky_mem (kc_3 _ (List.mem_of_getElem? (i := 223) rfl)) (by decide +kernel)
theorem kv_X9_244 : ky_wV "ExactdoublesModel" 244 my_X9_placeNow prog_10_method_61_code 7 (Option.some Jvm.ClassFile.FieldType.int) 1 := ⟨kw_7_201, kw_7_203, kp_X9_placeNow, kw_1_8, kw_7_204, by decide, by decide, by decide +kernel⟩
theorem kv_X9_258 : ky_wV "ExactdoublesModel" 258 my_X9_houseNow prog_10_method_75_code 7 (Option.some Jvm.ClassFile.FieldType.int) 1 := ⟨kw_8_17, kw_8_19, kp_X9_houseNow, kw_1_8, kw_8_20, by decide, by decide, by decide +kernel⟩
theorem kv_X6_231 : ky_wV "Exactdoubles" 231 my_X6_countWholeOnes prog_1_method_63_code 3 (Option.some Jvm.ClassFile.FieldType.int) 0 := ⟨kw_3_224, kw_3_226, kp_X6_countWholeOnes, kw_1_1, kw_3_227, by decide, by decide, by decide +kernel⟩
theorem kv_X6_176 : ky_wV "Exactdoubles" 176 my_X6_placeOf prog_1_method_68_code 5 (Option.some Jvm.ClassFile.FieldType.int) 1 := ⟨kw_4_44, kw_4_46, kp_X6_placeOf, kw_1_1, kw_4_47, by decide, by decide, by decide +kernel⟩
theorem kv_X6_189 : ky_wV "Exactdoubles" 189 my_X6_countOf prog_1_method_62_code 2 (Option.some Jvm.ClassFile.FieldType.int) 1 := ⟨kw_3_220, kw_3_222, kp_X6_countOf, kw_1_1, kw_3_223, by decide, by decide, by decide +kernel⟩
theorem dc_X9_placeNow_0 : decode prog_10_method_61_code 0 = .ok (.iconst 0, 1) := by decide +kernel
theorem dc_X9_placeNow_1 : decode prog_10_method_61_code 1 = .ok (.istore_n 2, 1) := by decide +kernel
theorem dc_X9_placeNow_2 : decode prog_10_method_61_code 2 = .ok (.aload_n 0, 1) := by decide +kernel
theorem dc_X9_placeNow_3 : decode prog_10_method_61_code 3 = .ok (.getfield 25, 3) := by decide +kernel
theorem dc_X9_placeNow_6 : decode prog_10_method_61_code 6 = .ok (.astore_n 3, 1) := by decide +kernel
theorem dc_X9_placeNow_7 : decode prog_10_method_61_code 7 = .ok (.aload_n 3, 1) := by decide +kernel
theorem dc_X9_placeNow_8 : decode prog_10_method_61_code 8 = .ok (.arraylength, 1) := by decide +kernel
theorem dc_X9_placeNow_9 : decode prog_10_method_61_code 9 = .ok (.istore 4, 2) := by decide +kernel
theorem dc_X9_placeNow_11 : decode prog_10_method_61_code 11 = .ok (.iconst 0, 1) := by decide +kernel
theorem dc_X9_placeNow_12 : decode prog_10_method_61_code 12 = .ok (.istore 5, 2) := by decide +kernel
theorem dc_X9_placeNow_14 : decode prog_10_method_61_code 14 = .ok (.iload 5, 2) := by decide +kernel
theorem dc_X9_placeNow_16 : decode prog_10_method_61_code 16 = .ok (.iload 4, 2) := by decide +kernel
theorem dc_X9_placeNow_18 : decode prog_10_method_61_code 18 = .ok (.if_icmp .ge 44, 3) := by decide +kernel
theorem dc_X9_placeNow_62 : decode prog_10_method_61_code 62 = .ok (.iload_n 2, 1) := by decide +kernel
theorem dc_X9_placeNow_63 : decode prog_10_method_61_code 63 = .ok (.ireturn, 1) := by decide +kernel
theorem dc_X9_placeNow_21 : decode prog_10_method_61_code 21 = .ok (.aload_n 3, 1) := by decide +kernel
theorem dc_X9_placeNow_22 : decode prog_10_method_61_code 22 = .ok (.iload 5, 2) := by decide +kernel
theorem dc_X9_placeNow_24 : decode prog_10_method_61_code 24 = .ok (.aaload, 1) := by decide +kernel
theorem dc_X9_placeNow_25 : decode prog_10_method_61_code 25 = .ok (.astore 6, 2) := by decide +kernel
theorem dc_X9_placeNow_27 : decode prog_10_method_61_code 27 = .ok (.iload_n 2, 1) := by decide +kernel
theorem dc_X9_placeNow_28 : decode prog_10_method_61_code 28 = .ok (.aload 6, 2) := by decide +kernel
theorem dc_X9_placeNow_30 : decode prog_10_method_61_code 30 = .ok (.invokevirtual 147, 3) := by decide +kernel
theorem dc_X9_placeNow_33 : decode prog_10_method_61_code 33 = .ok (.aload_n 0, 1) := by decide +kernel
theorem dc_X9_placeNow_34 : decode prog_10_method_61_code 34 = .ok (.getfield 25, 3) := by decide +kernel
theorem dc_X9_placeNow_37 : decode prog_10_method_61_code 37 = .ok (.iload_n 1, 1) := by decide +kernel
theorem dc_X9_placeNow_38 : decode prog_10_method_61_code 38 = .ok (.aaload, 1) := by decide +kernel
theorem dc_X9_placeNow_39 : decode prog_10_method_61_code 39 = .ok (.invokevirtual 147, 3) := by decide +kernel
theorem dc_X9_placeNow_42 : decode prog_10_method_61_code 42 = .ok (.lcmp, 1) := by decide +kernel
theorem dc_X9_placeNow_43 : decode prog_10_method_61_code 43 = .ok (.ifCond .ge 7, 3) := by decide +kernel
theorem dc_X9_placeNow_50 : decode prog_10_method_61_code 50 = .ok (.iconst 0, 1) := by decide +kernel
theorem dc_X9_placeNow_51 : decode prog_10_method_61_code 51 = .ok (.invokestatic 59, 3) := by decide +kernel
theorem dc_X9_placeNow_54 : decode prog_10_method_61_code 54 = .ok (.iadd, 1) := by decide +kernel
theorem dc_X9_placeNow_55 : decode prog_10_method_61_code 55 = .ok (.istore_n 2, 1) := by decide +kernel
theorem dc_X9_placeNow_56 : decode prog_10_method_61_code 56 = .ok (.iinc 5 1, 3) := by decide +kernel
theorem dc_X9_placeNow_59 : decode prog_10_method_61_code 59 = .ok (.goto (-45), 3) := by decide +kernel
theorem dc_X9_placeNow_46 : decode prog_10_method_61_code 46 = .ok (.iconst 1, 1) := by decide +kernel
theorem dc_X9_placeNow_47 : decode prog_10_method_61_code 47 = .ok (.goto 4, 3) := by decide +kernel
theorem dc_X9_place_0 : decode prog_10_method_62_code 0 = .ok (.aload_n 0, 1) := by decide +kernel
theorem dc_X9_place_1 : decode prog_10_method_62_code 1 = .ok (.iload_n 1, 1) := by decide +kernel
theorem dc_X9_place_2 : decode prog_10_method_62_code 2 = .ok (.invokestatic 51, 3) := by decide +kernel
theorem dc_X9_place_5 : decode prog_10_method_62_code 5 = .ok (.invokevirtual 55, 3) := by decide +kernel
theorem dc_X9_place_8 : decode prog_10_method_62_code 8 = .ok (.ifCond .eq 7, 3) := by decide +kernel
theorem dc_X9_place_15 : decode prog_10_method_62_code 15 = .ok (.aload_n 0, 1) := by decide +kernel
theorem dc_X9_place_16 : decode prog_10_method_62_code 16 = .ok (.iload_n 1, 1) := by decide +kernel
theorem dc_X9_place_17 : decode prog_10_method_62_code 17 = .ok (.invokevirtual 244, 3) := by decide +kernel
theorem dc_X9_place_20 : decode prog_10_method_62_code 20 = .ok (.ireturn, 1) := by decide +kernel
theorem dc_X9_place_11 : decode prog_10_method_62_code 11 = .ok (.iconst 0, 1) := by decide +kernel
theorem dc_X9_place_12 : decode prog_10_method_62_code 12 = .ok (.goto 8, 3) := by decide +kernel
theorem dc_X9_houseNow_0 : decode prog_10_method_75_code 0 = .ok (.iconst 0, 1) := by decide +kernel
theorem dc_X9_houseNow_1 : decode prog_10_method_75_code 1 = .ok (.istore_n 2, 1) := by decide +kernel
theorem dc_X9_houseNow_2 : decode prog_10_method_75_code 2 = .ok (.aload_n 0, 1) := by decide +kernel
theorem dc_X9_houseNow_3 : decode prog_10_method_75_code 3 = .ok (.getfield 25, 3) := by decide +kernel
theorem dc_X9_houseNow_6 : decode prog_10_method_75_code 6 = .ok (.astore_n 3, 1) := by decide +kernel
theorem dc_X9_houseNow_7 : decode prog_10_method_75_code 7 = .ok (.aload_n 3, 1) := by decide +kernel
theorem dc_X9_houseNow_8 : decode prog_10_method_75_code 8 = .ok (.arraylength, 1) := by decide +kernel
theorem dc_X9_houseNow_9 : decode prog_10_method_75_code 9 = .ok (.istore 4, 2) := by decide +kernel
theorem dc_X9_houseNow_11 : decode prog_10_method_75_code 11 = .ok (.iconst 0, 1) := by decide +kernel
theorem dc_X9_houseNow_12 : decode prog_10_method_75_code 12 = .ok (.istore 5, 2) := by decide +kernel
theorem dc_X9_houseNow_14 : decode prog_10_method_75_code 14 = .ok (.iload 5, 2) := by decide +kernel
theorem dc_X9_houseNow_16 : decode prog_10_method_75_code 16 = .ok (.iload 4, 2) := by decide +kernel
theorem dc_X9_houseNow_18 : decode prog_10_method_75_code 18 = .ok (.if_icmp .ge 26, 3) := by decide +kernel
theorem dc_X9_houseNow_44 : decode prog_10_method_75_code 44 = .ok (.iconst 4, 1) := by decide +kernel
theorem dc_X9_houseNow_45 : decode prog_10_method_75_code 45 = .ok (.newarray .int, 2) := by decide +kernel
theorem dc_X9_houseNow_47 : decode prog_10_method_75_code 47 = .ok (.dup, 1) := by decide +kernel
theorem dc_X9_houseNow_48 : decode prog_10_method_75_code 48 = .ok (.iconst 0, 1) := by decide +kernel
theorem dc_X9_houseNow_49 : decode prog_10_method_75_code 49 = .ok (.aload_n 0, 1) := by decide +kernel
theorem dc_X9_houseNow_50 : decode prog_10_method_75_code 50 = .ok (.getfield 44, 3) := by decide +kernel
theorem dc_X9_houseNow_53 : decode prog_10_method_75_code 53 = .ok (.iastore, 1) := by decide +kernel
theorem dc_X9_houseNow_54 : decode prog_10_method_75_code 54 = .ok (.dup, 1) := by decide +kernel
theorem dc_X9_houseNow_55 : decode prog_10_method_75_code 55 = .ok (.iconst 1, 1) := by decide +kernel
theorem dc_X9_houseNow_56 : decode prog_10_method_75_code 56 = .ok (.aload_n 0, 1) := by decide +kernel
theorem dc_X9_houseNow_57 : decode prog_10_method_75_code 57 = .ok (.getfield 79, 3) := by decide +kernel
theorem dc_X9_houseNow_60 : decode prog_10_method_75_code 60 = .ok (.iastore, 1) := by decide +kernel
theorem dc_X9_houseNow_61 : decode prog_10_method_75_code 61 = .ok (.dup, 1) := by decide +kernel
theorem dc_X9_houseNow_62 : decode prog_10_method_75_code 62 = .ok (.iconst 2, 1) := by decide +kernel
theorem dc_X9_houseNow_63 : decode prog_10_method_75_code 63 = .ok (.aload_n 0, 1) := by decide +kernel
theorem dc_X9_houseNow_64 : decode prog_10_method_75_code 64 = .ok (.getfield 255, 3) := by decide +kernel
theorem dc_X9_houseNow_67 : decode prog_10_method_75_code 67 = .ok (.iastore, 1) := by decide +kernel
theorem dc_X9_houseNow_68 : decode prog_10_method_75_code 68 = .ok (.dup, 1) := by decide +kernel
theorem dc_X9_houseNow_69 : decode prog_10_method_75_code 69 = .ok (.iconst 3, 1) := by decide +kernel
theorem dc_X9_houseNow_70 : decode prog_10_method_75_code 70 = .ok (.iload_n 2, 1) := by decide +kernel
theorem dc_X9_houseNow_71 : decode prog_10_method_75_code 71 = .ok (.iastore, 1) := by decide +kernel
theorem dc_X9_houseNow_72 : decode prog_10_method_75_code 72 = .ok (.astore_n 3, 1) := by decide +kernel
theorem dc_X9_houseNow_73 : decode prog_10_method_75_code 73 = .ok (.aload_n 3, 1) := by decide +kernel
theorem dc_X9_houseNow_74 : decode prog_10_method_75_code 74 = .ok (.iload_n 1, 1) := by decide +kernel
theorem dc_X9_houseNow_75 : decode prog_10_method_75_code 75 = .ok (.iaload, 1) := by decide +kernel
theorem dc_X9_houseNow_76 : decode prog_10_method_75_code 76 = .ok (.ireturn, 1) := by decide +kernel
theorem dc_X9_houseNow_21 : decode prog_10_method_75_code 21 = .ok (.aload_n 3, 1) := by decide +kernel
theorem dc_X9_houseNow_22 : decode prog_10_method_75_code 22 = .ok (.iload 5, 2) := by decide +kernel
theorem dc_X9_houseNow_24 : decode prog_10_method_75_code 24 = .ok (.aaload, 1) := by decide +kernel
theorem dc_X9_houseNow_25 : decode prog_10_method_75_code 25 = .ok (.astore 6, 2) := by decide +kernel
theorem dc_X9_houseNow_27 : decode prog_10_method_75_code 27 = .ok (.iload_n 2, 1) := by decide +kernel
theorem dc_X9_houseNow_28 : decode prog_10_method_75_code 28 = .ok (.aload 6, 2) := by decide +kernel
theorem dc_X9_houseNow_30 : decode prog_10_method_75_code 30 = .ok (.invokevirtual 224, 3) := by decide +kernel
theorem dc_X9_houseNow_33 : decode prog_10_method_75_code 33 = .ok (.invokestatic 59, 3) := by decide +kernel
theorem dc_X9_houseNow_36 : decode prog_10_method_75_code 36 = .ok (.iadd, 1) := by decide +kernel
theorem dc_X9_houseNow_37 : decode prog_10_method_75_code 37 = .ok (.istore_n 2, 1) := by decide +kernel
theorem dc_X9_houseNow_38 : decode prog_10_method_75_code 38 = .ok (.iinc 5 1, 3) := by decide +kernel
theorem dc_X9_houseNow_41 : decode prog_10_method_75_code 41 = .ok (.goto (-27), 3) := by decide +kernel
theorem dc_X9_house_0 : decode prog_10_method_76_code 0 = .ok (.aload_n 0, 1) := by decide +kernel
theorem dc_X9_house_1 : decode prog_10_method_76_code 1 = .ok (.iconst 0, 1) := by decide +kernel
theorem dc_X9_house_2 : decode prog_10_method_76_code 2 = .ok (.invokevirtual 55, 3) := by decide +kernel
theorem dc_X9_house_5 : decode prog_10_method_76_code 5 = .ok (.ifCond .ne 25, 3) := by decide +kernel
theorem dc_X9_house_8 : decode prog_10_method_76_code 8 = .ok (.aload_n 0, 1) := by decide +kernel
theorem dc_X9_house_9 : decode prog_10_method_76_code 9 = .ok (.iload_n 1, 1) := by decide +kernel
theorem dc_X9_house_10 : decode prog_10_method_76_code 10 = .ok (.iconst 0, 1) := by decide +kernel
theorem dc_X9_house_11 : decode prog_10_method_76_code 11 = .ok (.iconst 3, 1) := by decide +kernel
theorem dc_X9_house_12 : decode prog_10_method_76_code 12 = .ok (.invokestatic 40, 3) := by decide +kernel
theorem dc_X9_house_15 : decode prog_10_method_76_code 15 = .ok (.ifCond .ne 7, 3) := by decide +kernel
theorem dc_X9_house_22 : decode prog_10_method_76_code 22 = .ok (.iconst 0, 1) := by decide +kernel
theorem dc_X9_house_23 : decode prog_10_method_76_code 23 = .ok (.iconst 1, 1) := by decide +kernel
theorem dc_X9_house_24 : decode prog_10_method_76_code 24 = .ok (.invokevirtual 36, 3) := by decide +kernel
theorem dc_X9_house_27 : decode prog_10_method_76_code 27 = .ok (.ifCond .eq 7, 3) := by decide +kernel
theorem dc_X9_house_34 : decode prog_10_method_76_code 34 = .ok (.aload_n 0, 1) := by decide +kernel
theorem dc_X9_house_35 : decode prog_10_method_76_code 35 = .ok (.iload_n 1, 1) := by decide +kernel
theorem dc_X9_house_36 : decode prog_10_method_76_code 36 = .ok (.invokevirtual 258, 3) := by decide +kernel
theorem dc_X9_house_39 : decode prog_10_method_76_code 39 = .ok (.ireturn, 1) := by decide +kernel
theorem dc_X9_house_30 : decode prog_10_method_76_code 30 = .ok (.iconst 0, 1) := by decide +kernel
theorem dc_X9_house_31 : decode prog_10_method_76_code 31 = .ok (.goto 8, 3) := by decide +kernel
theorem dc_X9_house_18 : decode prog_10_method_76_code 18 = .ok (.iconst 1, 1) := by decide +kernel
theorem dc_X9_house_19 : decode prog_10_method_76_code 19 = .ok (.goto 4, 3) := by decide +kernel
theorem dc_X6_countWholeOnes_0 : decode prog_1_method_63_code 0 = .ok (.iconst 0, 1) := by decide +kernel
theorem dc_X6_countWholeOnes_1 : decode prog_1_method_63_code 1 = .ok (.istore_n 1, 1) := by decide +kernel
theorem dc_X6_countWholeOnes_2 : decode prog_1_method_63_code 2 = .ok (.iconst 0, 1) := by decide +kernel
theorem dc_X6_countWholeOnes_3 : decode prog_1_method_63_code 3 = .ok (.istore_n 2, 1) := by decide +kernel
theorem dc_X6_countWholeOnes_4 : decode prog_1_method_63_code 4 = .ok (.iload_n 2, 1) := by decide +kernel
theorem dc_X6_countWholeOnes_5 : decode prog_1_method_63_code 5 = .ok (.bipush 6, 2) := by decide +kernel
theorem dc_X6_countWholeOnes_7 : decode prog_1_method_63_code 7 = .ok (.if_icmp .ge 24, 3) := by decide +kernel
theorem dc_X6_countWholeOnes_31 : decode prog_1_method_63_code 31 = .ok (.iload_n 1, 1) := by decide +kernel
theorem dc_X6_countWholeOnes_32 : decode prog_1_method_63_code 32 = .ok (.ireturn, 1) := by decide +kernel
theorem dc_X6_countWholeOnes_10 : decode prog_1_method_63_code 10 = .ok (.aload_n 0, 1) := by decide +kernel
theorem dc_X6_countWholeOnes_11 : decode prog_1_method_63_code 11 = .ok (.getfield 9, 3) := by decide +kernel
theorem dc_X6_countWholeOnes_14 : decode prog_1_method_63_code 14 = .ok (.iload_n 2, 1) := by decide +kernel
theorem dc_X6_countWholeOnes_15 : decode prog_1_method_63_code 15 = .ok (.laload, 1) := by decide +kernel
theorem dc_X6_countWholeOnes_16 : decode prog_1_method_63_code 16 = .ok (.invokestatic 163, 3) := by decide +kernel
theorem dc_X6_countWholeOnes_19 : decode prog_1_method_63_code 19 = .ok (.ifCond .eq 6, 3) := by decide +kernel
theorem dc_X6_countWholeOnes_25 : decode prog_1_method_63_code 25 = .ok (.iinc 2 1, 3) := by decide +kernel
theorem dc_X6_countWholeOnes_28 : decode prog_1_method_63_code 28 = .ok (.goto (-24), 3) := by decide +kernel
theorem dc_X6_countWholeOnes_22 : decode prog_1_method_63_code 22 = .ok (.iinc 1 1, 3) := by decide +kernel
theorem dc_X6_placeOf_0 : decode prog_1_method_68_code 0 = .ok (.iconst 0, 1) := by decide +kernel
theorem dc_X6_placeOf_1 : decode prog_1_method_68_code 1 = .ok (.istore_n 3, 1) := by decide +kernel
theorem dc_X6_placeOf_2 : decode prog_1_method_68_code 2 = .ok (.iconst 0, 1) := by decide +kernel
theorem dc_X6_placeOf_3 : decode prog_1_method_68_code 3 = .ok (.istore 4, 2) := by decide +kernel
theorem dc_X6_placeOf_5 : decode prog_1_method_68_code 5 = .ok (.iload 4, 2) := by decide +kernel
theorem dc_X6_placeOf_7 : decode prog_1_method_68_code 7 = .ok (.bipush 6, 2) := by decide +kernel
theorem dc_X6_placeOf_9 : decode prog_1_method_68_code 9 = .ok (.if_icmp .ge 30, 3) := by decide +kernel
theorem dc_X6_placeOf_39 : decode prog_1_method_68_code 39 = .ok (.iload_n 3, 1) := by decide +kernel
theorem dc_X6_placeOf_40 : decode prog_1_method_68_code 40 = .ok (.ireturn, 1) := by decide +kernel
theorem dc_X6_placeOf_12 : decode prog_1_method_68_code 12 = .ok (.aload_n 0, 1) := by decide +kernel
theorem dc_X6_placeOf_13 : decode prog_1_method_68_code 13 = .ok (.getfield 9, 3) := by decide +kernel
theorem dc_X6_placeOf_16 : decode prog_1_method_68_code 16 = .ok (.iload 4, 2) := by decide +kernel
theorem dc_X6_placeOf_18 : decode prog_1_method_68_code 18 = .ok (.laload, 1) := by decide +kernel
theorem dc_X6_placeOf_19 : decode prog_1_method_68_code 19 = .ok (.invokestatic 240, 3) := by decide +kernel
theorem dc_X6_placeOf_22 : decode prog_1_method_68_code 22 = .ok (.lload_n 1, 1) := by decide +kernel
theorem dc_X6_placeOf_23 : decode prog_1_method_68_code 23 = .ok (.invokestatic 240, 3) := by decide +kernel
theorem dc_X6_placeOf_26 : decode prog_1_method_68_code 26 = .ok (.lcmp, 1) := by decide +kernel
theorem dc_X6_placeOf_27 : decode prog_1_method_68_code 27 = .ok (.ifCond .ge 6, 3) := by decide +kernel
theorem dc_X6_placeOf_33 : decode prog_1_method_68_code 33 = .ok (.iinc 4 1, 3) := by decide +kernel
theorem dc_X6_placeOf_36 : decode prog_1_method_68_code 36 = .ok (.goto (-31), 3) := by decide +kernel
theorem dc_X6_placeOf_30 : decode prog_1_method_68_code 30 = .ok (.iinc 3 1, 3) := by decide +kernel
theorem dc_X6_lastOfAll_0 : decode prog_1_method_69_code 0 = .ok (.aload_n 0, 1) := by decide +kernel
theorem dc_X6_lastOfAll_1 : decode prog_1_method_69_code 1 = .ok (.getfield 9, 3) := by decide +kernel
theorem dc_X6_lastOfAll_4 : decode prog_1_method_69_code 4 = .ok (.iconst 0, 1) := by decide +kernel
theorem dc_X6_lastOfAll_5 : decode prog_1_method_69_code 5 = .ok (.laload, 1) := by decide +kernel
theorem dc_X6_lastOfAll_6 : decode prog_1_method_69_code 6 = .ok (.lstore_n 1, 1) := by decide +kernel
theorem dc_X6_lastOfAll_7 : decode prog_1_method_69_code 7 = .ok (.iconst 1, 1) := by decide +kernel
theorem dc_X6_lastOfAll_8 : decode prog_1_method_69_code 8 = .ok (.istore_n 3, 1) := by decide +kernel
theorem dc_X6_lastOfAll_9 : decode prog_1_method_69_code 9 = .ok (.iload_n 3, 1) := by decide +kernel
theorem dc_X6_lastOfAll_10 : decode prog_1_method_69_code 10 = .ok (.bipush 6, 2) := by decide +kernel
theorem dc_X6_lastOfAll_12 : decode prog_1_method_69_code 12 = .ok (.if_icmp .ge 20, 3) := by decide +kernel
theorem dc_X6_lastOfAll_32 : decode prog_1_method_69_code 32 = .ok (.lload_n 1, 1) := by decide +kernel
theorem dc_X6_lastOfAll_33 : decode prog_1_method_69_code 33 = .ok (.lreturn, 1) := by decide +kernel
theorem dc_X6_lastOfAll_15 : decode prog_1_method_69_code 15 = .ok (.lload_n 1, 1) := by decide +kernel
theorem dc_X6_lastOfAll_16 : decode prog_1_method_69_code 16 = .ok (.aload_n 0, 1) := by decide +kernel
theorem dc_X6_lastOfAll_17 : decode prog_1_method_69_code 17 = .ok (.getfield 9, 3) := by decide +kernel
theorem dc_X6_lastOfAll_20 : decode prog_1_method_69_code 20 = .ok (.iload_n 3, 1) := by decide +kernel
theorem dc_X6_lastOfAll_21 : decode prog_1_method_69_code 21 = .ok (.laload, 1) := by decide +kernel
theorem dc_X6_lastOfAll_22 : decode prog_1_method_69_code 22 = .ok (.invokestatic 122, 3) := by decide +kernel
theorem dc_X6_lastOfAll_25 : decode prog_1_method_69_code 25 = .ok (.lstore_n 1, 1) := by decide +kernel
theorem dc_X6_lastOfAll_26 : decode prog_1_method_69_code 26 = .ok (.iinc 3 1, 3) := by decide +kernel
theorem dc_X6_lastOfAll_29 : decode prog_1_method_69_code 29 = .ok (.goto (-20), 3) := by decide +kernel
theorem dc_X6_firstOfAll_0 : decode prog_1_method_70_code 0 = .ok (.aload_n 0, 1) := by decide +kernel
theorem dc_X6_firstOfAll_1 : decode prog_1_method_70_code 1 = .ok (.getfield 9, 3) := by decide +kernel
theorem dc_X6_firstOfAll_4 : decode prog_1_method_70_code 4 = .ok (.iconst 0, 1) := by decide +kernel
theorem dc_X6_firstOfAll_5 : decode prog_1_method_70_code 5 = .ok (.laload, 1) := by decide +kernel
theorem dc_X6_firstOfAll_6 : decode prog_1_method_70_code 6 = .ok (.lstore_n 1, 1) := by decide +kernel
theorem dc_X6_firstOfAll_7 : decode prog_1_method_70_code 7 = .ok (.iconst 1, 1) := by decide +kernel
theorem dc_X6_firstOfAll_8 : decode prog_1_method_70_code 8 = .ok (.istore_n 3, 1) := by decide +kernel
theorem dc_X6_firstOfAll_9 : decode prog_1_method_70_code 9 = .ok (.iload_n 3, 1) := by decide +kernel
theorem dc_X6_firstOfAll_10 : decode prog_1_method_70_code 10 = .ok (.bipush 6, 2) := by decide +kernel
theorem dc_X6_firstOfAll_12 : decode prog_1_method_70_code 12 = .ok (.if_icmp .ge 20, 3) := by decide +kernel
theorem dc_X6_firstOfAll_32 : decode prog_1_method_70_code 32 = .ok (.lload_n 1, 1) := by decide +kernel
theorem dc_X6_firstOfAll_33 : decode prog_1_method_70_code 33 = .ok (.lreturn, 1) := by decide +kernel
theorem dc_X6_firstOfAll_15 : decode prog_1_method_70_code 15 = .ok (.lload_n 1, 1) := by decide +kernel
theorem dc_X6_firstOfAll_16 : decode prog_1_method_70_code 16 = .ok (.aload_n 0, 1) := by decide +kernel
theorem dc_X6_firstOfAll_17 : decode prog_1_method_70_code 17 = .ok (.getfield 9, 3) := by decide +kernel
theorem dc_X6_firstOfAll_20 : decode prog_1_method_70_code 20 = .ok (.iload_n 3, 1) := by decide +kernel
theorem dc_X6_firstOfAll_21 : decode prog_1_method_70_code 21 = .ok (.laload, 1) := by decide +kernel
theorem dc_X6_firstOfAll_22 : decode prog_1_method_70_code 22 = .ok (.invokestatic 125, 3) := by decide +kernel
theorem dc_X6_firstOfAll_25 : decode prog_1_method_70_code 25 = .ok (.lstore_n 1, 1) := by decide +kernel
theorem dc_X6_firstOfAll_26 : decode prog_1_method_70_code 26 = .ok (.iinc 3 1, 3) := by decide +kernel
theorem dc_X6_firstOfAll_29 : decode prog_1_method_70_code 29 = .ok (.goto (-20), 3) := by decide +kernel
theorem dc_X6_countOf_0 : decode prog_1_method_62_code 0 = .ok (.iload_n 1, 1) := by decide +kernel
theorem dc_X6_countOf_1 : decode prog_1_method_62_code 1 = .ok (.tableswitch 42 0 2 #[27, 32, 37], 27) := by decide +kernel
theorem dc_X6_countOf_28 : decode prog_1_method_62_code 28 = .ok (.aload_n 0, 1) := by decide +kernel
theorem dc_X6_countOf_29 : decode prog_1_method_62_code 29 = .ok (.getfield 228, 3) := by decide +kernel
theorem dc_X6_countOf_32 : decode prog_1_method_62_code 32 = .ok (.ireturn, 1) := by decide +kernel
theorem dc_X6_countOf_33 : decode prog_1_method_62_code 33 = .ok (.aload_n 0, 1) := by decide +kernel
theorem dc_X6_countOf_34 : decode prog_1_method_62_code 34 = .ok (.getfield 70, 3) := by decide +kernel
theorem dc_X6_countOf_37 : decode prog_1_method_62_code 37 = .ok (.ireturn, 1) := by decide +kernel
theorem dc_X6_countOf_38 : decode prog_1_method_62_code 38 = .ok (.aload_n 0, 1) := by decide +kernel
theorem dc_X6_countOf_39 : decode prog_1_method_62_code 39 = .ok (.getfield 186, 3) := by decide +kernel
theorem dc_X6_countOf_42 : decode prog_1_method_62_code 42 = .ok (.ireturn, 1) := by decide +kernel
theorem dc_X6_countOf_43 : decode prog_1_method_62_code 43 = .ok (.aload_n 0, 1) := by decide +kernel
theorem dc_X6_countOf_44 : decode prog_1_method_62_code 44 = .ok (.invokevirtual 231, 3) := by decide +kernel
theorem dc_X6_countOf_47 : decode prog_1_method_62_code 47 = .ok (.ireturn, 1) := by decide +kernel
theorem dc_X6_place_0 : decode prog_1_method_41_code 0 = .ok (.iload_n 1, 1) := by decide +kernel
theorem dc_X6_place_1 : decode prog_1_method_41_code 1 = .ok (.invokestatic 27, 3) := by decide +kernel
theorem dc_X6_place_4 : decode prog_1_method_41_code 4 = .ok (.aload_n 0, 1) := by decide +kernel
theorem dc_X6_place_5 : decode prog_1_method_41_code 5 = .ok (.aload_n 0, 1) := by decide +kernel
theorem dc_X6_place_6 : decode prog_1_method_41_code 6 = .ok (.getfield 9, 3) := by decide +kernel
theorem dc_X6_place_9 : decode prog_1_method_41_code 9 = .ok (.iload_n 1, 1) := by decide +kernel
theorem dc_X6_place_10 : decode prog_1_method_41_code 10 = .ok (.laload, 1) := by decide +kernel
theorem dc_X6_place_11 : decode prog_1_method_41_code 11 = .ok (.invokevirtual 176, 3) := by decide +kernel
theorem dc_X6_place_14 : decode prog_1_method_41_code 14 = .ok (.ireturn, 1) := by decide +kernel
theorem dc_X6_house_0 : decode prog_1_method_52_code 0 = .ok (.iload_n 1, 1) := by decide +kernel
theorem dc_X6_house_1 : decode prog_1_method_52_code 1 = .ok (.iconst 0, 1) := by decide +kernel
theorem dc_X6_house_2 : decode prog_1_method_52_code 2 = .ok (.iconst 3, 1) := by decide +kernel
theorem dc_X6_house_3 : decode prog_1_method_52_code 3 = .ok (.invokestatic 55, 3) := by decide +kernel
theorem dc_X6_house_6 : decode prog_1_method_52_code 6 = .ok (.aload_n 0, 1) := by decide +kernel
theorem dc_X6_house_7 : decode prog_1_method_52_code 7 = .ok (.iload_n 1, 1) := by decide +kernel
theorem dc_X6_house_8 : decode prog_1_method_52_code 8 = .ok (.invokevirtual 189, 3) := by decide +kernel
theorem dc_X6_house_11 : decode prog_1_method_52_code 11 = .ok (.ireturn, 1) := by decide +kernel
