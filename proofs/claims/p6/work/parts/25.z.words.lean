abbrev my_X9_placeNow : MethodName := ⟨"ExactdoublesModel", "placeNow", "(I)I"⟩
abbrev my_X9_place : MethodName := ⟨"ExactdoublesModel", "place", "(I)I"⟩
abbrev my_X9_houseNow : MethodName := ⟨"ExactdoublesModel", "houseNow", "(I)I"⟩
abbrev my_X9_house : MethodName := ⟨"ExactdoublesModel", "house", "(I)I"⟩
abbrev my_X6_countWholeOnes : MethodName := ⟨"Exactdoubles", "countWholeOnes", "()I"⟩
abbrev my_X6_placeOf : MethodName := ⟨"Exactdoubles", "placeOf", "(J)I"⟩
abbrev my_X6_lastOfAll : MethodName := ⟨"Exactdoubles", "lastOfAll", "()J"⟩
abbrev my_X6_firstOfAll : MethodName := ⟨"Exactdoubles", "firstOfAll", "()J"⟩
abbrev my_X6_countOf : MethodName := ⟨"Exactdoubles", "countOf", "(I)I"⟩
abbrev my_X6_place : MethodName := ⟨"Exactdoubles", "place", "(I)I"⟩
abbrev my_X6_house : MethodName := ⟨"Exactdoubles", "house", "(I)I"⟩
theorem kw_7_201 : (Jvm.Cond.methodLink "ExactdoublesModel" (244 : Nat) ({ cls := "ExactdoublesModel", name := "placeNow", desc := "(I)I" } : Jvm.MethodName)) ∈ ky_B := ky_mem (kc_7 _ (List.mem_of_getElem? (i := 201) rfl)) (by decide +kernel)
theorem kw_7_203 : (Jvm.Cond.instanceMethod ({ cls := "ExactdoublesModel", name := "placeNow", desc := "(I)I" } : Jvm.MethodName)) ∈ ky_B := ky_mem (kc_7 _ (List.mem_of_getElem? (i := 203) rfl)) (by decide +kernel)
theorem kp_X9_placeNow : (Jvm.Cond.selects "ExactdoublesModel" ({ cls := "ExactdoublesModel", name := "placeNow", desc := "(I)I" } : Jvm.MethodName) ({ cls := "ExactdoublesModel", name := "placeNow", desc := "(I)I" } : Jvm.MethodName)) ∈ ky_B := ky_mem (List.mem_append_left _ (List.mem_of_getElem? (i := 28) (by decide +kernel))) (by decide +kernel)
theorem kw_7_204 : (Jvm.Cond.code ({ cls := "ExactdoublesModel", name := "placeNow", desc := "(I)I" } : Jvm.MethodName) prog_10_method_61_code (7 : Nat) (Option.some Jvm.ClassFile.FieldType.int)) ∈ ky_B := ky_mem (kc_7 _ (List.mem_of_getElem? (i := 204) rfl)) (by decide +kernel)
theorem kw_8_21 : (Jvm.Cond.arrayClass Jvm.ClassFile.FieldType.int) ∈ ky_B := ky_mem (kc_8 _ (List.mem_of_getElem? (i := 21) rfl)) (by decide +kernel)
theorem kw_8_17 : (Jvm.Cond.methodLink "ExactdoublesModel" (258 : Nat) ({ cls := "ExactdoublesModel", name := "houseNow", desc := "(I)I" } : Jvm.MethodName)) ∈ ky_B := ky_mem (kc_8 _ (List.mem_of_getElem? (i := 17) rfl)) (by decide +kernel)
theorem kw_8_19 : (Jvm.Cond.instanceMethod ({ cls := "ExactdoublesModel", name := "houseNow", desc := "(I)I" } : Jvm.MethodName)) ∈ ky_B := ky_mem (kc_8 _ (List.mem_of_getElem? (i := 19) rfl)) (by decide +kernel)
theorem kp_X9_houseNow : (Jvm.Cond.selects "ExactdoublesModel" ({ cls := "ExactdoublesModel", name := "houseNow", desc := "(I)I" } : Jvm.MethodName) ({ cls := "ExactdoublesModel", name := "houseNow", desc := "(I)I" } : Jvm.MethodName)) ∈ ky_B := ky_mem (List.mem_append_left _ (List.mem_of_getElem? (i := 31) (by decide +kernel))) (by decide +kernel)
theorem kw_8_20 : (Jvm.Cond.code ({ cls := "ExactdoublesModel", name := "houseNow", desc := "(I)I" } : Jvm.MethodName) prog_10_method_75_code (7 : Nat) (Option.some Jvm.ClassFile.FieldType.int)) ∈ ky_B := ky_mem (kc_8 _ (List.mem_of_getElem? (i := 20) rfl)) (by decide +kernel)
theorem kw_3_224 : (Jvm.Cond.methodLink "Exactdoubles" (231 : Nat) ({ cls := "Exactdoubles", name := "countWholeOnes", desc := "()I" } : Jvm.MethodName)) ∈ ky_B := ky_mem (kc_3 _ (List.mem_of_getElem? (i := 224) rfl)) (by decide +kernel)
theorem kw_3_226 : (Jvm.Cond.instanceMethod ({ cls := "Exactdoubles", name := "countWholeOnes", desc := "()I" } : Jvm.MethodName)) ∈ ky_B := ky_mem (kc_3 _ (List.mem_of_getElem? (i := 226) rfl)) (by decide +kernel)
theorem kp_X6_countWholeOnes : (Jvm.Cond.selects "Exactdoubles" ({ cls := "Exactdoubles", name := "countWholeOnes", desc := "()I" } : Jvm.MethodName) ({ cls := "Exactdoubles", name := "countWholeOnes", desc := "()I" } : Jvm.MethodName)) ∈ ky_B := ky_mem (List.mem_append_left _ (List.mem_of_getElem? (i := 10) (by decide +kernel))) (by decide +kernel)
theorem kw_3_227 : (Jvm.Cond.code ({ cls := "Exactdoubles", name := "countWholeOnes", desc := "()I" } : Jvm.MethodName) prog_1_method_63_code (3 : Nat) (Option.some Jvm.ClassFile.FieldType.int)) ∈ ky_B := ky_mem (kc_3 _ (List.mem_of_getElem? (i := 227) rfl)) (by decide +kernel)
theorem kw_4_44 : (Jvm.Cond.methodLink "Exactdoubles" (176 : Nat) ({ cls := "Exactdoubles", name := "placeOf", desc := "(J)I" } : Jvm.MethodName)) ∈ ky_B := ky_mem (kc_4 _ (List.mem_of_getElem? (i := 44) rfl)) (by decide +kernel)
theorem kw_4_46 : (Jvm.Cond.instanceMethod ({ cls := "Exactdoubles", name := "placeOf", desc := "(J)I" } : Jvm.MethodName)) ∈ ky_B := ky_mem (kc_4 _ (List.mem_of_getElem? (i := 46) rfl)) (by decide +kernel)
theorem kp_X6_placeOf : (Jvm.Cond.selects "Exactdoubles" ({ cls := "Exactdoubles", name := "placeOf", desc := "(J)I" } : Jvm.MethodName) ({ cls := "Exactdoubles", name := "placeOf", desc := "(J)I" } : Jvm.MethodName)) ∈ ky_B := ky_mem (List.mem_append_left _ (List.mem_of_getElem? (i := 13) (by decide +kernel))) (by decide +kernel)
theorem kw_4_47 : (Jvm.Cond.code ({ cls := "Exactdoubles", name := "placeOf", desc := "(J)I" } : Jvm.MethodName) prog_1_method_68_code (5 : Nat) (Option.some Jvm.ClassFile.FieldType.int)) ∈ ky_B := ky_mem (kc_4 _ (List.mem_of_getElem? (i := 47) rfl)) (by decide +kernel)
theorem kw_3_220 : (Jvm.Cond.methodLink "Exactdoubles" (189 : Nat) ({ cls := "Exactdoubles", name := "countOf", desc := "(I)I" } : Jvm.MethodName)) ∈ ky_B := ky_mem (kc_3 _ (List.mem_of_getElem? (i := 220) rfl)) (by decide +kernel)
theorem kw_3_222 : (Jvm.Cond.instanceMethod ({ cls := "Exactdoubles", name := "countOf", desc := "(I)I" } : Jvm.MethodName)) ∈ ky_B := ky_mem (kc_3 _ (List.mem_of_getElem? (i := 222) rfl)) (by decide +kernel)
theorem kp_X6_countOf : (Jvm.Cond.selects "Exactdoubles" ({ cls := "Exactdoubles", name := "countOf", desc := "(I)I" } : Jvm.MethodName) ({ cls := "Exactdoubles", name := "countOf", desc := "(I)I" } : Jvm.MethodName)) ∈ ky_B := ky_mem (List.mem_append_left _ (List.mem_of_getElem? (i := 9) (by decide +kernel))) (by decide +kernel)
theorem kw_3_223 : (Jvm.Cond.code ({ cls := "Exactdoubles", name := "countOf", desc := "(I)I" } : Jvm.MethodName) prog_1_method_62_code (2 : Nat) (Option.some Jvm.ClassFile.FieldType.int)) ∈ ky_B := ky_mem (kc_3 _ (List.mem_of_getElem? (i := 223) rfl)) (by decide +kernel)
theorem kv_X9_244 : ky_wV "ExactdoublesModel" 244 my_X9_placeNow prog_10_method_61_code 7 (Option.some Jvm.ClassFile.FieldType.int) 1 := ⟨kw_7_201, kw_7_203, kp_X9_placeNow, kw_1_8, kw_7_204, by decide, by decide, by decide +kernel⟩
theorem kv_X9_258 : ky_wV "ExactdoublesModel" 258 my_X9_houseNow prog_10_method_75_code 7 (Option.some Jvm.ClassFile.FieldType.int) 1 := ⟨kw_8_17, kw_8_19, kp_X9_houseNow, kw_1_8, kw_8_20, by decide, by decide, by decide +kernel⟩
theorem kv_X6_231 : ky_wV "Exactdoubles" 231 my_X6_countWholeOnes prog_1_method_63_code 3 (Option.some Jvm.ClassFile.FieldType.int) 0 := ⟨kw_3_224, kw_3_226, kp_X6_countWholeOnes, kw_1_1, kw_3_227, by decide, by decide, by decide +kernel⟩
theorem kv_X6_176 : ky_wV "Exactdoubles" 176 my_X6_placeOf prog_1_method_68_code 5 (Option.some Jvm.ClassFile.FieldType.int) 1 := ⟨kw_4_44, kw_4_46, kp_X6_placeOf, kw_1_1, kw_4_47, by decide, by decide, by decide +kernel⟩
theorem kv_X6_189 : ky_wV "Exactdoubles" 189 my_X6_countOf prog_1_method_62_code 2 (Option.some Jvm.ClassFile.FieldType.int) 1 := ⟨kw_3_220, kw_3_222, kp_X6_countOf, kw_1_1, kw_3_223, by decide, by decide, by decide +kernel⟩
def dl_X9_placeNow_0 : List (ByteArray × Nat × Jvm.ClassFile.Instr × Nat) := [(prog_10_method_61_code, 0, .iconst 0, 1), (prog_10_method_61_code, 1, .istore_n 2, 1), (prog_10_method_61_code, 2, .aload_n 0, 1), (prog_10_method_61_code, 3, .getfield 25, 3), (prog_10_method_61_code, 6, .astore_n 3, 1), (prog_10_method_61_code, 7, .aload_n 3, 1), (prog_10_method_61_code, 8, .arraylength, 1), (prog_10_method_61_code, 9, .istore 4, 2), (prog_10_method_61_code, 11, .iconst 0, 1), (prog_10_method_61_code, 12, .istore 5, 2), (prog_10_method_61_code, 14, .iload 5, 2), (prog_10_method_61_code, 16, .iload 4, 2), (prog_10_method_61_code, 18, .if_icmp .ge 44, 3), (prog_10_method_61_code, 62, .iload_n 2, 1), (prog_10_method_61_code, 63, .ireturn, 1), (prog_10_method_61_code, 21, .aload_n 3, 1), (prog_10_method_61_code, 22, .iload 5, 2), (prog_10_method_61_code, 24, .aaload, 1), (prog_10_method_61_code, 25, .astore 6, 2), (prog_10_method_61_code, 27, .iload_n 2, 1), (prog_10_method_61_code, 28, .aload 6, 2), (prog_10_method_61_code, 30, .invokevirtual 147, 3), (prog_10_method_61_code, 33, .aload_n 0, 1), (prog_10_method_61_code, 34, .getfield 25, 3), (prog_10_method_61_code, 37, .iload_n 1, 1), (prog_10_method_61_code, 38, .aaload, 1), (prog_10_method_61_code, 39, .invokevirtual 147, 3), (prog_10_method_61_code, 42, .lcmp, 1), (prog_10_method_61_code, 43, .ifCond .ge 7, 3), (prog_10_method_61_code, 50, .iconst 0, 1), (prog_10_method_61_code, 51, .invokestatic 59, 3), (prog_10_method_61_code, 54, .iadd, 1), (prog_10_method_61_code, 55, .istore_n 2, 1), (prog_10_method_61_code, 56, .iinc 5 1, 3), (prog_10_method_61_code, 59, .goto (-45), 3), (prog_10_method_61_code, 46, .iconst 1, 1), (prog_10_method_61_code, 47, .goto 4, 3), (prog_10_method_62_code, 0, .aload_n 0, 1), (prog_10_method_62_code, 1, .iload_n 1, 1), (prog_10_method_62_code, 2, .invokestatic 51, 3), (prog_10_method_62_code, 5, .invokevirtual 55, 3), (prog_10_method_62_code, 8, .ifCond .eq 7, 3), (prog_10_method_62_code, 15, .aload_n 0, 1), (prog_10_method_62_code, 16, .iload_n 1, 1), (prog_10_method_62_code, 17, .invokevirtual 244, 3), (prog_10_method_62_code, 20, .ireturn, 1), (prog_10_method_62_code, 11, .iconst 0, 1), (prog_10_method_62_code, 12, .goto 8, 3), (prog_10_method_75_code, 0, .iconst 0, 1), (prog_10_method_75_code, 1, .istore_n 2, 1), (prog_10_method_75_code, 2, .aload_n 0, 1), (prog_10_method_75_code, 3, .getfield 25, 3), (prog_10_method_75_code, 6, .astore_n 3, 1), (prog_10_method_75_code, 7, .aload_n 3, 1), (prog_10_method_75_code, 8, .arraylength, 1), (prog_10_method_75_code, 9, .istore 4, 2), (prog_10_method_75_code, 11, .iconst 0, 1), (prog_10_method_75_code, 12, .istore 5, 2), (prog_10_method_75_code, 14, .iload 5, 2), (prog_10_method_75_code, 16, .iload 4, 2)]
theorem db_X9_placeNow_0 : dl_X9_placeNow_0.all (fun x => decide (decode x.1 x.2.1 = .ok x.2.2)) = true := by decide +kernel
theorem dc_X9_placeNow_0 : decode prog_10_method_61_code 0 = .ok (.iconst 0, 1) := ky_dc db_X9_placeNow_0 0 rfl
theorem dc_X9_placeNow_1 : decode prog_10_method_61_code 1 = .ok (.istore_n 2, 1) := ky_dc db_X9_placeNow_0 1 rfl
theorem dc_X9_placeNow_2 : decode prog_10_method_61_code 2 = .ok (.aload_n 0, 1) := ky_dc db_X9_placeNow_0 2 rfl
theorem dc_X9_placeNow_3 : decode prog_10_method_61_code 3 = .ok (.getfield 25, 3) := ky_dc db_X9_placeNow_0 3 rfl
theorem dc_X9_placeNow_6 : decode prog_10_method_61_code 6 = .ok (.astore_n 3, 1) := ky_dc db_X9_placeNow_0 4 rfl
theorem dc_X9_placeNow_7 : decode prog_10_method_61_code 7 = .ok (.aload_n 3, 1) := ky_dc db_X9_placeNow_0 5 rfl
theorem dc_X9_placeNow_8 : decode prog_10_method_61_code 8 = .ok (.arraylength, 1) := ky_dc db_X9_placeNow_0 6 rfl
theorem dc_X9_placeNow_9 : decode prog_10_method_61_code 9 = .ok (.istore 4, 2) := ky_dc db_X9_placeNow_0 7 rfl
theorem dc_X9_placeNow_11 : decode prog_10_method_61_code 11 = .ok (.iconst 0, 1) := ky_dc db_X9_placeNow_0 8 rfl
theorem dc_X9_placeNow_12 : decode prog_10_method_61_code 12 = .ok (.istore 5, 2) := ky_dc db_X9_placeNow_0 9 rfl
theorem dc_X9_placeNow_14 : decode prog_10_method_61_code 14 = .ok (.iload 5, 2) := ky_dc db_X9_placeNow_0 10 rfl
theorem dc_X9_placeNow_16 : decode prog_10_method_61_code 16 = .ok (.iload 4, 2) := ky_dc db_X9_placeNow_0 11 rfl
theorem dc_X9_placeNow_18 : decode prog_10_method_61_code 18 = .ok (.if_icmp .ge 44, 3) := ky_dc db_X9_placeNow_0 12 rfl
theorem dc_X9_placeNow_62 : decode prog_10_method_61_code 62 = .ok (.iload_n 2, 1) := ky_dc db_X9_placeNow_0 13 rfl
theorem dc_X9_placeNow_63 : decode prog_10_method_61_code 63 = .ok (.ireturn, 1) := ky_dc db_X9_placeNow_0 14 rfl
theorem dc_X9_placeNow_21 : decode prog_10_method_61_code 21 = .ok (.aload_n 3, 1) := ky_dc db_X9_placeNow_0 15 rfl
theorem dc_X9_placeNow_22 : decode prog_10_method_61_code 22 = .ok (.iload 5, 2) := ky_dc db_X9_placeNow_0 16 rfl
theorem dc_X9_placeNow_24 : decode prog_10_method_61_code 24 = .ok (.aaload, 1) := ky_dc db_X9_placeNow_0 17 rfl
theorem dc_X9_placeNow_25 : decode prog_10_method_61_code 25 = .ok (.astore 6, 2) := ky_dc db_X9_placeNow_0 18 rfl
theorem dc_X9_placeNow_27 : decode prog_10_method_61_code 27 = .ok (.iload_n 2, 1) := ky_dc db_X9_placeNow_0 19 rfl
theorem dc_X9_placeNow_28 : decode prog_10_method_61_code 28 = .ok (.aload 6, 2) := ky_dc db_X9_placeNow_0 20 rfl
theorem dc_X9_placeNow_30 : decode prog_10_method_61_code 30 = .ok (.invokevirtual 147, 3) := ky_dc db_X9_placeNow_0 21 rfl
theorem dc_X9_placeNow_33 : decode prog_10_method_61_code 33 = .ok (.aload_n 0, 1) := ky_dc db_X9_placeNow_0 22 rfl
theorem dc_X9_placeNow_34 : decode prog_10_method_61_code 34 = .ok (.getfield 25, 3) := ky_dc db_X9_placeNow_0 23 rfl
theorem dc_X9_placeNow_37 : decode prog_10_method_61_code 37 = .ok (.iload_n 1, 1) := ky_dc db_X9_placeNow_0 24 rfl
theorem dc_X9_placeNow_38 : decode prog_10_method_61_code 38 = .ok (.aaload, 1) := ky_dc db_X9_placeNow_0 25 rfl
theorem dc_X9_placeNow_39 : decode prog_10_method_61_code 39 = .ok (.invokevirtual 147, 3) := ky_dc db_X9_placeNow_0 26 rfl
theorem dc_X9_placeNow_42 : decode prog_10_method_61_code 42 = .ok (.lcmp, 1) := ky_dc db_X9_placeNow_0 27 rfl
theorem dc_X9_placeNow_43 : decode prog_10_method_61_code 43 = .ok (.ifCond .ge 7, 3) := ky_dc db_X9_placeNow_0 28 rfl
theorem dc_X9_placeNow_50 : decode prog_10_method_61_code 50 = .ok (.iconst 0, 1) := ky_dc db_X9_placeNow_0 29 rfl
theorem dc_X9_placeNow_51 : decode prog_10_method_61_code 51 = .ok (.invokestatic 59, 3) := ky_dc db_X9_placeNow_0 30 rfl
theorem dc_X9_placeNow_54 : decode prog_10_method_61_code 54 = .ok (.iadd, 1) := ky_dc db_X9_placeNow_0 31 rfl
theorem dc_X9_placeNow_55 : decode prog_10_method_61_code 55 = .ok (.istore_n 2, 1) := ky_dc db_X9_placeNow_0 32 rfl
theorem dc_X9_placeNow_56 : decode prog_10_method_61_code 56 = .ok (.iinc 5 1, 3) := ky_dc db_X9_placeNow_0 33 rfl
theorem dc_X9_placeNow_59 : decode prog_10_method_61_code 59 = .ok (.goto (-45), 3) := ky_dc db_X9_placeNow_0 34 rfl
theorem dc_X9_placeNow_46 : decode prog_10_method_61_code 46 = .ok (.iconst 1, 1) := ky_dc db_X9_placeNow_0 35 rfl
theorem dc_X9_placeNow_47 : decode prog_10_method_61_code 47 = .ok (.goto 4, 3) := ky_dc db_X9_placeNow_0 36 rfl
theorem dc_X9_place_0 : decode prog_10_method_62_code 0 = .ok (.aload_n 0, 1) := ky_dc db_X9_placeNow_0 37 rfl
theorem dc_X9_place_1 : decode prog_10_method_62_code 1 = .ok (.iload_n 1, 1) := ky_dc db_X9_placeNow_0 38 rfl
theorem dc_X9_place_2 : decode prog_10_method_62_code 2 = .ok (.invokestatic 51, 3) := ky_dc db_X9_placeNow_0 39 rfl
theorem dc_X9_place_5 : decode prog_10_method_62_code 5 = .ok (.invokevirtual 55, 3) := ky_dc db_X9_placeNow_0 40 rfl
theorem dc_X9_place_8 : decode prog_10_method_62_code 8 = .ok (.ifCond .eq 7, 3) := ky_dc db_X9_placeNow_0 41 rfl
theorem dc_X9_place_15 : decode prog_10_method_62_code 15 = .ok (.aload_n 0, 1) := ky_dc db_X9_placeNow_0 42 rfl
theorem dc_X9_place_16 : decode prog_10_method_62_code 16 = .ok (.iload_n 1, 1) := ky_dc db_X9_placeNow_0 43 rfl
theorem dc_X9_place_17 : decode prog_10_method_62_code 17 = .ok (.invokevirtual 244, 3) := ky_dc db_X9_placeNow_0 44 rfl
theorem dc_X9_place_20 : decode prog_10_method_62_code 20 = .ok (.ireturn, 1) := ky_dc db_X9_placeNow_0 45 rfl
theorem dc_X9_place_11 : decode prog_10_method_62_code 11 = .ok (.iconst 0, 1) := ky_dc db_X9_placeNow_0 46 rfl
theorem dc_X9_place_12 : decode prog_10_method_62_code 12 = .ok (.goto 8, 3) := ky_dc db_X9_placeNow_0 47 rfl
theorem dc_X9_houseNow_0 : decode prog_10_method_75_code 0 = .ok (.iconst 0, 1) := ky_dc db_X9_placeNow_0 48 rfl
theorem dc_X9_houseNow_1 : decode prog_10_method_75_code 1 = .ok (.istore_n 2, 1) := ky_dc db_X9_placeNow_0 49 rfl
theorem dc_X9_houseNow_2 : decode prog_10_method_75_code 2 = .ok (.aload_n 0, 1) := ky_dc db_X9_placeNow_0 50 rfl
theorem dc_X9_houseNow_3 : decode prog_10_method_75_code 3 = .ok (.getfield 25, 3) := ky_dc db_X9_placeNow_0 51 rfl
theorem dc_X9_houseNow_6 : decode prog_10_method_75_code 6 = .ok (.astore_n 3, 1) := ky_dc db_X9_placeNow_0 52 rfl
theorem dc_X9_houseNow_7 : decode prog_10_method_75_code 7 = .ok (.aload_n 3, 1) := ky_dc db_X9_placeNow_0 53 rfl
theorem dc_X9_houseNow_8 : decode prog_10_method_75_code 8 = .ok (.arraylength, 1) := ky_dc db_X9_placeNow_0 54 rfl
theorem dc_X9_houseNow_9 : decode prog_10_method_75_code 9 = .ok (.istore 4, 2) := ky_dc db_X9_placeNow_0 55 rfl
theorem dc_X9_houseNow_11 : decode prog_10_method_75_code 11 = .ok (.iconst 0, 1) := ky_dc db_X9_placeNow_0 56 rfl
theorem dc_X9_houseNow_12 : decode prog_10_method_75_code 12 = .ok (.istore 5, 2) := ky_dc db_X9_placeNow_0 57 rfl
theorem dc_X9_houseNow_14 : decode prog_10_method_75_code 14 = .ok (.iload 5, 2) := ky_dc db_X9_placeNow_0 58 rfl
theorem dc_X9_houseNow_16 : decode prog_10_method_75_code 16 = .ok (.iload 4, 2) := ky_dc db_X9_placeNow_0 59 rfl
def dl_X9_houseNow_18 : List (ByteArray × Nat × Jvm.ClassFile.Instr × Nat) := [(prog_10_method_75_code, 18, .if_icmp .ge 26, 3), (prog_10_method_75_code, 44, .iconst 4, 1), (prog_10_method_75_code, 45, .newarray .int, 2), (prog_10_method_75_code, 47, .dup, 1), (prog_10_method_75_code, 48, .iconst 0, 1), (prog_10_method_75_code, 49, .aload_n 0, 1), (prog_10_method_75_code, 50, .getfield 44, 3), (prog_10_method_75_code, 53, .iastore, 1), (prog_10_method_75_code, 54, .dup, 1), (prog_10_method_75_code, 55, .iconst 1, 1), (prog_10_method_75_code, 56, .aload_n 0, 1), (prog_10_method_75_code, 57, .getfield 79, 3), (prog_10_method_75_code, 60, .iastore, 1), (prog_10_method_75_code, 61, .dup, 1), (prog_10_method_75_code, 62, .iconst 2, 1), (prog_10_method_75_code, 63, .aload_n 0, 1), (prog_10_method_75_code, 64, .getfield 255, 3), (prog_10_method_75_code, 67, .iastore, 1), (prog_10_method_75_code, 68, .dup, 1), (prog_10_method_75_code, 69, .iconst 3, 1), (prog_10_method_75_code, 70, .iload_n 2, 1), (prog_10_method_75_code, 71, .iastore, 1), (prog_10_method_75_code, 72, .astore_n 3, 1), (prog_10_method_75_code, 73, .aload_n 3, 1), (prog_10_method_75_code, 74, .iload_n 1, 1), (prog_10_method_75_code, 75, .iaload, 1), (prog_10_method_75_code, 76, .ireturn, 1), (prog_10_method_75_code, 21, .aload_n 3, 1), (prog_10_method_75_code, 22, .iload 5, 2), (prog_10_method_75_code, 24, .aaload, 1), (prog_10_method_75_code, 25, .astore 6, 2), (prog_10_method_75_code, 27, .iload_n 2, 1), (prog_10_method_75_code, 28, .aload 6, 2), (prog_10_method_75_code, 30, .invokevirtual 224, 3), (prog_10_method_75_code, 33, .invokestatic 59, 3), (prog_10_method_75_code, 36, .iadd, 1), (prog_10_method_75_code, 37, .istore_n 2, 1), (prog_10_method_75_code, 38, .iinc 5 1, 3), (prog_10_method_75_code, 41, .goto (-27), 3), (prog_10_method_76_code, 0, .aload_n 0, 1), (prog_10_method_76_code, 1, .iconst 0, 1), (prog_10_method_76_code, 2, .invokevirtual 55, 3), (prog_10_method_76_code, 5, .ifCond .ne 25, 3), (prog_10_method_76_code, 8, .aload_n 0, 1), (prog_10_method_76_code, 9, .iload_n 1, 1), (prog_10_method_76_code, 10, .iconst 0, 1), (prog_10_method_76_code, 11, .iconst 3, 1), (prog_10_method_76_code, 12, .invokestatic 40, 3), (prog_10_method_76_code, 15, .ifCond .ne 7, 3), (prog_10_method_76_code, 22, .iconst 0, 1), (prog_10_method_76_code, 23, .iconst 1, 1), (prog_10_method_76_code, 24, .invokevirtual 36, 3), (prog_10_method_76_code, 27, .ifCond .eq 7, 3), (prog_10_method_76_code, 34, .aload_n 0, 1), (prog_10_method_76_code, 35, .iload_n 1, 1), (prog_10_method_76_code, 36, .invokevirtual 258, 3), (prog_10_method_76_code, 39, .ireturn, 1), (prog_10_method_76_code, 30, .iconst 0, 1), (prog_10_method_76_code, 31, .goto 8, 3), (prog_10_method_76_code, 18, .iconst 1, 1)]
theorem db_X9_houseNow_18 : dl_X9_houseNow_18.all (fun x => decide (decode x.1 x.2.1 = .ok x.2.2)) = true := by decide +kernel
theorem dc_X9_houseNow_18 : decode prog_10_method_75_code 18 = .ok (.if_icmp .ge 26, 3) := ky_dc db_X9_houseNow_18 0 rfl
theorem dc_X9_houseNow_44 : decode prog_10_method_75_code 44 = .ok (.iconst 4, 1) := ky_dc db_X9_houseNow_18 1 rfl
theorem dc_X9_houseNow_45 : decode prog_10_method_75_code 45 = .ok (.newarray .int, 2) := ky_dc db_X9_houseNow_18 2 rfl
theorem dc_X9_houseNow_47 : decode prog_10_method_75_code 47 = .ok (.dup, 1) := ky_dc db_X9_houseNow_18 3 rfl
theorem dc_X9_houseNow_48 : decode prog_10_method_75_code 48 = .ok (.iconst 0, 1) := ky_dc db_X9_houseNow_18 4 rfl
theorem dc_X9_houseNow_49 : decode prog_10_method_75_code 49 = .ok (.aload_n 0, 1) := ky_dc db_X9_houseNow_18 5 rfl
theorem dc_X9_houseNow_50 : decode prog_10_method_75_code 50 = .ok (.getfield 44, 3) := ky_dc db_X9_houseNow_18 6 rfl
theorem dc_X9_houseNow_53 : decode prog_10_method_75_code 53 = .ok (.iastore, 1) := ky_dc db_X9_houseNow_18 7 rfl
theorem dc_X9_houseNow_54 : decode prog_10_method_75_code 54 = .ok (.dup, 1) := ky_dc db_X9_houseNow_18 8 rfl
theorem dc_X9_houseNow_55 : decode prog_10_method_75_code 55 = .ok (.iconst 1, 1) := ky_dc db_X9_houseNow_18 9 rfl
theorem dc_X9_houseNow_56 : decode prog_10_method_75_code 56 = .ok (.aload_n 0, 1) := ky_dc db_X9_houseNow_18 10 rfl
theorem dc_X9_houseNow_57 : decode prog_10_method_75_code 57 = .ok (.getfield 79, 3) := ky_dc db_X9_houseNow_18 11 rfl
theorem dc_X9_houseNow_60 : decode prog_10_method_75_code 60 = .ok (.iastore, 1) := ky_dc db_X9_houseNow_18 12 rfl
theorem dc_X9_houseNow_61 : decode prog_10_method_75_code 61 = .ok (.dup, 1) := ky_dc db_X9_houseNow_18 13 rfl
theorem dc_X9_houseNow_62 : decode prog_10_method_75_code 62 = .ok (.iconst 2, 1) := ky_dc db_X9_houseNow_18 14 rfl
theorem dc_X9_houseNow_63 : decode prog_10_method_75_code 63 = .ok (.aload_n 0, 1) := ky_dc db_X9_houseNow_18 15 rfl
theorem dc_X9_houseNow_64 : decode prog_10_method_75_code 64 = .ok (.getfield 255, 3) := ky_dc db_X9_houseNow_18 16 rfl
theorem dc_X9_houseNow_67 : decode prog_10_method_75_code 67 = .ok (.iastore, 1) := ky_dc db_X9_houseNow_18 17 rfl
theorem dc_X9_houseNow_68 : decode prog_10_method_75_code 68 = .ok (.dup, 1) := ky_dc db_X9_houseNow_18 18 rfl
theorem dc_X9_houseNow_69 : decode prog_10_method_75_code 69 = .ok (.iconst 3, 1) := ky_dc db_X9_houseNow_18 19 rfl
theorem dc_X9_houseNow_70 : decode prog_10_method_75_code 70 = .ok (.iload_n 2, 1) := ky_dc db_X9_houseNow_18 20 rfl
theorem dc_X9_houseNow_71 : decode prog_10_method_75_code 71 = .ok (.iastore, 1) := ky_dc db_X9_houseNow_18 21 rfl
theorem dc_X9_houseNow_72 : decode prog_10_method_75_code 72 = .ok (.astore_n 3, 1) := ky_dc db_X9_houseNow_18 22 rfl
theorem dc_X9_houseNow_73 : decode prog_10_method_75_code 73 = .ok (.aload_n 3, 1) := ky_dc db_X9_houseNow_18 23 rfl
theorem dc_X9_houseNow_74 : decode prog_10_method_75_code 74 = .ok (.iload_n 1, 1) := ky_dc db_X9_houseNow_18 24 rfl
theorem dc_X9_houseNow_75 : decode prog_10_method_75_code 75 = .ok (.iaload, 1) := ky_dc db_X9_houseNow_18 25 rfl
theorem dc_X9_houseNow_76 : decode prog_10_method_75_code 76 = .ok (.ireturn, 1) := ky_dc db_X9_houseNow_18 26 rfl
theorem dc_X9_houseNow_21 : decode prog_10_method_75_code 21 = .ok (.aload_n 3, 1) := ky_dc db_X9_houseNow_18 27 rfl
theorem dc_X9_houseNow_22 : decode prog_10_method_75_code 22 = .ok (.iload 5, 2) := ky_dc db_X9_houseNow_18 28 rfl
theorem dc_X9_houseNow_24 : decode prog_10_method_75_code 24 = .ok (.aaload, 1) := ky_dc db_X9_houseNow_18 29 rfl
theorem dc_X9_houseNow_25 : decode prog_10_method_75_code 25 = .ok (.astore 6, 2) := ky_dc db_X9_houseNow_18 30 rfl
theorem dc_X9_houseNow_27 : decode prog_10_method_75_code 27 = .ok (.iload_n 2, 1) := ky_dc db_X9_houseNow_18 31 rfl
theorem dc_X9_houseNow_28 : decode prog_10_method_75_code 28 = .ok (.aload 6, 2) := ky_dc db_X9_houseNow_18 32 rfl
theorem dc_X9_houseNow_30 : decode prog_10_method_75_code 30 = .ok (.invokevirtual 224, 3) := ky_dc db_X9_houseNow_18 33 rfl
theorem dc_X9_houseNow_33 : decode prog_10_method_75_code 33 = .ok (.invokestatic 59, 3) := ky_dc db_X9_houseNow_18 34 rfl
theorem dc_X9_houseNow_36 : decode prog_10_method_75_code 36 = .ok (.iadd, 1) := ky_dc db_X9_houseNow_18 35 rfl
theorem dc_X9_houseNow_37 : decode prog_10_method_75_code 37 = .ok (.istore_n 2, 1) := ky_dc db_X9_houseNow_18 36 rfl
theorem dc_X9_houseNow_38 : decode prog_10_method_75_code 38 = .ok (.iinc 5 1, 3) := ky_dc db_X9_houseNow_18 37 rfl
theorem dc_X9_houseNow_41 : decode prog_10_method_75_code 41 = .ok (.goto (-27), 3) := ky_dc db_X9_houseNow_18 38 rfl
theorem dc_X9_house_0 : decode prog_10_method_76_code 0 = .ok (.aload_n 0, 1) := ky_dc db_X9_houseNow_18 39 rfl
theorem dc_X9_house_1 : decode prog_10_method_76_code 1 = .ok (.iconst 0, 1) := ky_dc db_X9_houseNow_18 40 rfl
theorem dc_X9_house_2 : decode prog_10_method_76_code 2 = .ok (.invokevirtual 55, 3) := ky_dc db_X9_houseNow_18 41 rfl
theorem dc_X9_house_5 : decode prog_10_method_76_code 5 = .ok (.ifCond .ne 25, 3) := ky_dc db_X9_houseNow_18 42 rfl
theorem dc_X9_house_8 : decode prog_10_method_76_code 8 = .ok (.aload_n 0, 1) := ky_dc db_X9_houseNow_18 43 rfl
theorem dc_X9_house_9 : decode prog_10_method_76_code 9 = .ok (.iload_n 1, 1) := ky_dc db_X9_houseNow_18 44 rfl
theorem dc_X9_house_10 : decode prog_10_method_76_code 10 = .ok (.iconst 0, 1) := ky_dc db_X9_houseNow_18 45 rfl
theorem dc_X9_house_11 : decode prog_10_method_76_code 11 = .ok (.iconst 3, 1) := ky_dc db_X9_houseNow_18 46 rfl
theorem dc_X9_house_12 : decode prog_10_method_76_code 12 = .ok (.invokestatic 40, 3) := ky_dc db_X9_houseNow_18 47 rfl
theorem dc_X9_house_15 : decode prog_10_method_76_code 15 = .ok (.ifCond .ne 7, 3) := ky_dc db_X9_houseNow_18 48 rfl
theorem dc_X9_house_22 : decode prog_10_method_76_code 22 = .ok (.iconst 0, 1) := ky_dc db_X9_houseNow_18 49 rfl
theorem dc_X9_house_23 : decode prog_10_method_76_code 23 = .ok (.iconst 1, 1) := ky_dc db_X9_houseNow_18 50 rfl
theorem dc_X9_house_24 : decode prog_10_method_76_code 24 = .ok (.invokevirtual 36, 3) := ky_dc db_X9_houseNow_18 51 rfl
theorem dc_X9_house_27 : decode prog_10_method_76_code 27 = .ok (.ifCond .eq 7, 3) := ky_dc db_X9_houseNow_18 52 rfl
theorem dc_X9_house_34 : decode prog_10_method_76_code 34 = .ok (.aload_n 0, 1) := ky_dc db_X9_houseNow_18 53 rfl
theorem dc_X9_house_35 : decode prog_10_method_76_code 35 = .ok (.iload_n 1, 1) := ky_dc db_X9_houseNow_18 54 rfl
theorem dc_X9_house_36 : decode prog_10_method_76_code 36 = .ok (.invokevirtual 258, 3) := ky_dc db_X9_houseNow_18 55 rfl
theorem dc_X9_house_39 : decode prog_10_method_76_code 39 = .ok (.ireturn, 1) := ky_dc db_X9_houseNow_18 56 rfl
theorem dc_X9_house_30 : decode prog_10_method_76_code 30 = .ok (.iconst 0, 1) := ky_dc db_X9_houseNow_18 57 rfl
theorem dc_X9_house_31 : decode prog_10_method_76_code 31 = .ok (.goto 8, 3) := ky_dc db_X9_houseNow_18 58 rfl
theorem dc_X9_house_18 : decode prog_10_method_76_code 18 = .ok (.iconst 1, 1) := ky_dc db_X9_houseNow_18 59 rfl
def dl_X9_house_19 : List (ByteArray × Nat × Jvm.ClassFile.Instr × Nat) := [(prog_10_method_76_code, 19, .goto 4, 3), (prog_1_method_63_code, 0, .iconst 0, 1), (prog_1_method_63_code, 1, .istore_n 1, 1), (prog_1_method_63_code, 2, .iconst 0, 1), (prog_1_method_63_code, 3, .istore_n 2, 1), (prog_1_method_63_code, 4, .iload_n 2, 1), (prog_1_method_63_code, 5, .bipush 6, 2), (prog_1_method_63_code, 7, .if_icmp .ge 24, 3), (prog_1_method_63_code, 31, .iload_n 1, 1), (prog_1_method_63_code, 32, .ireturn, 1), (prog_1_method_63_code, 10, .aload_n 0, 1), (prog_1_method_63_code, 11, .getfield 9, 3), (prog_1_method_63_code, 14, .iload_n 2, 1), (prog_1_method_63_code, 15, .laload, 1), (prog_1_method_63_code, 16, .invokestatic 163, 3), (prog_1_method_63_code, 19, .ifCond .eq 6, 3), (prog_1_method_63_code, 25, .iinc 2 1, 3), (prog_1_method_63_code, 28, .goto (-24), 3), (prog_1_method_63_code, 22, .iinc 1 1, 3), (prog_1_method_68_code, 0, .iconst 0, 1), (prog_1_method_68_code, 1, .istore_n 3, 1), (prog_1_method_68_code, 2, .iconst 0, 1), (prog_1_method_68_code, 3, .istore 4, 2), (prog_1_method_68_code, 5, .iload 4, 2), (prog_1_method_68_code, 7, .bipush 6, 2), (prog_1_method_68_code, 9, .if_icmp .ge 30, 3), (prog_1_method_68_code, 39, .iload_n 3, 1), (prog_1_method_68_code, 40, .ireturn, 1), (prog_1_method_68_code, 12, .aload_n 0, 1), (prog_1_method_68_code, 13, .getfield 9, 3), (prog_1_method_68_code, 16, .iload 4, 2), (prog_1_method_68_code, 18, .laload, 1), (prog_1_method_68_code, 19, .invokestatic 240, 3), (prog_1_method_68_code, 22, .lload_n 1, 1), (prog_1_method_68_code, 23, .invokestatic 240, 3), (prog_1_method_68_code, 26, .lcmp, 1), (prog_1_method_68_code, 27, .ifCond .ge 6, 3), (prog_1_method_68_code, 33, .iinc 4 1, 3), (prog_1_method_68_code, 36, .goto (-31), 3), (prog_1_method_68_code, 30, .iinc 3 1, 3), (prog_1_method_69_code, 0, .aload_n 0, 1), (prog_1_method_69_code, 1, .getfield 9, 3), (prog_1_method_69_code, 4, .iconst 0, 1), (prog_1_method_69_code, 5, .laload, 1), (prog_1_method_69_code, 6, .lstore_n 1, 1), (prog_1_method_69_code, 7, .iconst 1, 1), (prog_1_method_69_code, 8, .istore_n 3, 1), (prog_1_method_69_code, 9, .iload_n 3, 1), (prog_1_method_69_code, 10, .bipush 6, 2), (prog_1_method_69_code, 12, .if_icmp .ge 20, 3), (prog_1_method_69_code, 32, .lload_n 1, 1), (prog_1_method_69_code, 33, .lreturn, 1), (prog_1_method_69_code, 15, .lload_n 1, 1), (prog_1_method_69_code, 16, .aload_n 0, 1), (prog_1_method_69_code, 17, .getfield 9, 3), (prog_1_method_69_code, 20, .iload_n 3, 1), (prog_1_method_69_code, 21, .laload, 1), (prog_1_method_69_code, 22, .invokestatic 122, 3), (prog_1_method_69_code, 25, .lstore_n 1, 1), (prog_1_method_69_code, 26, .iinc 3 1, 3)]
theorem db_X9_house_19 : dl_X9_house_19.all (fun x => decide (decode x.1 x.2.1 = .ok x.2.2)) = true := by decide +kernel
theorem dc_X9_house_19 : decode prog_10_method_76_code 19 = .ok (.goto 4, 3) := ky_dc db_X9_house_19 0 rfl
theorem dc_X6_countWholeOnes_0 : decode prog_1_method_63_code 0 = .ok (.iconst 0, 1) := ky_dc db_X9_house_19 1 rfl
theorem dc_X6_countWholeOnes_1 : decode prog_1_method_63_code 1 = .ok (.istore_n 1, 1) := ky_dc db_X9_house_19 2 rfl
theorem dc_X6_countWholeOnes_2 : decode prog_1_method_63_code 2 = .ok (.iconst 0, 1) := ky_dc db_X9_house_19 3 rfl
theorem dc_X6_countWholeOnes_3 : decode prog_1_method_63_code 3 = .ok (.istore_n 2, 1) := ky_dc db_X9_house_19 4 rfl
theorem dc_X6_countWholeOnes_4 : decode prog_1_method_63_code 4 = .ok (.iload_n 2, 1) := ky_dc db_X9_house_19 5 rfl
theorem dc_X6_countWholeOnes_5 : decode prog_1_method_63_code 5 = .ok (.bipush 6, 2) := ky_dc db_X9_house_19 6 rfl
theorem dc_X6_countWholeOnes_7 : decode prog_1_method_63_code 7 = .ok (.if_icmp .ge 24, 3) := ky_dc db_X9_house_19 7 rfl
theorem dc_X6_countWholeOnes_31 : decode prog_1_method_63_code 31 = .ok (.iload_n 1, 1) := ky_dc db_X9_house_19 8 rfl
theorem dc_X6_countWholeOnes_32 : decode prog_1_method_63_code 32 = .ok (.ireturn, 1) := ky_dc db_X9_house_19 9 rfl
theorem dc_X6_countWholeOnes_10 : decode prog_1_method_63_code 10 = .ok (.aload_n 0, 1) := ky_dc db_X9_house_19 10 rfl
theorem dc_X6_countWholeOnes_11 : decode prog_1_method_63_code 11 = .ok (.getfield 9, 3) := ky_dc db_X9_house_19 11 rfl
theorem dc_X6_countWholeOnes_14 : decode prog_1_method_63_code 14 = .ok (.iload_n 2, 1) := ky_dc db_X9_house_19 12 rfl
theorem dc_X6_countWholeOnes_15 : decode prog_1_method_63_code 15 = .ok (.laload, 1) := ky_dc db_X9_house_19 13 rfl
theorem dc_X6_countWholeOnes_16 : decode prog_1_method_63_code 16 = .ok (.invokestatic 163, 3) := ky_dc db_X9_house_19 14 rfl
theorem dc_X6_countWholeOnes_19 : decode prog_1_method_63_code 19 = .ok (.ifCond .eq 6, 3) := ky_dc db_X9_house_19 15 rfl
theorem dc_X6_countWholeOnes_25 : decode prog_1_method_63_code 25 = .ok (.iinc 2 1, 3) := ky_dc db_X9_house_19 16 rfl
theorem dc_X6_countWholeOnes_28 : decode prog_1_method_63_code 28 = .ok (.goto (-24), 3) := ky_dc db_X9_house_19 17 rfl
theorem dc_X6_countWholeOnes_22 : decode prog_1_method_63_code 22 = .ok (.iinc 1 1, 3) := ky_dc db_X9_house_19 18 rfl
theorem dc_X6_placeOf_0 : decode prog_1_method_68_code 0 = .ok (.iconst 0, 1) := ky_dc db_X9_house_19 19 rfl
theorem dc_X6_placeOf_1 : decode prog_1_method_68_code 1 = .ok (.istore_n 3, 1) := ky_dc db_X9_house_19 20 rfl
theorem dc_X6_placeOf_2 : decode prog_1_method_68_code 2 = .ok (.iconst 0, 1) := ky_dc db_X9_house_19 21 rfl
theorem dc_X6_placeOf_3 : decode prog_1_method_68_code 3 = .ok (.istore 4, 2) := ky_dc db_X9_house_19 22 rfl
theorem dc_X6_placeOf_5 : decode prog_1_method_68_code 5 = .ok (.iload 4, 2) := ky_dc db_X9_house_19 23 rfl
theorem dc_X6_placeOf_7 : decode prog_1_method_68_code 7 = .ok (.bipush 6, 2) := ky_dc db_X9_house_19 24 rfl
theorem dc_X6_placeOf_9 : decode prog_1_method_68_code 9 = .ok (.if_icmp .ge 30, 3) := ky_dc db_X9_house_19 25 rfl
theorem dc_X6_placeOf_39 : decode prog_1_method_68_code 39 = .ok (.iload_n 3, 1) := ky_dc db_X9_house_19 26 rfl
theorem dc_X6_placeOf_40 : decode prog_1_method_68_code 40 = .ok (.ireturn, 1) := ky_dc db_X9_house_19 27 rfl
theorem dc_X6_placeOf_12 : decode prog_1_method_68_code 12 = .ok (.aload_n 0, 1) := ky_dc db_X9_house_19 28 rfl
theorem dc_X6_placeOf_13 : decode prog_1_method_68_code 13 = .ok (.getfield 9, 3) := ky_dc db_X9_house_19 29 rfl
theorem dc_X6_placeOf_16 : decode prog_1_method_68_code 16 = .ok (.iload 4, 2) := ky_dc db_X9_house_19 30 rfl
theorem dc_X6_placeOf_18 : decode prog_1_method_68_code 18 = .ok (.laload, 1) := ky_dc db_X9_house_19 31 rfl
theorem dc_X6_placeOf_19 : decode prog_1_method_68_code 19 = .ok (.invokestatic 240, 3) := ky_dc db_X9_house_19 32 rfl
theorem dc_X6_placeOf_22 : decode prog_1_method_68_code 22 = .ok (.lload_n 1, 1) := ky_dc db_X9_house_19 33 rfl
theorem dc_X6_placeOf_23 : decode prog_1_method_68_code 23 = .ok (.invokestatic 240, 3) := ky_dc db_X9_house_19 34 rfl
theorem dc_X6_placeOf_26 : decode prog_1_method_68_code 26 = .ok (.lcmp, 1) := ky_dc db_X9_house_19 35 rfl
theorem dc_X6_placeOf_27 : decode prog_1_method_68_code 27 = .ok (.ifCond .ge 6, 3) := ky_dc db_X9_house_19 36 rfl
theorem dc_X6_placeOf_33 : decode prog_1_method_68_code 33 = .ok (.iinc 4 1, 3) := ky_dc db_X9_house_19 37 rfl
theorem dc_X6_placeOf_36 : decode prog_1_method_68_code 36 = .ok (.goto (-31), 3) := ky_dc db_X9_house_19 38 rfl
theorem dc_X6_placeOf_30 : decode prog_1_method_68_code 30 = .ok (.iinc 3 1, 3) := ky_dc db_X9_house_19 39 rfl
theorem dc_X6_lastOfAll_0 : decode prog_1_method_69_code 0 = .ok (.aload_n 0, 1) := ky_dc db_X9_house_19 40 rfl
theorem dc_X6_lastOfAll_1 : decode prog_1_method_69_code 1 = .ok (.getfield 9, 3) := ky_dc db_X9_house_19 41 rfl
theorem dc_X6_lastOfAll_4 : decode prog_1_method_69_code 4 = .ok (.iconst 0, 1) := ky_dc db_X9_house_19 42 rfl
theorem dc_X6_lastOfAll_5 : decode prog_1_method_69_code 5 = .ok (.laload, 1) := ky_dc db_X9_house_19 43 rfl
theorem dc_X6_lastOfAll_6 : decode prog_1_method_69_code 6 = .ok (.lstore_n 1, 1) := ky_dc db_X9_house_19 44 rfl
theorem dc_X6_lastOfAll_7 : decode prog_1_method_69_code 7 = .ok (.iconst 1, 1) := ky_dc db_X9_house_19 45 rfl
theorem dc_X6_lastOfAll_8 : decode prog_1_method_69_code 8 = .ok (.istore_n 3, 1) := ky_dc db_X9_house_19 46 rfl
theorem dc_X6_lastOfAll_9 : decode prog_1_method_69_code 9 = .ok (.iload_n 3, 1) := ky_dc db_X9_house_19 47 rfl
theorem dc_X6_lastOfAll_10 : decode prog_1_method_69_code 10 = .ok (.bipush 6, 2) := ky_dc db_X9_house_19 48 rfl
theorem dc_X6_lastOfAll_12 : decode prog_1_method_69_code 12 = .ok (.if_icmp .ge 20, 3) := ky_dc db_X9_house_19 49 rfl
theorem dc_X6_lastOfAll_32 : decode prog_1_method_69_code 32 = .ok (.lload_n 1, 1) := ky_dc db_X9_house_19 50 rfl
theorem dc_X6_lastOfAll_33 : decode prog_1_method_69_code 33 = .ok (.lreturn, 1) := ky_dc db_X9_house_19 51 rfl
theorem dc_X6_lastOfAll_15 : decode prog_1_method_69_code 15 = .ok (.lload_n 1, 1) := ky_dc db_X9_house_19 52 rfl
theorem dc_X6_lastOfAll_16 : decode prog_1_method_69_code 16 = .ok (.aload_n 0, 1) := ky_dc db_X9_house_19 53 rfl
theorem dc_X6_lastOfAll_17 : decode prog_1_method_69_code 17 = .ok (.getfield 9, 3) := ky_dc db_X9_house_19 54 rfl
theorem dc_X6_lastOfAll_20 : decode prog_1_method_69_code 20 = .ok (.iload_n 3, 1) := ky_dc db_X9_house_19 55 rfl
theorem dc_X6_lastOfAll_21 : decode prog_1_method_69_code 21 = .ok (.laload, 1) := ky_dc db_X9_house_19 56 rfl
theorem dc_X6_lastOfAll_22 : decode prog_1_method_69_code 22 = .ok (.invokestatic 122, 3) := ky_dc db_X9_house_19 57 rfl
theorem dc_X6_lastOfAll_25 : decode prog_1_method_69_code 25 = .ok (.lstore_n 1, 1) := ky_dc db_X9_house_19 58 rfl
theorem dc_X6_lastOfAll_26 : decode prog_1_method_69_code 26 = .ok (.iinc 3 1, 3) := ky_dc db_X9_house_19 59 rfl
def dl_X6_lastOfAll_29 : List (ByteArray × Nat × Jvm.ClassFile.Instr × Nat) := [(prog_1_method_69_code, 29, .goto (-20), 3), (prog_1_method_70_code, 0, .aload_n 0, 1), (prog_1_method_70_code, 1, .getfield 9, 3), (prog_1_method_70_code, 4, .iconst 0, 1), (prog_1_method_70_code, 5, .laload, 1), (prog_1_method_70_code, 6, .lstore_n 1, 1), (prog_1_method_70_code, 7, .iconst 1, 1), (prog_1_method_70_code, 8, .istore_n 3, 1), (prog_1_method_70_code, 9, .iload_n 3, 1), (prog_1_method_70_code, 10, .bipush 6, 2), (prog_1_method_70_code, 12, .if_icmp .ge 20, 3), (prog_1_method_70_code, 32, .lload_n 1, 1), (prog_1_method_70_code, 33, .lreturn, 1), (prog_1_method_70_code, 15, .lload_n 1, 1), (prog_1_method_70_code, 16, .aload_n 0, 1), (prog_1_method_70_code, 17, .getfield 9, 3), (prog_1_method_70_code, 20, .iload_n 3, 1), (prog_1_method_70_code, 21, .laload, 1), (prog_1_method_70_code, 22, .invokestatic 125, 3), (prog_1_method_70_code, 25, .lstore_n 1, 1), (prog_1_method_70_code, 26, .iinc 3 1, 3), (prog_1_method_70_code, 29, .goto (-20), 3), (prog_1_method_62_code, 0, .iload_n 1, 1), (prog_1_method_62_code, 1, .tableswitch 42 0 2 #[27, 32, 37], 27), (prog_1_method_62_code, 28, .aload_n 0, 1), (prog_1_method_62_code, 29, .getfield 228, 3), (prog_1_method_62_code, 32, .ireturn, 1), (prog_1_method_62_code, 33, .aload_n 0, 1), (prog_1_method_62_code, 34, .getfield 70, 3), (prog_1_method_62_code, 37, .ireturn, 1), (prog_1_method_62_code, 38, .aload_n 0, 1), (prog_1_method_62_code, 39, .getfield 186, 3), (prog_1_method_62_code, 42, .ireturn, 1), (prog_1_method_62_code, 43, .aload_n 0, 1), (prog_1_method_62_code, 44, .invokevirtual 231, 3), (prog_1_method_62_code, 47, .ireturn, 1), (prog_1_method_41_code, 0, .iload_n 1, 1), (prog_1_method_41_code, 1, .invokestatic 27, 3), (prog_1_method_41_code, 4, .aload_n 0, 1), (prog_1_method_41_code, 5, .aload_n 0, 1), (prog_1_method_41_code, 6, .getfield 9, 3), (prog_1_method_41_code, 9, .iload_n 1, 1), (prog_1_method_41_code, 10, .laload, 1), (prog_1_method_41_code, 11, .invokevirtual 176, 3), (prog_1_method_41_code, 14, .ireturn, 1), (prog_1_method_52_code, 0, .iload_n 1, 1), (prog_1_method_52_code, 1, .iconst 0, 1), (prog_1_method_52_code, 2, .iconst 3, 1), (prog_1_method_52_code, 3, .invokestatic 55, 3), (prog_1_method_52_code, 6, .aload_n 0, 1), (prog_1_method_52_code, 7, .iload_n 1, 1), (prog_1_method_52_code, 8, .invokevirtual 189, 3), (prog_1_method_52_code, 11, .ireturn, 1)]
theorem db_X6_lastOfAll_29 : dl_X6_lastOfAll_29.all (fun x => decide (decode x.1 x.2.1 = .ok x.2.2)) = true := by decide +kernel
theorem dc_X6_lastOfAll_29 : decode prog_1_method_69_code 29 = .ok (.goto (-20), 3) := ky_dc db_X6_lastOfAll_29 0 rfl
theorem dc_X6_firstOfAll_0 : decode prog_1_method_70_code 0 = .ok (.aload_n 0, 1) := ky_dc db_X6_lastOfAll_29 1 rfl
theorem dc_X6_firstOfAll_1 : decode prog_1_method_70_code 1 = .ok (.getfield 9, 3) := ky_dc db_X6_lastOfAll_29 2 rfl
theorem dc_X6_firstOfAll_4 : decode prog_1_method_70_code 4 = .ok (.iconst 0, 1) := ky_dc db_X6_lastOfAll_29 3 rfl
theorem dc_X6_firstOfAll_5 : decode prog_1_method_70_code 5 = .ok (.laload, 1) := ky_dc db_X6_lastOfAll_29 4 rfl
theorem dc_X6_firstOfAll_6 : decode prog_1_method_70_code 6 = .ok (.lstore_n 1, 1) := ky_dc db_X6_lastOfAll_29 5 rfl
theorem dc_X6_firstOfAll_7 : decode prog_1_method_70_code 7 = .ok (.iconst 1, 1) := ky_dc db_X6_lastOfAll_29 6 rfl
theorem dc_X6_firstOfAll_8 : decode prog_1_method_70_code 8 = .ok (.istore_n 3, 1) := ky_dc db_X6_lastOfAll_29 7 rfl
theorem dc_X6_firstOfAll_9 : decode prog_1_method_70_code 9 = .ok (.iload_n 3, 1) := ky_dc db_X6_lastOfAll_29 8 rfl
theorem dc_X6_firstOfAll_10 : decode prog_1_method_70_code 10 = .ok (.bipush 6, 2) := ky_dc db_X6_lastOfAll_29 9 rfl
theorem dc_X6_firstOfAll_12 : decode prog_1_method_70_code 12 = .ok (.if_icmp .ge 20, 3) := ky_dc db_X6_lastOfAll_29 10 rfl
theorem dc_X6_firstOfAll_32 : decode prog_1_method_70_code 32 = .ok (.lload_n 1, 1) := ky_dc db_X6_lastOfAll_29 11 rfl
theorem dc_X6_firstOfAll_33 : decode prog_1_method_70_code 33 = .ok (.lreturn, 1) := ky_dc db_X6_lastOfAll_29 12 rfl
theorem dc_X6_firstOfAll_15 : decode prog_1_method_70_code 15 = .ok (.lload_n 1, 1) := ky_dc db_X6_lastOfAll_29 13 rfl
theorem dc_X6_firstOfAll_16 : decode prog_1_method_70_code 16 = .ok (.aload_n 0, 1) := ky_dc db_X6_lastOfAll_29 14 rfl
theorem dc_X6_firstOfAll_17 : decode prog_1_method_70_code 17 = .ok (.getfield 9, 3) := ky_dc db_X6_lastOfAll_29 15 rfl
theorem dc_X6_firstOfAll_20 : decode prog_1_method_70_code 20 = .ok (.iload_n 3, 1) := ky_dc db_X6_lastOfAll_29 16 rfl
theorem dc_X6_firstOfAll_21 : decode prog_1_method_70_code 21 = .ok (.laload, 1) := ky_dc db_X6_lastOfAll_29 17 rfl
theorem dc_X6_firstOfAll_22 : decode prog_1_method_70_code 22 = .ok (.invokestatic 125, 3) := ky_dc db_X6_lastOfAll_29 18 rfl
theorem dc_X6_firstOfAll_25 : decode prog_1_method_70_code 25 = .ok (.lstore_n 1, 1) := ky_dc db_X6_lastOfAll_29 19 rfl
theorem dc_X6_firstOfAll_26 : decode prog_1_method_70_code 26 = .ok (.iinc 3 1, 3) := ky_dc db_X6_lastOfAll_29 20 rfl
theorem dc_X6_firstOfAll_29 : decode prog_1_method_70_code 29 = .ok (.goto (-20), 3) := ky_dc db_X6_lastOfAll_29 21 rfl
theorem dc_X6_countOf_0 : decode prog_1_method_62_code 0 = .ok (.iload_n 1, 1) := ky_dc db_X6_lastOfAll_29 22 rfl
theorem dc_X6_countOf_1 : decode prog_1_method_62_code 1 = .ok (.tableswitch 42 0 2 #[27, 32, 37], 27) := ky_dc db_X6_lastOfAll_29 23 rfl
theorem dc_X6_countOf_28 : decode prog_1_method_62_code 28 = .ok (.aload_n 0, 1) := ky_dc db_X6_lastOfAll_29 24 rfl
theorem dc_X6_countOf_29 : decode prog_1_method_62_code 29 = .ok (.getfield 228, 3) := ky_dc db_X6_lastOfAll_29 25 rfl
theorem dc_X6_countOf_32 : decode prog_1_method_62_code 32 = .ok (.ireturn, 1) := ky_dc db_X6_lastOfAll_29 26 rfl
theorem dc_X6_countOf_33 : decode prog_1_method_62_code 33 = .ok (.aload_n 0, 1) := ky_dc db_X6_lastOfAll_29 27 rfl
theorem dc_X6_countOf_34 : decode prog_1_method_62_code 34 = .ok (.getfield 70, 3) := ky_dc db_X6_lastOfAll_29 28 rfl
theorem dc_X6_countOf_37 : decode prog_1_method_62_code 37 = .ok (.ireturn, 1) := ky_dc db_X6_lastOfAll_29 29 rfl
theorem dc_X6_countOf_38 : decode prog_1_method_62_code 38 = .ok (.aload_n 0, 1) := ky_dc db_X6_lastOfAll_29 30 rfl
theorem dc_X6_countOf_39 : decode prog_1_method_62_code 39 = .ok (.getfield 186, 3) := ky_dc db_X6_lastOfAll_29 31 rfl
theorem dc_X6_countOf_42 : decode prog_1_method_62_code 42 = .ok (.ireturn, 1) := ky_dc db_X6_lastOfAll_29 32 rfl
theorem dc_X6_countOf_43 : decode prog_1_method_62_code 43 = .ok (.aload_n 0, 1) := ky_dc db_X6_lastOfAll_29 33 rfl
theorem dc_X6_countOf_44 : decode prog_1_method_62_code 44 = .ok (.invokevirtual 231, 3) := ky_dc db_X6_lastOfAll_29 34 rfl
theorem dc_X6_countOf_47 : decode prog_1_method_62_code 47 = .ok (.ireturn, 1) := ky_dc db_X6_lastOfAll_29 35 rfl
theorem dc_X6_place_0 : decode prog_1_method_41_code 0 = .ok (.iload_n 1, 1) := ky_dc db_X6_lastOfAll_29 36 rfl
theorem dc_X6_place_1 : decode prog_1_method_41_code 1 = .ok (.invokestatic 27, 3) := ky_dc db_X6_lastOfAll_29 37 rfl
theorem dc_X6_place_4 : decode prog_1_method_41_code 4 = .ok (.aload_n 0, 1) := ky_dc db_X6_lastOfAll_29 38 rfl
theorem dc_X6_place_5 : decode prog_1_method_41_code 5 = .ok (.aload_n 0, 1) := ky_dc db_X6_lastOfAll_29 39 rfl
theorem dc_X6_place_6 : decode prog_1_method_41_code 6 = .ok (.getfield 9, 3) := ky_dc db_X6_lastOfAll_29 40 rfl
theorem dc_X6_place_9 : decode prog_1_method_41_code 9 = .ok (.iload_n 1, 1) := ky_dc db_X6_lastOfAll_29 41 rfl
theorem dc_X6_place_10 : decode prog_1_method_41_code 10 = .ok (.laload, 1) := ky_dc db_X6_lastOfAll_29 42 rfl
theorem dc_X6_place_11 : decode prog_1_method_41_code 11 = .ok (.invokevirtual 176, 3) := ky_dc db_X6_lastOfAll_29 43 rfl
theorem dc_X6_place_14 : decode prog_1_method_41_code 14 = .ok (.ireturn, 1) := ky_dc db_X6_lastOfAll_29 44 rfl
theorem dc_X6_house_0 : decode prog_1_method_52_code 0 = .ok (.iload_n 1, 1) := ky_dc db_X6_lastOfAll_29 45 rfl
theorem dc_X6_house_1 : decode prog_1_method_52_code 1 = .ok (.iconst 0, 1) := ky_dc db_X6_lastOfAll_29 46 rfl
theorem dc_X6_house_2 : decode prog_1_method_52_code 2 = .ok (.iconst 3, 1) := ky_dc db_X6_lastOfAll_29 47 rfl
theorem dc_X6_house_3 : decode prog_1_method_52_code 3 = .ok (.invokestatic 55, 3) := ky_dc db_X6_lastOfAll_29 48 rfl
theorem dc_X6_house_6 : decode prog_1_method_52_code 6 = .ok (.aload_n 0, 1) := ky_dc db_X6_lastOfAll_29 49 rfl
theorem dc_X6_house_7 : decode prog_1_method_52_code 7 = .ok (.iload_n 1, 1) := ky_dc db_X6_lastOfAll_29 50 rfl
theorem dc_X6_house_8 : decode prog_1_method_52_code 8 = .ok (.invokevirtual 189, 3) := ky_dc db_X6_lastOfAll_29 51 rfl
theorem dc_X6_house_11 : decode prog_1_method_52_code 11 = .ok (.ireturn, 1) := ky_dc db_X6_lastOfAll_29 52 rfl
