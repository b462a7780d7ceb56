abbrev my_X9_placeNow : MethodName := ⟨"ExactdoublesModel", "placeNow", "(I)I"⟩
abbrev my_X9_place : MethodName := ⟨"ExactdoublesModel", "place", "(I)I"⟩
theorem kw_7_201 : (Jvm.Cond.methodLink "ExactdoublesModel" (244 : Nat) ({ cls := "ExactdoublesModel", name := "placeNow", desc := "(I)I" } : Jvm.MethodName)) ∈ ky_B := ky_mem (kc_7 _ (List.mem_of_getElem? (i := 201) rfl)) (by decide +kernel)
theorem kw_7_203 : (Jvm.Cond.instanceMethod ({ cls := "ExactdoublesModel", name := "placeNow", desc := "(I)I" } : Jvm.MethodName)) ∈ ky_B := ky_mem (kc_7 _ (List.mem_of_getElem? (i := 203) rfl)) (by decide +kernel)
theorem kp_X9_placeNow : (Jvm.Cond.selects "ExactdoublesModel" ({ cls := "ExactdoublesModel", name := "placeNow", desc := "(I)I" } : Jvm.MethodName) ({ cls := "ExactdoublesModel", name := "placeNow", desc := "(I)I" } : Jvm.MethodName)) ∈ ky_B := ky_mem (List.mem_append_left _ (List.mem_of_getElem? (i := 28) (by decide +kernel))) (by decide +kernel)
theorem kw_7_204 : (Jvm.Cond.code ({ cls := "ExactdoublesModel", name := "placeNow", desc := "(I)I" } : Jvm.MethodName) prog_10_method_61_code (7 : Nat) (Option.some Jvm.ClassFile.FieldType.int)) ∈ ky_B := ky_mem (kc_7 _ (List.mem_of_getElem? (i := 204) rfl)) (by decide +kernel)
theorem kv_X9_244 : ky_wV "ExactdoublesModel" 244 my_X9_placeNow prog_10_method_61_code 7 (Option.some Jvm.ClassFile.FieldType.int) 1 := ⟨kw_7_201, kw_7_203, kp_X9_placeNow, kw_1_8, kw_7_204, by decide, by decide, by decide +kernel⟩
theorem dc_X9_placeNow_0 : decode prog_10_method_61_code 0 = .ok (.iconst 0, 1) := by decide +kernel
theorem dc_X9_placeNow_1 : decode prog_10_method_61_code 1 = .ok (.istore_n 2, 1) := by decide +kernel
theorem dc_X9_placeNow_2 : decode prog_10_method_61_code 2 = .ok (.aload_n 0, 1) := by decide +kernel
theorem dc_X9_placeNow_3 : decode prog_10_method_61_code 3 = .ok (.getfield 25, 3) := by decide +kernel
theorem dc_X9_placeNow_6 : decode prog_10_method_61_code 6 = .ok (.astore_n 3, 1) := by decide +kernel
theorem dc_X9_placeNow_7 : decode prog_10_method_61_code 7 = .ok (.aload_n 3, 1) := by decide +kernel
theorem dc_X9_placeNow_8 : decode prog_10_method_61_code 8 = .ok (.arraylength, 1) := by decide +kernel
theorem dc_X9_placeNow_9 : decode prog_10_method_61_code 9 = .ok (.istore 4, 2) := by decide +kernel
theorem dc_X9_placeNow_11 : decode prog_10_method_61_code 11 = .ok (.iconst 0, 1) := by decide +kernel
theorem dc_X9_placeNow_12 : decode prog_10_method_61_code 12 = .ok (.istore 5, 2) := by decide +kernel
theorem dc_X9_placeNow_14 : decode prog_10_method_61_code 14 = .ok (.iload 5, 2) := by decide +kernel
theorem dc_X9_placeNow_16 : decode prog_10_method_61_code 16 = .ok (.iload 4, 2) := by decide +kernel
theorem dc_X9_placeNow_18 : decode prog_10_method_61_code 18 = .ok (.if_icmp .ge 44, 3) := by decide +kernel
theorem dc_X9_placeNow_62 : decode prog_10_method_61_code 62 = .ok (.iload_n 2, 1) := by decide +kernel
theorem dc_X9_placeNow_63 : decode prog_10_method_61_code 63 = .ok (.ireturn, 1) := by decide +kernel
theorem dc_X9_placeNow_21 : decode prog_10_method_61_code 21 = .ok (.aload_n 3, 1) := by decide +kernel
theorem dc_X9_placeNow_22 : decode prog_10_method_61_code 22 = .ok (.iload 5, 2) := by decide +kernel
theorem dc_X9_placeNow_24 : decode prog_10_method_61_code 24 = .ok (.aaload, 1) := by decide +kernel
theorem dc_X9_placeNow_25 : decode prog_10_method_61_code 25 = .ok (.astore 6, 2) := by decide +kernel
theorem dc_X9_placeNow_27 : decode prog_10_method_61_code 27 = .ok (.iload_n 2, 1) := by decide +kernel
theorem dc_X9_placeNow_28 : decode prog_10_method_61_code 28 = .ok (.aload 6, 2) := by decide +kernel
theorem dc_X9_placeNow_30 : decode prog_10_method_61_code 30 = .ok (.invokevirtual 147, 3) := by decide +kernel
theorem dc_X9_placeNow_33 : decode prog_10_method_61_code 33 = .ok (.aload_n 0, 1) := by decide +kernel
theorem dc_X9_placeNow_34 : decode prog_10_method_61_code 34 = .ok (.getfield 25, 3) := by decide +kernel
theorem dc_X9_placeNow_37 : decode prog_10_method_61_code 37 = .ok (.iload_n 1, 1) := by decide +kernel
theorem dc_X9_placeNow_38 : decode prog_10_method_61_code 38 = .ok (.aaload, 1) := by decide +kernel
theorem dc_X9_placeNow_39 : decode prog_10_method_61_code 39 = .ok (.invokevirtual 147, 3) := by decide +kernel
theorem dc_X9_placeNow_42 : decode prog_10_method_61_code 42 = .ok (.lcmp, 1) := by decide +kernel
theorem dc_X9_placeNow_43 : decode prog_10_method_61_code 43 = .ok (.ifCond .ge 7, 3) := by decide +kernel
theorem dc_X9_placeNow_50 : decode prog_10_method_61_code 50 = .ok (.iconst 0, 1) := by decide +kernel
theorem dc_X9_placeNow_51 : decode prog_10_method_61_code 51 = .ok (.invokestatic 59, 3) := by decide +kernel
theorem dc_X9_placeNow_54 : decode prog_10_method_61_code 54 = .ok (.iadd, 1) := by decide +kernel
theorem dc_X9_placeNow_55 : decode prog_10_method_61_code 55 = .ok (.istore_n 2, 1) := by decide +kernel
theorem dc_X9_placeNow_56 : decode prog_10_method_61_code 56 = .ok (.iinc 5 1, 3) := by decide +kernel
theorem dc_X9_placeNow_59 : decode prog_10_method_61_code 59 = .ok (.goto (-45), 3) := by decide +kernel
theorem dc_X9_placeNow_46 : decode prog_10_method_61_code 46 = .ok (.iconst 1, 1) := by decide +kernel
theorem dc_X9_placeNow_47 : decode prog_10_method_61_code 47 = .ok (.goto 4, 3) := by decide +kernel
theorem dc_X9_place_0 : decode prog_10_method_62_code 0 = .ok (.aload_n 0, 1) := by decide +kernel
theorem dc_X9_place_1 : decode prog_10_method_62_code 1 = .ok (.iload_n 1, 1) := by decide +kernel
theorem dc_X9_place_2 : decode prog_10_method_62_code 2 = .ok (.invokestatic 51, 3) := by decide +kernel
theorem dc_X9_place_5 : decode prog_10_method_62_code 5 = .ok (.invokevirtual 55, 3) := by decide +kernel
theorem dc_X9_place_8 : decode prog_10_method_62_code 8 = .ok (.ifCond .eq 7, 3) := by decide +kernel
theorem dc_X9_place_15 : decode prog_10_method_62_code 15 = .ok (.aload_n 0, 1) := by decide +kernel
theorem dc_X9_place_16 : decode prog_10_method_62_code 16 = .ok (.iload_n 1, 1) := by decide +kernel
theorem dc_X9_place_17 : decode prog_10_method_62_code 17 = .ok (.invokevirtual 244, 3) := by decide +kernel
theorem dc_X9_place_20 : decode prog_10_method_62_code 20 = .ok (.ireturn, 1) := by decide +kernel
theorem dc_X9_place_11 : decode prog_10_method_62_code 11 = .ok (.iconst 0, 1) := by decide +kernel
theorem dc_X9_place_12 : decode prog_10_method_62_code 12 = .ok (.goto 8, 3) := by decide +kernel
