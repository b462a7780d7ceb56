abbrev my_X9_walk : MethodName := ⟨"ExactdoublesModel", "walk", "(II)I"⟩
theorem kw_7_27 : (Jvm.Cond.methodLink "ExactdoublesModel" (155 : Nat) ({ cls := "java/lang/Math", name := "abs", desc := "(I)I" } : Jvm.MethodName)) ∈ ky_B := ky_mem (kc_7 _ (List.mem_of_getElem? (i := 27) rfl)) (by decide +kernel)
theorem kw_7_28 : (Jvm.Cond.static ({ cls := "java/lang/Math", name := "abs", desc := "(I)I" } : Jvm.MethodName)) ∈ ky_B := ky_mem (kc_7 _ (List.mem_of_getElem? (i := 28) rfl)) (by decide +kernel)
theorem kw_7_29 : (Jvm.Cond.code ({ cls := "java/lang/Math", name := "abs", desc := "(I)I" } : Jvm.MethodName) prog_20_method_59_code (1 : Nat) (Option.some Jvm.ClassFile.FieldType.int)) ∈ ky_B := ky_mem (kc_7 _ (List.mem_of_getElem? (i := 29) rfl)) (by decide +kernel)
def dl_X9_walk_0 : List (ByteArray × Nat × Jvm.ClassFile.Instr × Nat) := [(prog_10_method_38_code, 0, .aload_n 0, 1), (prog_10_method_38_code, 1, .iload_n 1, 1), (prog_10_method_38_code, 2, .invokestatic 51, 3), (prog_10_method_38_code, 5, .invokevirtual 55, 3), (prog_10_method_38_code, 8, .ifCond .ne 27, 3), (prog_10_method_38_code, 35, .iconst 0, 1), (prog_10_method_38_code, 36, .ireturn, 1), (prog_10_method_38_code, 11, .aload_n 0, 1), (prog_10_method_38_code, 12, .iload_n 2, 1), (prog_10_method_38_code, 13, .bipush (-40), 2), (prog_10_method_38_code, 15, .bipush 40, 2), (prog_10_method_38_code, 17, .invokestatic 40, 3), (prog_10_method_38_code, 20, .ifCond .ne 7, 3), (prog_10_method_38_code, 27, .iconst 0, 1), (prog_10_method_38_code, 28, .iconst 2, 1), (prog_10_method_38_code, 29, .invokevirtual 36, 3), (prog_10_method_38_code, 32, .ifCond .eq 5, 3), (prog_10_method_38_code, 37, .aload_n 0, 1), (prog_10_method_38_code, 38, .getfield 25, 3), (prog_10_method_38_code, 41, .iload_n 1, 1), (prog_10_method_38_code, 42, .aaload, 1), (prog_10_method_38_code, 43, .astore_n 3, 1), (prog_10_method_38_code, 44, .iconst 0, 1), (prog_10_method_38_code, 45, .istore 4, 2), (prog_10_method_38_code, 47, .iload 4, 2), (prog_10_method_38_code, 49, .iload_n 2, 1), (prog_10_method_38_code, 50, .invokestatic 155, 3), (prog_10_method_38_code, 53, .if_icmp .ge 23, 3), (prog_10_method_38_code, 76, .aload_n 0, 1), (prog_10_method_38_code, 77, .iload_n 1, 1), (prog_10_method_38_code, 78, .aload_n 3, 1), (prog_10_method_38_code, 79, .invokevirtual 63, 3), (prog_10_method_38_code, 82, .ireturn, 1), (prog_10_method_38_code, 56, .aload_n 3, 1), (prog_10_method_38_code, 57, .iload_n 2, 1), (prog_10_method_38_code, 58, .ifCond .ge 7, 3), (prog_10_method_38_code, 65, .iconst 0, 1), (prog_10_method_38_code, 66, .invokevirtual 130, 3), (prog_10_method_38_code, 69, .astore_n 3, 1), (prog_10_method_38_code, 70, .iinc 4 1, 3), (prog_10_method_38_code, 73, .goto (-26), 3), (prog_10_method_38_code, 61, .iconst 1, 1), (prog_10_method_38_code, 62, .goto 4, 3), (prog_10_method_38_code, 23, .iconst 1, 1), (prog_10_method_38_code, 24, .goto 4, 3)]
theorem db_X9_walk_0 : dl_X9_walk_0.all (fun x => decide (decode x.1 x.2.1 = .ok x.2.2)) = true := by decide +kernel
theorem dc_X9_walk_0 : decode prog_10_method_38_code 0 = .ok (.aload_n 0, 1) := ky_dc db_X9_walk_0 0 rfl
theorem dc_X9_walk_1 : decode prog_10_method_38_code 1 = .ok (.iload_n 1, 1) := ky_dc db_X9_walk_0 1 rfl
theorem dc_X9_walk_2 : decode prog_10_method_38_code 2 = .ok (.invokestatic 51, 3) := ky_dc db_X9_walk_0 2 rfl
theorem dc_X9_walk_5 : decode prog_10_method_38_code 5 = .ok (.invokevirtual 55, 3) := ky_dc db_X9_walk_0 3 rfl
theorem dc_X9_walk_8 : decode prog_10_method_38_code 8 = .ok (.ifCond .ne 27, 3) := ky_dc db_X9_walk_0 4 rfl
theorem dc_X9_walk_35 : decode prog_10_method_38_code 35 = .ok (.iconst 0, 1) := ky_dc db_X9_walk_0 5 rfl
theorem dc_X9_walk_36 : decode prog_10_method_38_code 36 = .ok (.ireturn, 1) := ky_dc db_X9_walk_0 6 rfl
theorem dc_X9_walk_11 : decode prog_10_method_38_code 11 = .ok (.aload_n 0, 1) := ky_dc db_X9_walk_0 7 rfl
theorem dc_X9_walk_12 : decode prog_10_method_38_code 12 = .ok (.iload_n 2, 1) := ky_dc db_X9_walk_0 8 rfl
theorem dc_X9_walk_13 : decode prog_10_method_38_code 13 = .ok (.bipush (-40), 2) := ky_dc db_X9_walk_0 9 rfl
theorem dc_X9_walk_15 : decode prog_10_method_38_code 15 = .ok (.bipush 40, 2) := ky_dc db_X9_walk_0 10 rfl
theorem dc_X9_walk_17 : decode prog_10_method_38_code 17 = .ok (.invokestatic 40, 3) := ky_dc db_X9_walk_0 11 rfl
theorem dc_X9_walk_20 : decode prog_10_method_38_code 20 = .ok (.ifCond .ne 7, 3) := ky_dc db_X9_walk_0 12 rfl
theorem dc_X9_walk_27 : decode prog_10_method_38_code 27 = .ok (.iconst 0, 1) := ky_dc db_X9_walk_0 13 rfl
theorem dc_X9_walk_28 : decode prog_10_method_38_code 28 = .ok (.iconst 2, 1) := ky_dc db_X9_walk_0 14 rfl
theorem dc_X9_walk_29 : decode prog_10_method_38_code 29 = .ok (.invokevirtual 36, 3) := ky_dc db_X9_walk_0 15 rfl
theorem dc_X9_walk_32 : decode prog_10_method_38_code 32 = .ok (.ifCond .eq 5, 3) := ky_dc db_X9_walk_0 16 rfl
theorem dc_X9_walk_37 : decode prog_10_method_38_code 37 = .ok (.aload_n 0, 1) := ky_dc db_X9_walk_0 17 rfl
theorem dc_X9_walk_38 : decode prog_10_method_38_code 38 = .ok (.getfield 25, 3) := ky_dc db_X9_walk_0 18 rfl
theorem dc_X9_walk_41 : decode prog_10_method_38_code 41 = .ok (.iload_n 1, 1) := ky_dc db_X9_walk_0 19 rfl
theorem dc_X9_walk_42 : decode prog_10_method_38_code 42 = .ok (.aaload, 1) := ky_dc db_X9_walk_0 20 rfl
theorem dc_X9_walk_43 : decode prog_10_method_38_code 43 = .ok (.astore_n 3, 1) := ky_dc db_X9_walk_0 21 rfl
theorem dc_X9_walk_44 : decode prog_10_method_38_code 44 = .ok (.iconst 0, 1) := ky_dc db_X9_walk_0 22 rfl
theorem dc_X9_walk_45 : decode prog_10_method_38_code 45 = .ok (.istore 4, 2) := ky_dc db_X9_walk_0 23 rfl
theorem dc_X9_walk_47 : decode prog_10_method_38_code 47 = .ok (.iload 4, 2) := ky_dc db_X9_walk_0 24 rfl
theorem dc_X9_walk_49 : decode prog_10_method_38_code 49 = .ok (.iload_n 2, 1) := ky_dc db_X9_walk_0 25 rfl
theorem dc_X9_walk_50 : decode prog_10_method_38_code 50 = .ok (.invokestatic 155, 3) := ky_dc db_X9_walk_0 26 rfl
theorem dc_X9_walk_53 : decode prog_10_method_38_code 53 = .ok (.if_icmp .ge 23, 3) := ky_dc db_X9_walk_0 27 rfl
theorem dc_X9_walk_76 : decode prog_10_method_38_code 76 = .ok (.aload_n 0, 1) := ky_dc db_X9_walk_0 28 rfl
theorem dc_X9_walk_77 : decode prog_10_method_38_code 77 = .ok (.iload_n 1, 1) := ky_dc db_X9_walk_0 29 rfl
theorem dc_X9_walk_78 : decode prog_10_method_38_code 78 = .ok (.aload_n 3, 1) := ky_dc db_X9_walk_0 30 rfl
theorem dc_X9_walk_79 : decode prog_10_method_38_code 79 = .ok (.invokevirtual 63, 3) := ky_dc db_X9_walk_0 31 rfl
theorem dc_X9_walk_82 : decode prog_10_method_38_code 82 = .ok (.ireturn, 1) := ky_dc db_X9_walk_0 32 rfl
theorem dc_X9_walk_56 : decode prog_10_method_38_code 56 = .ok (.aload_n 3, 1) := ky_dc db_X9_walk_0 33 rfl
theorem dc_X9_walk_57 : decode prog_10_method_38_code 57 = .ok (.iload_n 2, 1) := ky_dc db_X9_walk_0 34 rfl
theorem dc_X9_walk_58 : decode prog_10_method_38_code 58 = .ok (.ifCond .ge 7, 3) := ky_dc db_X9_walk_0 35 rfl
theorem dc_X9_walk_65 : decode prog_10_method_38_code 65 = .ok (.iconst 0, 1) := ky_dc db_X9_walk_0 36 rfl
theorem dc_X9_walk_66 : decode prog_10_method_38_code 66 = .ok (.invokevirtual 130, 3) := ky_dc db_X9_walk_0 37 rfl
theorem dc_X9_walk_69 : decode prog_10_method_38_code 69 = .ok (.astore_n 3, 1) := ky_dc db_X9_walk_0 38 rfl
theorem dc_X9_walk_70 : decode prog_10_method_38_code 70 = .ok (.iinc 4 1, 3) := ky_dc db_X9_walk_0 39 rfl
theorem dc_X9_walk_73 : decode prog_10_method_38_code 73 = .ok (.goto (-26), 3) := ky_dc db_X9_walk_0 40 rfl
theorem dc_X9_walk_61 : decode prog_10_method_38_code 61 = .ok (.iconst 1, 1) := ky_dc db_X9_walk_0 41 rfl
theorem dc_X9_walk_62 : decode prog_10_method_38_code 62 = .ok (.goto 4, 3) := ky_dc db_X9_walk_0 42 rfl
theorem dc_X9_walk_23 : decode prog_10_method_38_code 23 = .ok (.iconst 1, 1) := ky_dc db_X9_walk_0 43 rfl
theorem dc_X9_walk_24 : decode prog_10_method_38_code 24 = .ok (.goto 4, 3) := ky_dc db_X9_walk_0 44 rfl
