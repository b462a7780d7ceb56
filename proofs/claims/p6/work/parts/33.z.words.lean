abbrev my_J6_stringSize_0f7a4 : MethodName := ⟨"java/lang/Integer", "stringSize", "(I)I"⟩
abbrev my_J13_stringSize_95d88 : MethodName := ⟨"java/lang/Long", "stringSize", "(J)I"⟩
theorem kw_7_71 : (Jvm.Cond.constantLong "java/lang/Long" (140 : Nat) (-10 : Int64)) ∈ ky_B := ky_mem (kc_7 _ (List.mem_of_getElem? (i := 71) rfl)) (by decide +kernel)
theorem kw_7_72 : (Jvm.Cond.constantLong "java/lang/Long" (53 : Nat) (10 : Int64)) ∈ ky_B := ky_mem (kc_7 _ (List.mem_of_getElem? (i := 72) rfl)) (by decide +kernel)
def dl_J6_stringSize_0f7a4_0 : List (ByteArray × Nat × Jvm.ClassFile.Instr × Nat) := [(prog_18_method_13_code, 0, .iconst 1, 1), (prog_18_method_13_code, 1, .istore_n 1, 1), (prog_18_method_13_code, 2, .iload_n 0, 1), (prog_18_method_13_code, 3, .ifCond .lt 8, 3), (prog_18_method_13_code, 11, .bipush (-10), 2), (prog_18_method_13_code, 13, .istore_n 2, 1), (prog_18_method_13_code, 14, .iconst 1, 1), (prog_18_method_13_code, 15, .istore_n 3, 1), (prog_18_method_13_code, 16, .iload_n 3, 1), (prog_18_method_13_code, 17, .bipush 10, 2), (prog_18_method_13_code, 19, .if_icmp .ge 23, 3), (prog_18_method_13_code, 22, .iload_n 0, 1), (prog_18_method_13_code, 23, .iload_n 2, 1), (prog_18_method_13_code, 24, .if_icmp .le 7, 3), (prog_18_method_13_code, 31, .bipush 10, 2), (prog_18_method_13_code, 33, .iload_n 2, 1), (prog_18_method_13_code, 34, .imul, 1), (prog_18_method_13_code, 35, .istore_n 2, 1), (prog_18_method_13_code, 36, .iinc 3 1, 3), (prog_18_method_13_code, 39, .goto (-23), 3), (prog_18_method_13_code, 42, .bipush 10, 2), (prog_18_method_13_code, 44, .iload_n 1, 1), (prog_18_method_13_code, 45, .iadd, 1), (prog_18_method_13_code, 46, .ireturn, 1), (prog_18_method_13_code, 27, .iload_n 3, 1), (prog_18_method_13_code, 28, .iload_n 1, 1), (prog_18_method_13_code, 29, .iadd, 1), (prog_18_method_13_code, 30, .ireturn, 1), (prog_18_method_13_code, 6, .iconst 0, 1), (prog_18_method_13_code, 7, .istore_n 1, 1), (prog_18_method_13_code, 8, .iload_n 0, 1), (prog_18_method_13_code, 9, .ineg, 1), (prog_18_method_13_code, 10, .istore_n 0, 1), (prog_19_method_15_code, 0, .iconst 1, 1), (prog_19_method_15_code, 1, .istore_n 2, 1), (prog_19_method_15_code, 2, .lload_n 0, 1), (prog_19_method_15_code, 3, .lconst 0, 1), (prog_19_method_15_code, 4, .lcmp, 1), (prog_19_method_15_code, 5, .ifCond .lt 8, 3), (prog_19_method_15_code, 13, .ldc2_w 140, 3), (prog_19_method_15_code, 16, .lstore_n 3, 1), (prog_19_method_15_code, 17, .iconst 1, 1), (prog_19_method_15_code, 18, .istore 5, 2), (prog_19_method_15_code, 20, .iload 5, 2), (prog_19_method_15_code, 22, .bipush 19, 2), (prog_19_method_15_code, 24, .if_icmp .ge 26, 3), (prog_19_method_15_code, 27, .lload_n 0, 1), (prog_19_method_15_code, 28, .lload_n 3, 1), (prog_19_method_15_code, 29, .lcmp, 1), (prog_19_method_15_code, 30, .ifCond .le 8, 3), (prog_19_method_15_code, 38, .ldc2_w 53, 3), (prog_19_method_15_code, 41, .lload_n 3, 1), (prog_19_method_15_code, 42, .lmul, 1), (prog_19_method_15_code, 43, .lstore_n 3, 1), (prog_19_method_15_code, 44, .iinc 5 1, 3), (prog_19_method_15_code, 47, .goto (-27), 3), (prog_19_method_15_code, 50, .bipush 19, 2), (prog_19_method_15_code, 52, .iload_n 2, 1), (prog_19_method_15_code, 53, .iadd, 1), (prog_19_method_15_code, 54, .ireturn, 1)]
theorem db_J6_stringSize_0f7a4_0 : dl_J6_stringSize_0f7a4_0.all (fun x => decide (decode x.1 x.2.1 = .ok x.2.2)) = true := by decide +kernel
theorem dc_J6_stringSize_0f7a4_0 : decode prog_18_method_13_code 0 = .ok (.iconst 1, 1) := ky_dc db_J6_stringSize_0f7a4_0 0 rfl
theorem dc_J6_stringSize_0f7a4_1 : decode prog_18_method_13_code 1 = .ok (.istore_n 1, 1) := ky_dc db_J6_stringSize_0f7a4_0 1 rfl
theorem dc_J6_stringSize_0f7a4_2 : decode prog_18_method_13_code 2 = .ok (.iload_n 0, 1) := ky_dc db_J6_stringSize_0f7a4_0 2 rfl
theorem dc_J6_stringSize_0f7a4_3 : decode prog_18_method_13_code 3 = .ok (.ifCond .lt 8, 3) := ky_dc db_J6_stringSize_0f7a4_0 3 rfl
theorem dc_J6_stringSize_0f7a4_11 : decode prog_18_method_13_code 11 = .ok (.bipush (-10), 2) := ky_dc db_J6_stringSize_0f7a4_0 4 rfl
theorem dc_J6_stringSize_0f7a4_13 : decode prog_18_method_13_code 13 = .ok (.istore_n 2, 1) := ky_dc db_J6_stringSize_0f7a4_0 5 rfl
theorem dc_J6_stringSize_0f7a4_14 : decode prog_18_method_13_code 14 = .ok (.iconst 1, 1) := ky_dc db_J6_stringSize_0f7a4_0 6 rfl
theorem dc_J6_stringSize_0f7a4_15 : decode prog_18_method_13_code 15 = .ok (.istore_n 3, 1) := ky_dc db_J6_stringSize_0f7a4_0 7 rfl
theorem dc_J6_stringSize_0f7a4_16 : decode prog_18_method_13_code 16 = .ok (.iload_n 3, 1) := ky_dc db_J6_stringSize_0f7a4_0 8 rfl
theorem dc_J6_stringSize_0f7a4_17 : decode prog_18_method_13_code 17 = .ok (.bipush 10, 2) := ky_dc db_J6_stringSize_0f7a4_0 9 rfl
theorem dc_J6_stringSize_0f7a4_19 : decode prog_18_method_13_code 19 = .ok (.if_icmp .ge 23, 3) := ky_dc db_J6_stringSize_0f7a4_0 10 rfl
theorem dc_J6_stringSize_0f7a4_22 : decode prog_18_method_13_code 22 = .ok (.iload_n 0, 1) := ky_dc db_J6_stringSize_0f7a4_0 11 rfl
theorem dc_J6_stringSize_0f7a4_23 : decode prog_18_method_13_code 23 = .ok (.iload_n 2, 1) := ky_dc db_J6_stringSize_0f7a4_0 12 rfl
theorem dc_J6_stringSize_0f7a4_24 : decode prog_18_method_13_code 24 = .ok (.if_icmp .le 7, 3) := ky_dc db_J6_stringSize_0f7a4_0 13 rfl
theorem dc_J6_stringSize_0f7a4_31 : decode prog_18_method_13_code 31 = .ok (.bipush 10, 2) := ky_dc db_J6_stringSize_0f7a4_0 14 rfl
theorem dc_J6_stringSize_0f7a4_33 : decode prog_18_method_13_code 33 = .ok (.iload_n 2, 1) := ky_dc db_J6_stringSize_0f7a4_0 15 rfl
theorem dc_J6_stringSize_0f7a4_34 : decode prog_18_method_13_code 34 = .ok (.imul, 1) := ky_dc db_J6_stringSize_0f7a4_0 16 rfl
theorem dc_J6_stringSize_0f7a4_35 : decode prog_18_method_13_code 35 = .ok (.istore_n 2, 1) := ky_dc db_J6_stringSize_0f7a4_0 17 rfl
theorem dc_J6_stringSize_0f7a4_36 : decode prog_18_method_13_code 36 = .ok (.iinc 3 1, 3) := ky_dc db_J6_stringSize_0f7a4_0 18 rfl
theorem dc_J6_stringSize_0f7a4_39 : decode prog_18_method_13_code 39 = .ok (.goto (-23), 3) := ky_dc db_J6_stringSize_0f7a4_0 19 rfl
theorem dc_J6_stringSize_0f7a4_42 : decode prog_18_method_13_code 42 = .ok (.bipush 10, 2) := ky_dc db_J6_stringSize_0f7a4_0 20 rfl
theorem dc_J6_stringSize_0f7a4_44 : decode prog_18_method_13_code 44 = .ok (.iload_n 1, 1) := ky_dc db_J6_stringSize_0f7a4_0 21 rfl
theorem dc_J6_stringSize_0f7a4_45 : decode prog_18_method_13_code 45 = .ok (.iadd, 1) := ky_dc db_J6_stringSize_0f7a4_0 22 rfl
theorem dc_J6_stringSize_0f7a4_46 : decode prog_18_method_13_code 46 = .ok (.ireturn, 1) := ky_dc db_J6_stringSize_0f7a4_0 23 rfl
theorem dc_J6_stringSize_0f7a4_27 : decode prog_18_method_13_code 27 = .ok (.iload_n 3, 1) := ky_dc db_J6_stringSize_0f7a4_0 24 rfl
theorem dc_J6_stringSize_0f7a4_28 : decode prog_18_method_13_code 28 = .ok (.iload_n 1, 1) := ky_dc db_J6_stringSize_0f7a4_0 25 rfl
theorem dc_J6_stringSize_0f7a4_29 : decode prog_18_method_13_code 29 = .ok (.iadd, 1) := ky_dc db_J6_stringSize_0f7a4_0 26 rfl
theorem dc_J6_stringSize_0f7a4_30 : decode prog_18_method_13_code 30 = .ok (.ireturn, 1) := ky_dc db_J6_stringSize_0f7a4_0 27 rfl
theorem dc_J6_stringSize_0f7a4_6 : decode prog_18_method_13_code 6 = .ok (.iconst 0, 1) := ky_dc db_J6_stringSize_0f7a4_0 28 rfl
theorem dc_J6_stringSize_0f7a4_7 : decode prog_18_method_13_code 7 = .ok (.istore_n 1, 1) := ky_dc db_J6_stringSize_0f7a4_0 29 rfl
theorem dc_J6_stringSize_0f7a4_8 : decode prog_18_method_13_code 8 = .ok (.iload_n 0, 1) := ky_dc db_J6_stringSize_0f7a4_0 30 rfl
theorem dc_J6_stringSize_0f7a4_9 : decode prog_18_method_13_code 9 = .ok (.ineg, 1) := ky_dc db_J6_stringSize_0f7a4_0 31 rfl
theorem dc_J6_stringSize_0f7a4_10 : decode prog_18_method_13_code 10 = .ok (.istore_n 0, 1) := ky_dc db_J6_stringSize_0f7a4_0 32 rfl
theorem dc_J13_stringSize_95d88_0 : decode prog_19_method_15_code 0 = .ok (.iconst 1, 1) := ky_dc db_J6_stringSize_0f7a4_0 33 rfl
theorem dc_J13_stringSize_95d88_1 : decode prog_19_method_15_code 1 = .ok (.istore_n 2, 1) := ky_dc db_J6_stringSize_0f7a4_0 34 rfl
theorem dc_J13_stringSize_95d88_2 : decode prog_19_method_15_code 2 = .ok (.lload_n 0, 1) := ky_dc db_J6_stringSize_0f7a4_0 35 rfl
theorem dc_J13_stringSize_95d88_3 : decode prog_19_method_15_code 3 = .ok (.lconst 0, 1) := ky_dc db_J6_stringSize_0f7a4_0 36 rfl
theorem dc_J13_stringSize_95d88_4 : decode prog_19_method_15_code 4 = .ok (.lcmp, 1) := ky_dc db_J6_stringSize_0f7a4_0 37 rfl
theorem dc_J13_stringSize_95d88_5 : decode prog_19_method_15_code 5 = .ok (.ifCond .lt 8, 3) := ky_dc db_J6_stringSize_0f7a4_0 38 rfl
theorem dc_J13_stringSize_95d88_13 : decode prog_19_method_15_code 13 = .ok (.ldc2_w 140, 3) := ky_dc db_J6_stringSize_0f7a4_0 39 rfl
theorem dc_J13_stringSize_95d88_16 : decode prog_19_method_15_code 16 = .ok (.lstore_n 3, 1) := ky_dc db_J6_stringSize_0f7a4_0 40 rfl
theorem dc_J13_stringSize_95d88_17 : decode prog_19_method_15_code 17 = .ok (.iconst 1, 1) := ky_dc db_J6_stringSize_0f7a4_0 41 rfl
theorem dc_J13_stringSize_95d88_18 : decode prog_19_method_15_code 18 = .ok (.istore 5, 2) := ky_dc db_J6_stringSize_0f7a4_0 42 rfl
theorem dc_J13_stringSize_95d88_20 : decode prog_19_method_15_code 20 = .ok (.iload 5, 2) := ky_dc db_J6_stringSize_0f7a4_0 43 rfl
theorem dc_J13_stringSize_95d88_22 : decode prog_19_method_15_code 22 = .ok (.bipush 19, 2) := ky_dc db_J6_stringSize_0f7a4_0 44 rfl
theorem dc_J13_stringSize_95d88_24 : decode prog_19_method_15_code 24 = .ok (.if_icmp .ge 26, 3) := ky_dc db_J6_stringSize_0f7a4_0 45 rfl
theorem dc_J13_stringSize_95d88_27 : decode prog_19_method_15_code 27 = .ok (.lload_n 0, 1) := ky_dc db_J6_stringSize_0f7a4_0 46 rfl
theorem dc_J13_stringSize_95d88_28 : decode prog_19_method_15_code 28 = .ok (.lload_n 3, 1) := ky_dc db_J6_stringSize_0f7a4_0 47 rfl
theorem dc_J13_stringSize_95d88_29 : decode prog_19_method_15_code 29 = .ok (.lcmp, 1) := ky_dc db_J6_stringSize_0f7a4_0 48 rfl
theorem dc_J13_stringSize_95d88_30 : decode prog_19_method_15_code 30 = .ok (.ifCond .le 8, 3) := ky_dc db_J6_stringSize_0f7a4_0 49 rfl
theorem dc_J13_stringSize_95d88_38 : decode prog_19_method_15_code 38 = .ok (.ldc2_w 53, 3) := ky_dc db_J6_stringSize_0f7a4_0 50 rfl
theorem dc_J13_stringSize_95d88_41 : decode prog_19_method_15_code 41 = .ok (.lload_n 3, 1) := ky_dc db_J6_stringSize_0f7a4_0 51 rfl
theorem dc_J13_stringSize_95d88_42 : decode prog_19_method_15_code 42 = .ok (.lmul, 1) := ky_dc db_J6_stringSize_0f7a4_0 52 rfl
theorem dc_J13_stringSize_95d88_43 : decode prog_19_method_15_code 43 = .ok (.lstore_n 3, 1) := ky_dc db_J6_stringSize_0f7a4_0 53 rfl
theorem dc_J13_stringSize_95d88_44 : decode prog_19_method_15_code 44 = .ok (.iinc 5 1, 3) := ky_dc db_J6_stringSize_0f7a4_0 54 rfl
theorem dc_J13_stringSize_95d88_47 : decode prog_19_method_15_code 47 = .ok (.goto (-27), 3) := ky_dc db_J6_stringSize_0f7a4_0 55 rfl
theorem dc_J13_stringSize_95d88_50 : decode prog_19_method_15_code 50 = .ok (.bipush 19, 2) := ky_dc db_J6_stringSize_0f7a4_0 56 rfl
theorem dc_J13_stringSize_95d88_52 : decode prog_19_method_15_code 52 = .ok (.iload_n 2, 1) := ky_dc db_J6_stringSize_0f7a4_0 57 rfl
theorem dc_J13_stringSize_95d88_53 : decode prog_19_method_15_code 53 = .ok (.iadd, 1) := ky_dc db_J6_stringSize_0f7a4_0 58 rfl
theorem dc_J13_stringSize_95d88_54 : decode prog_19_method_15_code 54 = .ok (.ireturn, 1) := ky_dc db_J6_stringSize_0f7a4_0 59 rfl
def dl_J13_stringSize_95d88_33 : List (ByteArray × Nat × Jvm.ClassFile.Instr × Nat) := [(prog_19_method_15_code, 33, .iload 5, 2), (prog_19_method_15_code, 35, .iload_n 2, 1), (prog_19_method_15_code, 36, .iadd, 1), (prog_19_method_15_code, 37, .ireturn, 1), (prog_19_method_15_code, 8, .iconst 0, 1), (prog_19_method_15_code, 9, .istore_n 2, 1), (prog_19_method_15_code, 10, .lload_n 0, 1), (prog_19_method_15_code, 11, .lneg, 1), (prog_19_method_15_code, 12, .lstore_n 0, 1)]
theorem db_J13_stringSize_95d88_33 : dl_J13_stringSize_95d88_33.all (fun x => decide (decode x.1 x.2.1 = .ok x.2.2)) = true := by decide +kernel
theorem dc_J13_stringSize_95d88_33 : decode prog_19_method_15_code 33 = .ok (.iload 5, 2) := ky_dc db_J13_stringSize_95d88_33 0 rfl
theorem dc_J13_stringSize_95d88_35 : decode prog_19_method_15_code 35 = .ok (.iload_n 2, 1) := ky_dc db_J13_stringSize_95d88_33 1 rfl
theorem dc_J13_stringSize_95d88_36 : decode prog_19_method_15_code 36 = .ok (.iadd, 1) := ky_dc db_J13_stringSize_95d88_33 2 rfl
theorem dc_J13_stringSize_95d88_37 : decode prog_19_method_15_code 37 = .ok (.ireturn, 1) := ky_dc db_J13_stringSize_95d88_33 3 rfl
theorem dc_J13_stringSize_95d88_8 : decode prog_19_method_15_code 8 = .ok (.iconst 0, 1) := ky_dc db_J13_stringSize_95d88_33 4 rfl
theorem dc_J13_stringSize_95d88_9 : decode prog_19_method_15_code 9 = .ok (.istore_n 2, 1) := ky_dc db_J13_stringSize_95d88_33 5 rfl
theorem dc_J13_stringSize_95d88_10 : decode prog_19_method_15_code 10 = .ok (.lload_n 0, 1) := ky_dc db_J13_stringSize_95d88_33 6 rfl
theorem dc_J13_stringSize_95d88_11 : decode prog_19_method_15_code 11 = .ok (.lneg, 1) := ky_dc db_J13_stringSize_95d88_33 7 rfl
theorem dc_J13_stringSize_95d88_12 : decode prog_19_method_15_code 12 = .ok (.lstore_n 0, 1) := ky_dc db_J13_stringSize_95d88_33 8 rfl
