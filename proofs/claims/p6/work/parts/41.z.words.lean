abbrev my_X1_isNoneBehind : MethodName := ⟨"Exactdoubles$Proof", "isNoneBehind", "(II)Z"⟩
abbrev my_X1_fillColumn : MethodName := ⟨"Exactdoubles$Proof", "fillColumn", "(IJ)V"⟩
abbrev my_X1_holdsForTwo : MethodName := ⟨"Exactdoubles$Proof", "holdsForTwo", "(IJIJ)Z"⟩
abbrev my_X1_holdsFor : MethodName := ⟨"Exactdoubles$Proof", "holdsFor", "([J)Z"⟩
theorem kw_1_94 : (Jvm.Cond.fieldLink "Exactdoubles$Proof" (13 : Nat) "Exactdoubles$Proof" "taken" "[[J") ∈ ky_B := ky_mem (kc_1 _ (List.mem_of_getElem? (i := 94) rfl)) (by decide +kernel)
theorem kw_3_177 : (Jvm.Cond.methodLink "Exactdoubles$Proof" (92 : Nat) ({ cls := "Exactdoubles$Take", name := "signFrom", desc := "(J)J" } : Jvm.MethodName)) ∈ ky_B := ky_mem (kc_3 _ (List.mem_of_getElem? (i := 177) rfl)) (by decide +kernel)
theorem kw_3_181 : (Jvm.Cond.methodLink "Exactdoubles$Proof" (95 : Nat) ({ cls := "Exactdoubles$Scale", name := "timesPower", desc := "(JI)J" } : Jvm.MethodName)) ∈ ky_B := ky_mem (kc_3 _ (List.mem_of_getElem? (i := 181) rfl)) (by decide +kernel)
theorem kw_3_191 : (Jvm.Cond.methodLink "Exactdoubles$Proof" (101 : Nat) ({ cls := "Exactdoubles$Whole", name := "roundFrom", desc := "(J)J" } : Jvm.MethodName)) ∈ ky_B := ky_mem (kc_3 _ (List.mem_of_getElem? (i := 191) rfl)) (by decide +kernel)
theorem kw_3_208 : (Jvm.Cond.methodLink "Exactdoubles$Proof" (106 : Nat) ({ cls := "Exactdoubles$Form", name := "lastOf", desc := "(JJ)J" } : Jvm.MethodName)) ∈ ky_B := ky_mem (kc_3 _ (List.mem_of_getElem? (i := 208) rfl)) (by decide +kernel)
theorem kw_3_209 : (Jvm.Cond.methodLink "Exactdoubles$Proof" (109 : Nat) ({ cls := "Exactdoubles$Form", name := "firstOf", desc := "(JJ)J" } : Jvm.MethodName)) ∈ ky_B := ky_mem (kc_3 _ (List.mem_of_getElem? (i := 209) rfl)) (by decide +kernel)
theorem kw_3_210 : (Jvm.Cond.methodLink "Exactdoubles$Proof" (112 : Nat) ({ cls := "Exactdoubles$Form", name := "rankIn", desc := "(J)J" } : Jvm.MethodName)) ∈ ky_B := ky_mem (kc_3 _ (List.mem_of_getElem? (i := 210) rfl)) (by decide +kernel)
theorem kw_3_211 : (Jvm.Cond.methodLink "Exactdoubles$Proof" (115 : Nat) ({ cls := "Exactdoubles$Proof", name := "isNoneBehind", desc := "(II)Z" } : Jvm.MethodName)) ∈ ky_B := ky_mem (kc_3 _ (List.mem_of_getElem? (i := 211) rfl)) (by decide +kernel)
theorem kw_3_213 : (Jvm.Cond.instanceMethod ({ cls := "Exactdoubles$Proof", name := "isNoneBehind", desc := "(II)Z" } : Jvm.MethodName)) ∈ ky_B := ky_mem (kc_3 _ (List.mem_of_getElem? (i := 213) rfl)) (by decide +kernel)
theorem kp_X1_isNoneBehind : (Jvm.Cond.selects "Exactdoubles$Proof" ({ cls := "Exactdoubles$Proof", name := "isNoneBehind", desc := "(II)Z" } : Jvm.MethodName) ({ cls := "Exactdoubles$Proof", name := "isNoneBehind", desc := "(II)Z" } : Jvm.MethodName)) ∈ ky_B := ky_mem (List.mem_append_left _ (List.mem_of_getElem? (i := 8) (by decide +kernel))) (by decide +kernel)
theorem kw_1_7 : (Jvm.Cond.initialized "Exactdoubles$Proof") ∈ ky_B := ky_mem (kc_1 _ (List.mem_of_getElem? (i := 7) rfl)) (by decide +kernel)
theorem kw_3_214 : (Jvm.Cond.code ({ cls := "Exactdoubles$Proof", name := "isNoneBehind", desc := "(II)Z" } : Jvm.MethodName) prog_3_method_9_code (4 : Nat) (Option.some Jvm.ClassFile.FieldType.boolean)) ∈ ky_B := ky_mem (kc_3 _ (List.mem_of_getElem? (i := 214) rfl)) (by decide +kernel)
theorem kw_3_204 : (Jvm.Cond.methodLink "Exactdoubles$Proof" (33 : Nat) ({ cls := "Exactdoubles$Proof", name := "holdsForTwo", desc := "(IJIJ)Z" } : Jvm.MethodName)) ∈ ky_B := ky_mem (kc_3 _ (List.mem_of_getElem? (i := 204) rfl)) (by decide +kernel)
theorem kw_3_206 : (Jvm.Cond.instanceMethod ({ cls := "Exactdoubles$Proof", name := "holdsForTwo", desc := "(IJIJ)Z" } : Jvm.MethodName)) ∈ ky_B := ky_mem (kc_3 _ (List.mem_of_getElem? (i := 206) rfl)) (by decide +kernel)
theorem kp_X1_holdsForTwo : (Jvm.Cond.selects "Exactdoubles$Proof" ({ cls := "Exactdoubles$Proof", name := "holdsForTwo", desc := "(IJIJ)Z" } : Jvm.MethodName) ({ cls := "Exactdoubles$Proof", name := "holdsForTwo", desc := "(IJIJ)Z" } : Jvm.MethodName)) ∈ ky_B := ky_mem (List.mem_append_left _ (List.mem_of_getElem? (i := 7) (by decide +kernel))) (by decide +kernel)
theorem kw_3_207 : (Jvm.Cond.code ({ cls := "Exactdoubles$Proof", name := "holdsForTwo", desc := "(IJIJ)Z" } : Jvm.MethodName) prog_3_method_8_code (12 : Nat) (Option.some Jvm.ClassFile.FieldType.boolean)) ∈ ky_B := ky_mem (kc_3 _ (List.mem_of_getElem? (i := 207) rfl)) (by decide +kernel)
theorem kw_3_90 : (Jvm.Cond.methodLink "Exactdoubles$Proof" (16 : Nat) ({ cls := "Exactdoubles$Proof", name := "areWholesRight", desc := "(J)Z" } : Jvm.MethodName)) ∈ ky_B := ky_mem (kc_3 _ (List.mem_of_getElem? (i := 90) rfl)) (by decide +kernel)
theorem kw_3_91 : (Jvm.Cond.static ({ cls := "Exactdoubles$Proof", name := "areWholesRight", desc := "(J)Z" } : Jvm.MethodName)) ∈ ky_B := ky_mem (kc_3 _ (List.mem_of_getElem? (i := 91) rfl)) (by decide +kernel)
theorem kw_3_92 : (Jvm.Cond.code ({ cls := "Exactdoubles$Proof", name := "areWholesRight", desc := "(J)Z" } : Jvm.MethodName) prog_3_method_3_code (8 : Nat) (Option.some Jvm.ClassFile.FieldType.boolean)) ∈ ky_B := ky_mem (kc_3 _ (List.mem_of_getElem? (i := 92) rfl)) (by decide +kernel)
theorem kw_3_133 : (Jvm.Cond.methodLink "Exactdoubles$Proof" (20 : Nat) ({ cls := "Exactdoubles$Proof", name := "isRintRight", desc := "(J)Z" } : Jvm.MethodName)) ∈ ky_B := ky_mem (kc_3 _ (List.mem_of_getElem? (i := 133) rfl)) (by decide +kernel)
theorem kw_3_134 : (Jvm.Cond.static ({ cls := "Exactdoubles$Proof", name := "isRintRight", desc := "(J)Z" } : Jvm.MethodName)) ∈ ky_B := ky_mem (kc_3 _ (List.mem_of_getElem? (i := 134) rfl)) (by decide +kernel)
theorem kw_3_135 : (Jvm.Cond.code ({ cls := "Exactdoubles$Proof", name := "isRintRight", desc := "(J)Z" } : Jvm.MethodName) prog_3_method_4_code (14 : Nat) (Option.some Jvm.ClassFile.FieldType.boolean)) ∈ ky_B := ky_mem (kc_3 _ (List.mem_of_getElem? (i := 135) rfl)) (by decide +kernel)
theorem kw_3_145 : (Jvm.Cond.methodLink "Exactdoubles$Proof" (23 : Nat) ({ cls := "Exactdoubles$Proof", name := "areNextRight", desc := "(J)Z" } : Jvm.MethodName)) ∈ ky_B := ky_mem (kc_3 _ (List.mem_of_getElem? (i := 145) rfl)) (by decide +kernel)
theorem kw_3_146 : (Jvm.Cond.static ({ cls := "Exactdoubles$Proof", name := "areNextRight", desc := "(J)Z" } : Jvm.MethodName)) ∈ ky_B := ky_mem (kc_3 _ (List.mem_of_getElem? (i := 146) rfl)) (by decide +kernel)
theorem kw_3_147 : (Jvm.Cond.code ({ cls := "Exactdoubles$Proof", name := "areNextRight", desc := "(J)Z" } : Jvm.MethodName) prog_3_method_5_code (9 : Nat) (Option.some Jvm.ClassFile.FieldType.boolean)) ∈ ky_B := ky_mem (kc_3 _ (List.mem_of_getElem? (i := 147) rfl)) (by decide +kernel)
theorem kw_3_159 : (Jvm.Cond.methodLink "Exactdoubles$Proof" (26 : Nat) ({ cls := "Exactdoubles$Proof", name := "arePartsRight", desc := "(J)Z" } : Jvm.MethodName)) ∈ ky_B := ky_mem (kc_3 _ (List.mem_of_getElem? (i := 159) rfl)) (by decide +kernel)
theorem kw_3_160 : (Jvm.Cond.static ({ cls := "Exactdoubles$Proof", name := "arePartsRight", desc := "(J)Z" } : Jvm.MethodName)) ∈ ky_B := ky_mem (kc_3 _ (List.mem_of_getElem? (i := 160) rfl)) (by decide +kernel)
theorem kw_3_161 : (Jvm.Cond.code ({ cls := "Exactdoubles$Proof", name := "arePartsRight", desc := "(J)Z" } : Jvm.MethodName) prog_3_method_6_code (5 : Nat) (Option.some Jvm.ClassFile.FieldType.boolean)) ∈ ky_B := ky_mem (kc_3 _ (List.mem_of_getElem? (i := 161) rfl)) (by decide +kernel)
theorem kw_3_173 : (Jvm.Cond.methodLink "Exactdoubles$Proof" (29 : Nat) ({ cls := "Exactdoubles$Proof", name := "fillColumn", desc := "(IJ)V" } : Jvm.MethodName)) ∈ ky_B := ky_mem (kc_3 _ (List.mem_of_getElem? (i := 173) rfl)) (by decide +kernel)
theorem kw_3_175 : (Jvm.Cond.instanceMethod ({ cls := "Exactdoubles$Proof", name := "fillColumn", desc := "(IJ)V" } : Jvm.MethodName)) ∈ ky_B := ky_mem (kc_3 _ (List.mem_of_getElem? (i := 175) rfl)) (by decide +kernel)
theorem kp_X1_fillColumn : (Jvm.Cond.selects "Exactdoubles$Proof" ({ cls := "Exactdoubles$Proof", name := "fillColumn", desc := "(IJ)V" } : Jvm.MethodName) ({ cls := "Exactdoubles$Proof", name := "fillColumn", desc := "(IJ)V" } : Jvm.MethodName)) ∈ ky_B := ky_mem (List.mem_append_left _ (List.mem_of_getElem? (i := 6) (by decide +kernel))) (by decide +kernel)
theorem kw_3_176 : (Jvm.Cond.code ({ cls := "Exactdoubles$Proof", name := "fillColumn", desc := "(IJ)V" } : Jvm.MethodName) prog_3_method_7_code (4 : Nat) (Option.none : Option Jvm.ClassFile.FieldType)) ∈ ky_B := ky_mem (kc_3 _ (List.mem_of_getElem? (i := 176) rfl)) (by decide +kernel)
theorem ks_X1_92 : ky_wS "Exactdoubles$Proof" 92 my_X4_signFrom prog_6_method_6_code 2 (Option.some Jvm.ClassFile.FieldType.long) 1 := ⟨kw_3_177, kw_3_178, kw_1_19, kw_3_179, by decide, by decide, by decide +kernel⟩
theorem ks_X1_95 : ky_wS "Exactdoubles$Proof" 95 my_X2_timesPower prog_4_method_2_code 4 (Option.some Jvm.ClassFile.FieldType.long) 2 := ⟨kw_3_181, kw_3_182, kw_1_17, kw_3_183, by decide, by decide, by decide +kernel⟩
theorem ks_X1_101 : ky_wS "Exactdoubles$Proof" 101 my_X5_roundFrom prog_7_method_3_code 7 (Option.some Jvm.ClassFile.FieldType.long) 1 := ⟨kw_3_191, kw_3_192, kw_1_29, kw_3_193, by decide, by decide, by decide +kernel⟩
theorem ks_X1_106 : ky_wS "Exactdoubles$Proof" 106 my_X0_lastOf prog_2_method_17_code 4 (Option.some Jvm.ClassFile.FieldType.long) 2 := ⟨kw_3_208, kw_1_126, kw_1_15, kw_1_127, by decide, by decide, by decide +kernel⟩
theorem ks_X1_109 : ky_wS "Exactdoubles$Proof" 109 my_X0_firstOf prog_2_method_18_code 4 (Option.some Jvm.ClassFile.FieldType.long) 2 := ⟨kw_3_209, kw_3_76, kw_1_15, kw_3_77, by decide, by decide, by decide +kernel⟩
theorem ks_X1_112 : ky_wS "Exactdoubles$Proof" 112 my_X0_rankIn prog_2_method_16_code 2 (Option.some Jvm.ClassFile.FieldType.long) 1 := ⟨kw_3_210, kw_1_129, kw_1_15, kw_1_130, by decide, by decide, by decide +kernel⟩
theorem kv_X1_115 : ky_wV "Exactdoubles$Proof" 115 my_X1_isNoneBehind prog_3_method_9_code 4 (Option.some Jvm.ClassFile.FieldType.boolean) 2 := ⟨kw_3_211, kw_3_213, kp_X1_isNoneBehind, kw_1_7, kw_3_214, by decide, by decide, by decide +kernel⟩
theorem kv_X1_33 : ky_wV "Exactdoubles$Proof" 33 my_X1_holdsForTwo prog_3_method_8_code 12 (Option.some Jvm.ClassFile.FieldType.boolean) 4 := ⟨kw_3_204, kw_3_206, kp_X1_holdsForTwo, kw_1_7, kw_3_207, by decide, by decide, by decide +kernel⟩
theorem ks_X1_16 : ky_wS "Exactdoubles$Proof" 16 my_X1_areWholesRight prog_3_method_3_code 8 (Option.some Jvm.ClassFile.FieldType.boolean) 1 := ⟨kw_3_90, kw_3_91, kw_1_7, kw_3_92, by decide, by decide, by decide +kernel⟩
theorem ks_X1_20 : ky_wS "Exactdoubles$Proof" 20 my_X1_isRintRight prog_3_method_4_code 14 (Option.some Jvm.ClassFile.FieldType.boolean) 1 := ⟨kw_3_133, kw_3_134, kw_1_7, kw_3_135, by decide, by decide, by decide +kernel⟩
theorem ks_X1_23 : ky_wS "Exactdoubles$Proof" 23 my_X1_areNextRight prog_3_method_5_code 9 (Option.some Jvm.ClassFile.FieldType.boolean) 1 := ⟨kw_3_145, kw_3_146, kw_1_7, kw_3_147, by decide, by decide, by decide +kernel⟩
theorem ks_X1_26 : ky_wS "Exactdoubles$Proof" 26 my_X1_arePartsRight prog_3_method_6_code 5 (Option.some Jvm.ClassFile.FieldType.boolean) 1 := ⟨kw_3_159, kw_3_160, kw_1_7, kw_3_161, by decide, by decide, by decide +kernel⟩
theorem kv_X1_29 : ky_wV "Exactdoubles$Proof" 29 my_X1_fillColumn prog_3_method_7_code 4 (Option.none : Option Jvm.ClassFile.FieldType) 2 := ⟨kw_3_173, kw_3_175, kp_X1_fillColumn, kw_1_7, kw_3_176, by decide, by decide, by decide +kernel⟩
def dl_X1_isNoneBehind_0 : List (ByteArray × Nat × Jvm.ClassFile.Instr × Nat) := [(prog_3_method_9_code, 0, .iconst 0, 1), (prog_3_method_9_code, 1, .istore_n 3, 1), (prog_3_method_9_code, 2, .iload_n 3, 1), (prog_3_method_9_code, 3, .bipush 8, 2), (prog_3_method_9_code, 5, .if_icmp .ge 31, 3), (prog_3_method_9_code, 8, .aload_n 0, 1), (prog_3_method_9_code, 9, .getfield 13, 3), (prog_3_method_9_code, 12, .iload_n 3, 1), (prog_3_method_9_code, 13, .aaload, 1), (prog_3_method_9_code, 14, .iload_n 1, 1), (prog_3_method_9_code, 15, .laload, 1), (prog_3_method_9_code, 16, .aload_n 0, 1), (prog_3_method_9_code, 17, .getfield 13, 3), (prog_3_method_9_code, 20, .iload_n 3, 1), (prog_3_method_9_code, 21, .aaload, 1), (prog_3_method_9_code, 22, .iload_n 2, 1), (prog_3_method_9_code, 23, .laload, 1), (prog_3_method_9_code, 24, .lcmp, 1), (prog_3_method_9_code, 25, .ifCond .le 5, 3), (prog_3_method_9_code, 30, .iinc 3 1, 3), (prog_3_method_9_code, 33, .goto (-31), 3), (prog_3_method_9_code, 36, .iconst 1, 1), (prog_3_method_9_code, 37, .ireturn, 1), (prog_3_method_9_code, 28, .iconst 0, 1), (prog_3_method_9_code, 29, .ireturn, 1), (prog_3_method_7_code, 0, .aload_n 0, 1), (prog_3_method_7_code, 1, .getfield 13, 3), (prog_3_method_7_code, 4, .iconst 0, 1), (prog_3_method_7_code, 5, .aaload, 1), (prog_3_method_7_code, 6, .iload_n 1, 1), (prog_3_method_7_code, 7, .lload_n 2, 1), (prog_3_method_7_code, 8, .invokestatic 37, 3), (prog_3_method_7_code, 11, .invokestatic 51, 3), (prog_3_method_7_code, 14, .lastore, 1), (prog_3_method_7_code, 15, .aload_n 0, 1), (prog_3_method_7_code, 16, .getfield 13, 3), (prog_3_method_7_code, 19, .iconst 1, 1), (prog_3_method_7_code, 20, .aaload, 1), (prog_3_method_7_code, 21, .iload_n 1, 1), (prog_3_method_7_code, 22, .lload_n 2, 1), (prog_3_method_7_code, 23, .invokestatic 43, 3), (prog_3_method_7_code, 26, .invokestatic 51, 3), (prog_3_method_7_code, 29, .lastore, 1), (prog_3_method_7_code, 30, .aload_n 0, 1), (prog_3_method_7_code, 31, .getfield 13, 3), (prog_3_method_7_code, 34, .iconst 2, 1), (prog_3_method_7_code, 35, .aaload, 1), (prog_3_method_7_code, 36, .iload_n 1, 1), (prog_3_method_7_code, 37, .lload_n 2, 1), (prog_3_method_7_code, 38, .invokestatic 54, 3), (prog_3_method_7_code, 41, .invokestatic 51, 3), (prog_3_method_7_code, 44, .lastore, 1), (prog_3_method_7_code, 45, .aload_n 0, 1), (prog_3_method_7_code, 46, .getfield 13, 3), (prog_3_method_7_code, 49, .iconst 3, 1), (prog_3_method_7_code, 50, .aaload, 1), (prog_3_method_7_code, 51, .iload_n 1, 1), (prog_3_method_7_code, 52, .lload_n 2, 1), (prog_3_method_7_code, 53, .invokestatic 67, 3), (prog_3_method_7_code, 56, .invokestatic 51, 3)]
theorem db_X1_isNoneBehind_0 : dl_X1_isNoneBehind_0.all (fun x => decide (decode x.1 x.2.1 = .ok x.2.2)) = true := by decide +kernel
theorem dc_X1_isNoneBehind_0 : decode prog_3_method_9_code 0 = .ok (.iconst 0, 1) := ky_dc db_X1_isNoneBehind_0 0 rfl
theorem dc_X1_isNoneBehind_1 : decode prog_3_method_9_code 1 = .ok (.istore_n 3, 1) := ky_dc db_X1_isNoneBehind_0 1 rfl
theorem dc_X1_isNoneBehind_2 : decode prog_3_method_9_code 2 = .ok (.iload_n 3, 1) := ky_dc db_X1_isNoneBehind_0 2 rfl
theorem dc_X1_isNoneBehind_3 : decode prog_3_method_9_code 3 = .ok (.bipush 8, 2) := ky_dc db_X1_isNoneBehind_0 3 rfl
theorem dc_X1_isNoneBehind_5 : decode prog_3_method_9_code 5 = .ok (.if_icmp .ge 31, 3) := ky_dc db_X1_isNoneBehind_0 4 rfl
theorem dc_X1_isNoneBehind_8 : decode prog_3_method_9_code 8 = .ok (.aload_n 0, 1) := ky_dc db_X1_isNoneBehind_0 5 rfl
theorem dc_X1_isNoneBehind_9 : decode prog_3_method_9_code 9 = .ok (.getfield 13, 3) := ky_dc db_X1_isNoneBehind_0 6 rfl
theorem dc_X1_isNoneBehind_12 : decode prog_3_method_9_code 12 = .ok (.iload_n 3, 1) := ky_dc db_X1_isNoneBehind_0 7 rfl
theorem dc_X1_isNoneBehind_13 : decode prog_3_method_9_code 13 = .ok (.aaload, 1) := ky_dc db_X1_isNoneBehind_0 8 rfl
theorem dc_X1_isNoneBehind_14 : decode prog_3_method_9_code 14 = .ok (.iload_n 1, 1) := ky_dc db_X1_isNoneBehind_0 9 rfl
theorem dc_X1_isNoneBehind_15 : decode prog_3_method_9_code 15 = .ok (.laload, 1) := ky_dc db_X1_isNoneBehind_0 10 rfl
theorem dc_X1_isNoneBehind_16 : decode prog_3_method_9_code 16 = .ok (.aload_n 0, 1) := ky_dc db_X1_isNoneBehind_0 11 rfl
theorem dc_X1_isNoneBehind_17 : decode prog_3_method_9_code 17 = .ok (.getfield 13, 3) := ky_dc db_X1_isNoneBehind_0 12 rfl
theorem dc_X1_isNoneBehind_20 : decode prog_3_method_9_code 20 = .ok (.iload_n 3, 1) := ky_dc db_X1_isNoneBehind_0 13 rfl
theorem dc_X1_isNoneBehind_21 : decode prog_3_method_9_code 21 = .ok (.aaload, 1) := ky_dc db_X1_isNoneBehind_0 14 rfl
theorem dc_X1_isNoneBehind_22 : decode prog_3_method_9_code 22 = .ok (.iload_n 2, 1) := ky_dc db_X1_isNoneBehind_0 15 rfl
theorem dc_X1_isNoneBehind_23 : decode prog_3_method_9_code 23 = .ok (.laload, 1) := ky_dc db_X1_isNoneBehind_0 16 rfl
theorem dc_X1_isNoneBehind_24 : decode prog_3_method_9_code 24 = .ok (.lcmp, 1) := ky_dc db_X1_isNoneBehind_0 17 rfl
theorem dc_X1_isNoneBehind_25 : decode prog_3_method_9_code 25 = .ok (.ifCond .le 5, 3) := ky_dc db_X1_isNoneBehind_0 18 rfl
theorem dc_X1_isNoneBehind_30 : decode prog_3_method_9_code 30 = .ok (.iinc 3 1, 3) := ky_dc db_X1_isNoneBehind_0 19 rfl
theorem dc_X1_isNoneBehind_33 : decode prog_3_method_9_code 33 = .ok (.goto (-31), 3) := ky_dc db_X1_isNoneBehind_0 20 rfl
theorem dc_X1_isNoneBehind_36 : decode prog_3_method_9_code 36 = .ok (.iconst 1, 1) := ky_dc db_X1_isNoneBehind_0 21 rfl
theorem dc_X1_isNoneBehind_37 : decode prog_3_method_9_code 37 = .ok (.ireturn, 1) := ky_dc db_X1_isNoneBehind_0 22 rfl
theorem dc_X1_isNoneBehind_28 : decode prog_3_method_9_code 28 = .ok (.iconst 0, 1) := ky_dc db_X1_isNoneBehind_0 23 rfl
theorem dc_X1_isNoneBehind_29 : decode prog_3_method_9_code 29 = .ok (.ireturn, 1) := ky_dc db_X1_isNoneBehind_0 24 rfl
theorem dc_X1_fillColumn_0 : decode prog_3_method_7_code 0 = .ok (.aload_n 0, 1) := ky_dc db_X1_isNoneBehind_0 25 rfl
theorem dc_X1_fillColumn_1 : decode prog_3_method_7_code 1 = .ok (.getfield 13, 3) := ky_dc db_X1_isNoneBehind_0 26 rfl
theorem dc_X1_fillColumn_4 : decode prog_3_method_7_code 4 = .ok (.iconst 0, 1) := ky_dc db_X1_isNoneBehind_0 27 rfl
theorem dc_X1_fillColumn_5 : decode prog_3_method_7_code 5 = .ok (.aaload, 1) := ky_dc db_X1_isNoneBehind_0 28 rfl
theorem dc_X1_fillColumn_6 : decode prog_3_method_7_code 6 = .ok (.iload_n 1, 1) := ky_dc db_X1_isNoneBehind_0 29 rfl
theorem dc_X1_fillColumn_7 : decode prog_3_method_7_code 7 = .ok (.lload_n 2, 1) := ky_dc db_X1_isNoneBehind_0 30 rfl
theorem dc_X1_fillColumn_8 : decode prog_3_method_7_code 8 = .ok (.invokestatic 37, 3) := ky_dc db_X1_isNoneBehind_0 31 rfl
theorem dc_X1_fillColumn_11 : decode prog_3_method_7_code 11 = .ok (.invokestatic 51, 3) := ky_dc db_X1_isNoneBehind_0 32 rfl
theorem dc_X1_fillColumn_14 : decode prog_3_method_7_code 14 = .ok (.lastore, 1) := ky_dc db_X1_isNoneBehind_0 33 rfl
theorem dc_X1_fillColumn_15 : decode prog_3_method_7_code 15 = .ok (.aload_n 0, 1) := ky_dc db_X1_isNoneBehind_0 34 rfl
theorem dc_X1_fillColumn_16 : decode prog_3_method_7_code 16 = .ok (.getfield 13, 3) := ky_dc db_X1_isNoneBehind_0 35 rfl
theorem dc_X1_fillColumn_19 : decode prog_3_method_7_code 19 = .ok (.iconst 1, 1) := ky_dc db_X1_isNoneBehind_0 36 rfl
theorem dc_X1_fillColumn_20 : decode prog_3_method_7_code 20 = .ok (.aaload, 1) := ky_dc db_X1_isNoneBehind_0 37 rfl
theorem dc_X1_fillColumn_21 : decode prog_3_method_7_code 21 = .ok (.iload_n 1, 1) := ky_dc db_X1_isNoneBehind_0 38 rfl
theorem dc_X1_fillColumn_22 : decode prog_3_method_7_code 22 = .ok (.lload_n 2, 1) := ky_dc db_X1_isNoneBehind_0 39 rfl
theorem dc_X1_fillColumn_23 : decode prog_3_method_7_code 23 = .ok (.invokestatic 43, 3) := ky_dc db_X1_isNoneBehind_0 40 rfl
theorem dc_X1_fillColumn_26 : decode prog_3_method_7_code 26 = .ok (.invokestatic 51, 3) := ky_dc db_X1_isNoneBehind_0 41 rfl
theorem dc_X1_fillColumn_29 : decode prog_3_method_7_code 29 = .ok (.lastore, 1) := ky_dc db_X1_isNoneBehind_0 42 rfl
theorem dc_X1_fillColumn_30 : decode prog_3_method_7_code 30 = .ok (.aload_n 0, 1) := ky_dc db_X1_isNoneBehind_0 43 rfl
theorem dc_X1_fillColumn_31 : decode prog_3_method_7_code 31 = .ok (.getfield 13, 3) := ky_dc db_X1_isNoneBehind_0 44 rfl
theorem dc_X1_fillColumn_34 : decode prog_3_method_7_code 34 = .ok (.iconst 2, 1) := ky_dc db_X1_isNoneBehind_0 45 rfl
theorem dc_X1_fillColumn_35 : decode prog_3_method_7_code 35 = .ok (.aaload, 1) := ky_dc db_X1_isNoneBehind_0 46 rfl
theorem dc_X1_fillColumn_36 : decode prog_3_method_7_code 36 = .ok (.iload_n 1, 1) := ky_dc db_X1_isNoneBehind_0 47 rfl
theorem dc_X1_fillColumn_37 : decode prog_3_method_7_code 37 = .ok (.lload_n 2, 1) := ky_dc db_X1_isNoneBehind_0 48 rfl
theorem dc_X1_fillColumn_38 : decode prog_3_method_7_code 38 = .ok (.invokestatic 54, 3) := ky_dc db_X1_isNoneBehind_0 49 rfl
theorem dc_X1_fillColumn_41 : decode prog_3_method_7_code 41 = .ok (.invokestatic 51, 3) := ky_dc db_X1_isNoneBehind_0 50 rfl
theorem dc_X1_fillColumn_44 : decode prog_3_method_7_code 44 = .ok (.lastore, 1) := ky_dc db_X1_isNoneBehind_0 51 rfl
theorem dc_X1_fillColumn_45 : decode prog_3_method_7_code 45 = .ok (.aload_n 0, 1) := ky_dc db_X1_isNoneBehind_0 52 rfl
theorem dc_X1_fillColumn_46 : decode prog_3_method_7_code 46 = .ok (.getfield 13, 3) := ky_dc db_X1_isNoneBehind_0 53 rfl
theorem dc_X1_fillColumn_49 : decode prog_3_method_7_code 49 = .ok (.iconst 3, 1) := ky_dc db_X1_isNoneBehind_0 54 rfl
theorem dc_X1_fillColumn_50 : decode prog_3_method_7_code 50 = .ok (.aaload, 1) := ky_dc db_X1_isNoneBehind_0 55 rfl
theorem dc_X1_fillColumn_51 : decode prog_3_method_7_code 51 = .ok (.iload_n 1, 1) := ky_dc db_X1_isNoneBehind_0 56 rfl
theorem dc_X1_fillColumn_52 : decode prog_3_method_7_code 52 = .ok (.lload_n 2, 1) := ky_dc db_X1_isNoneBehind_0 57 rfl
theorem dc_X1_fillColumn_53 : decode prog_3_method_7_code 53 = .ok (.invokestatic 67, 3) := ky_dc db_X1_isNoneBehind_0 58 rfl
theorem dc_X1_fillColumn_56 : decode prog_3_method_7_code 56 = .ok (.invokestatic 51, 3) := ky_dc db_X1_isNoneBehind_0 59 rfl
def dl_X1_fillColumn_59 : List (ByteArray × Nat × Jvm.ClassFile.Instr × Nat) := [(prog_3_method_7_code, 59, .lastore, 1), (prog_3_method_7_code, 60, .aload_n 0, 1), (prog_3_method_7_code, 61, .getfield 13, 3), (prog_3_method_7_code, 64, .iconst 4, 1), (prog_3_method_7_code, 65, .aaload, 1), (prog_3_method_7_code, 66, .iload_n 1, 1), (prog_3_method_7_code, 67, .lload_n 2, 1), (prog_3_method_7_code, 68, .invokestatic 70, 3), (prog_3_method_7_code, 71, .invokestatic 51, 3), (prog_3_method_7_code, 74, .lastore, 1), (prog_3_method_7_code, 75, .aload_n 0, 1), (prog_3_method_7_code, 76, .getfield 13, 3), (prog_3_method_7_code, 79, .iconst 5, 1), (prog_3_method_7_code, 80, .aaload, 1), (prog_3_method_7_code, 81, .iload_n 1, 1), (prog_3_method_7_code, 82, .lload_n 2, 1), (prog_3_method_7_code, 83, .invokestatic 92, 3), (prog_3_method_7_code, 86, .invokestatic 51, 3), (prog_3_method_7_code, 89, .lastore, 1), (prog_3_method_7_code, 90, .aload_n 0, 1), (prog_3_method_7_code, 91, .getfield 13, 3), (prog_3_method_7_code, 94, .bipush 6, 2), (prog_3_method_7_code, 96, .aaload, 1), (prog_3_method_7_code, 97, .iload_n 1, 1), (prog_3_method_7_code, 98, .lload_n 2, 1), (prog_3_method_7_code, 99, .iconst 5, 1), (prog_3_method_7_code, 100, .invokestatic 95, 3), (prog_3_method_7_code, 103, .invokestatic 51, 3), (prog_3_method_7_code, 106, .lastore, 1), (prog_3_method_7_code, 107, .aload_n 0, 1), (prog_3_method_7_code, 108, .getfield 13, 3), (prog_3_method_7_code, 111, .bipush 7, 2), (prog_3_method_7_code, 113, .aaload, 1), (prog_3_method_7_code, 114, .iload_n 1, 1), (prog_3_method_7_code, 115, .lload_n 2, 1), (prog_3_method_7_code, 116, .invokestatic 101, 3), (prog_3_method_7_code, 119, .lastore, 1), (prog_3_method_7_code, 120, .return_, 1), (prog_3_method_8_code, 0, .lload_n 2, 1), (prog_3_method_8_code, 1, .lload 5, 2), (prog_3_method_8_code, 3, .invokestatic 106, 3), (prog_3_method_8_code, 6, .lstore 7, 2), (prog_3_method_8_code, 8, .lload_n 2, 1), (prog_3_method_8_code, 9, .lload 5, 2), (prog_3_method_8_code, 11, .invokestatic 109, 3), (prog_3_method_8_code, 14, .lstore 9, 2), (prog_3_method_8_code, 16, .lload 7, 2), (prog_3_method_8_code, 18, .lload_n 2, 1), (prog_3_method_8_code, 19, .lcmp, 1), (prog_3_method_8_code, 20, .ifCond .ne 11, 3), (prog_3_method_8_code, 31, .lload 7, 2), (prog_3_method_8_code, 33, .lload 5, 2), (prog_3_method_8_code, 35, .lcmp, 1), (prog_3_method_8_code, 36, .ifCond .ne 14, 3), (prog_3_method_8_code, 50, .iconst 0, 1), (prog_3_method_8_code, 51, .istore 11, 2), (prog_3_method_8_code, 53, .iload 11, 2), (prog_3_method_8_code, 55, .ifCond .eq 30, 3), (prog_3_method_8_code, 85, .iconst 0, 1), (prog_3_method_8_code, 86, .ireturn, 1)]
theorem db_X1_fillColumn_59 : dl_X1_fillColumn_59.all (fun x => decide (decode x.1 x.2.1 = .ok x.2.2)) = true := by decide +kernel
theorem dc_X1_fillColumn_59 : decode prog_3_method_7_code 59 = .ok (.lastore, 1) := ky_dc db_X1_fillColumn_59 0 rfl
theorem dc_X1_fillColumn_60 : decode prog_3_method_7_code 60 = .ok (.aload_n 0, 1) := ky_dc db_X1_fillColumn_59 1 rfl
theorem dc_X1_fillColumn_61 : decode prog_3_method_7_code 61 = .ok (.getfield 13, 3) := ky_dc db_X1_fillColumn_59 2 rfl
theorem dc_X1_fillColumn_64 : decode prog_3_method_7_code 64 = .ok (.iconst 4, 1) := ky_dc db_X1_fillColumn_59 3 rfl
theorem dc_X1_fillColumn_65 : decode prog_3_method_7_code 65 = .ok (.aaload, 1) := ky_dc db_X1_fillColumn_59 4 rfl
theorem dc_X1_fillColumn_66 : decode prog_3_method_7_code 66 = .ok (.iload_n 1, 1) := ky_dc db_X1_fillColumn_59 5 rfl
theorem dc_X1_fillColumn_67 : decode prog_3_method_7_code 67 = .ok (.lload_n 2, 1) := ky_dc db_X1_fillColumn_59 6 rfl
theorem dc_X1_fillColumn_68 : decode prog_3_method_7_code 68 = .ok (.invokestatic 70, 3) := ky_dc db_X1_fillColumn_59 7 rfl
theorem dc_X1_fillColumn_71 : decode prog_3_method_7_code 71 = .ok (.invokestatic 51, 3) := ky_dc db_X1_fillColumn_59 8 rfl
theorem dc_X1_fillColumn_74 : decode prog_3_method_7_code 74 = .ok (.lastore, 1) := ky_dc db_X1_fillColumn_59 9 rfl
theorem dc_X1_fillColumn_75 : decode prog_3_method_7_code 75 = .ok (.aload_n 0, 1) := ky_dc db_X1_fillColumn_59 10 rfl
theorem dc_X1_fillColumn_76 : decode prog_3_method_7_code 76 = .ok (.getfield 13, 3) := ky_dc db_X1_fillColumn_59 11 rfl
theorem dc_X1_fillColumn_79 : decode prog_3_method_7_code 79 = .ok (.iconst 5, 1) := ky_dc db_X1_fillColumn_59 12 rfl
theorem dc_X1_fillColumn_80 : decode prog_3_method_7_code 80 = .ok (.aaload, 1) := ky_dc db_X1_fillColumn_59 13 rfl
theorem dc_X1_fillColumn_81 : decode prog_3_method_7_code 81 = .ok (.iload_n 1, 1) := ky_dc db_X1_fillColumn_59 14 rfl
theorem dc_X1_fillColumn_82 : decode prog_3_method_7_code 82 = .ok (.lload_n 2, 1) := ky_dc db_X1_fillColumn_59 15 rfl
theorem dc_X1_fillColumn_83 : decode prog_3_method_7_code 83 = .ok (.invokestatic 92, 3) := ky_dc db_X1_fillColumn_59 16 rfl
theorem dc_X1_fillColumn_86 : decode prog_3_method_7_code 86 = .ok (.invokestatic 51, 3) := ky_dc db_X1_fillColumn_59 17 rfl
theorem dc_X1_fillColumn_89 : decode prog_3_method_7_code 89 = .ok (.lastore, 1) := ky_dc db_X1_fillColumn_59 18 rfl
theorem dc_X1_fillColumn_90 : decode prog_3_method_7_code 90 = .ok (.aload_n 0, 1) := ky_dc db_X1_fillColumn_59 19 rfl
theorem dc_X1_fillColumn_91 : decode prog_3_method_7_code 91 = .ok (.getfield 13, 3) := ky_dc db_X1_fillColumn_59 20 rfl
theorem dc_X1_fillColumn_94 : decode prog_3_method_7_code 94 = .ok (.bipush 6, 2) := ky_dc db_X1_fillColumn_59 21 rfl
theorem dc_X1_fillColumn_96 : decode prog_3_method_7_code 96 = .ok (.aaload, 1) := ky_dc db_X1_fillColumn_59 22 rfl
theorem dc_X1_fillColumn_97 : decode prog_3_method_7_code 97 = .ok (.iload_n 1, 1) := ky_dc db_X1_fillColumn_59 23 rfl
theorem dc_X1_fillColumn_98 : decode prog_3_method_7_code 98 = .ok (.lload_n 2, 1) := ky_dc db_X1_fillColumn_59 24 rfl
theorem dc_X1_fillColumn_99 : decode prog_3_method_7_code 99 = .ok (.iconst 5, 1) := ky_dc db_X1_fillColumn_59 25 rfl
theorem dc_X1_fillColumn_100 : decode prog_3_method_7_code 100 = .ok (.invokestatic 95, 3) := ky_dc db_X1_fillColumn_59 26 rfl
theorem dc_X1_fillColumn_103 : decode prog_3_method_7_code 103 = .ok (.invokestatic 51, 3) := ky_dc db_X1_fillColumn_59 27 rfl
theorem dc_X1_fillColumn_106 : decode prog_3_method_7_code 106 = .ok (.lastore, 1) := ky_dc db_X1_fillColumn_59 28 rfl
theorem dc_X1_fillColumn_107 : decode prog_3_method_7_code 107 = .ok (.aload_n 0, 1) := ky_dc db_X1_fillColumn_59 29 rfl
theorem dc_X1_fillColumn_108 : decode prog_3_method_7_code 108 = .ok (.getfield 13, 3) := ky_dc db_X1_fillColumn_59 30 rfl
theorem dc_X1_fillColumn_111 : decode prog_3_method_7_code 111 = .ok (.bipush 7, 2) := ky_dc db_X1_fillColumn_59 31 rfl
theorem dc_X1_fillColumn_113 : decode prog_3_method_7_code 113 = .ok (.aaload, 1) := ky_dc db_X1_fillColumn_59 32 rfl
theorem dc_X1_fillColumn_114 : decode prog_3_method_7_code 114 = .ok (.iload_n 1, 1) := ky_dc db_X1_fillColumn_59 33 rfl
theorem dc_X1_fillColumn_115 : decode prog_3_method_7_code 115 = .ok (.lload_n 2, 1) := ky_dc db_X1_fillColumn_59 34 rfl
theorem dc_X1_fillColumn_116 : decode prog_3_method_7_code 116 = .ok (.invokestatic 101, 3) := ky_dc db_X1_fillColumn_59 35 rfl
theorem dc_X1_fillColumn_119 : decode prog_3_method_7_code 119 = .ok (.lastore, 1) := ky_dc db_X1_fillColumn_59 36 rfl
theorem dc_X1_fillColumn_120 : decode prog_3_method_7_code 120 = .ok (.return_, 1) := ky_dc db_X1_fillColumn_59 37 rfl
theorem dc_X1_holdsForTwo_0 : decode prog_3_method_8_code 0 = .ok (.lload_n 2, 1) := ky_dc db_X1_fillColumn_59 38 rfl
theorem dc_X1_holdsForTwo_1 : decode prog_3_method_8_code 1 = .ok (.lload 5, 2) := ky_dc db_X1_fillColumn_59 39 rfl
theorem dc_X1_holdsForTwo_3 : decode prog_3_method_8_code 3 = .ok (.invokestatic 106, 3) := ky_dc db_X1_fillColumn_59 40 rfl
theorem dc_X1_holdsForTwo_6 : decode prog_3_method_8_code 6 = .ok (.lstore 7, 2) := ky_dc db_X1_fillColumn_59 41 rfl
theorem dc_X1_holdsForTwo_8 : decode prog_3_method_8_code 8 = .ok (.lload_n 2, 1) := ky_dc db_X1_fillColumn_59 42 rfl
theorem dc_X1_holdsForTwo_9 : decode prog_3_method_8_code 9 = .ok (.lload 5, 2) := ky_dc db_X1_fillColumn_59 43 rfl
theorem dc_X1_holdsForTwo_11 : decode prog_3_method_8_code 11 = .ok (.invokestatic 109, 3) := ky_dc db_X1_fillColumn_59 44 rfl
theorem dc_X1_holdsForTwo_14 : decode prog_3_method_8_code 14 = .ok (.lstore 9, 2) := ky_dc db_X1_fillColumn_59 45 rfl
theorem dc_X1_holdsForTwo_16 : decode prog_3_method_8_code 16 = .ok (.lload 7, 2) := ky_dc db_X1_fillColumn_59 46 rfl
theorem dc_X1_holdsForTwo_18 : decode prog_3_method_8_code 18 = .ok (.lload_n 2, 1) := ky_dc db_X1_fillColumn_59 47 rfl
theorem dc_X1_holdsForTwo_19 : decode prog_3_method_8_code 19 = .ok (.lcmp, 1) := ky_dc db_X1_fillColumn_59 48 rfl
theorem dc_X1_holdsForTwo_20 : decode prog_3_method_8_code 20 = .ok (.ifCond .ne 11, 3) := ky_dc db_X1_fillColumn_59 49 rfl
theorem dc_X1_holdsForTwo_31 : decode prog_3_method_8_code 31 = .ok (.lload 7, 2) := ky_dc db_X1_fillColumn_59 50 rfl
theorem dc_X1_holdsForTwo_33 : decode prog_3_method_8_code 33 = .ok (.lload 5, 2) := ky_dc db_X1_fillColumn_59 51 rfl
theorem dc_X1_holdsForTwo_35 : decode prog_3_method_8_code 35 = .ok (.lcmp, 1) := ky_dc db_X1_fillColumn_59 52 rfl
theorem dc_X1_holdsForTwo_36 : decode prog_3_method_8_code 36 = .ok (.ifCond .ne 14, 3) := ky_dc db_X1_fillColumn_59 53 rfl
theorem dc_X1_holdsForTwo_50 : decode prog_3_method_8_code 50 = .ok (.iconst 0, 1) := ky_dc db_X1_fillColumn_59 54 rfl
theorem dc_X1_holdsForTwo_51 : decode prog_3_method_8_code 51 = .ok (.istore 11, 2) := ky_dc db_X1_fillColumn_59 55 rfl
theorem dc_X1_holdsForTwo_53 : decode prog_3_method_8_code 53 = .ok (.iload 11, 2) := ky_dc db_X1_fillColumn_59 56 rfl
theorem dc_X1_holdsForTwo_55 : decode prog_3_method_8_code 55 = .ok (.ifCond .eq 30, 3) := ky_dc db_X1_fillColumn_59 57 rfl
theorem dc_X1_holdsForTwo_85 : decode prog_3_method_8_code 85 = .ok (.iconst 0, 1) := ky_dc db_X1_fillColumn_59 58 rfl
theorem dc_X1_holdsForTwo_86 : decode prog_3_method_8_code 86 = .ok (.ireturn, 1) := ky_dc db_X1_fillColumn_59 59 rfl
def dl_X1_holdsForTwo_39 : List (ByteArray × Nat × Jvm.ClassFile.Instr × Nat) := [(prog_3_method_8_code, 39, .lload 9, 2), (prog_3_method_8_code, 41, .lload_n 2, 1), (prog_3_method_8_code, 42, .lcmp, 1), (prog_3_method_8_code, 43, .ifCond .ne 7, 3), (prog_3_method_8_code, 46, .iconst 1, 1), (prog_3_method_8_code, 47, .goto 4, 3), (prog_3_method_8_code, 58, .lload_n 2, 1), (prog_3_method_8_code, 59, .invokestatic 112, 3), (prog_3_method_8_code, 62, .lload 5, 2), (prog_3_method_8_code, 64, .invokestatic 112, 3), (prog_3_method_8_code, 67, .lcmp, 1), (prog_3_method_8_code, 68, .ifCond .gt 13, 3), (prog_3_method_8_code, 81, .iconst 1, 1), (prog_3_method_8_code, 82, .goto 4, 3), (prog_3_method_8_code, 71, .aload_n 0, 1), (prog_3_method_8_code, 72, .iload_n 1, 1), (prog_3_method_8_code, 73, .iload 4, 2), (prog_3_method_8_code, 75, .invokevirtual 115, 3), (prog_3_method_8_code, 78, .ifCond .eq 7, 3), (prog_3_method_8_code, 23, .lload 9, 2), (prog_3_method_8_code, 25, .lload 5, 2), (prog_3_method_8_code, 27, .lcmp, 1), (prog_3_method_8_code, 28, .ifCond .eq 18, 3), (prog_3_method_2_code, 0, .aload_n 1, 1), (prog_3_method_2_code, 1, .arraylength, 1), (prog_3_method_2_code, 2, .bipush 6, 2), (prog_3_method_2_code, 4, .if_icmp .eq 5, 3), (prog_3_method_2_code, 9, .iconst 0, 1), (prog_3_method_2_code, 10, .istore_n 2, 1), (prog_3_method_2_code, 11, .iload_n 2, 1), (prog_3_method_2_code, 12, .bipush 6, 2), (prog_3_method_2_code, 14, .if_icmp .ge 49, 3), (prog_3_method_2_code, 63, .iconst 0, 1), (prog_3_method_2_code, 64, .istore_n 2, 1), (prog_3_method_2_code, 65, .iload_n 2, 1), (prog_3_method_2_code, 66, .bipush 6, 2), (prog_3_method_2_code, 68, .if_icmp .ge 40, 3), (prog_3_method_2_code, 108, .iconst 1, 1), (prog_3_method_2_code, 109, .ireturn, 1), (prog_3_method_2_code, 71, .iconst 0, 1), (prog_3_method_2_code, 72, .istore_n 3, 1), (prog_3_method_2_code, 73, .iload_n 3, 1), (prog_3_method_2_code, 74, .bipush 6, 2), (prog_3_method_2_code, 76, .if_icmp .ge 26, 3), (prog_3_method_2_code, 79, .aload_n 0, 1), (prog_3_method_2_code, 80, .iload_n 2, 1), (prog_3_method_2_code, 81, .aload_n 1, 1), (prog_3_method_2_code, 82, .iload_n 2, 1), (prog_3_method_2_code, 83, .laload, 1), (prog_3_method_2_code, 84, .iload_n 3, 1), (prog_3_method_2_code, 85, .aload_n 1, 1), (prog_3_method_2_code, 86, .iload_n 3, 1), (prog_3_method_2_code, 87, .laload, 1), (prog_3_method_2_code, 88, .invokevirtual 33, 3), (prog_3_method_2_code, 91, .ifCond .ne 5, 3), (prog_3_method_2_code, 96, .iinc 3 1, 3), (prog_3_method_2_code, 99, .goto (-26), 3), (prog_3_method_2_code, 102, .iinc 2 1, 3), (prog_3_method_2_code, 105, .goto (-40), 3), (prog_3_method_2_code, 94, .iconst 0, 1)]
theorem db_X1_holdsForTwo_39 : dl_X1_holdsForTwo_39.all (fun x => decide (decode x.1 x.2.1 = .ok x.2.2)) = true := by decide +kernel
theorem dc_X1_holdsForTwo_39 : decode prog_3_method_8_code 39 = .ok (.lload 9, 2) := ky_dc db_X1_holdsForTwo_39 0 rfl
theorem dc_X1_holdsForTwo_41 : decode prog_3_method_8_code 41 = .ok (.lload_n 2, 1) := ky_dc db_X1_holdsForTwo_39 1 rfl
theorem dc_X1_holdsForTwo_42 : decode prog_3_method_8_code 42 = .ok (.lcmp, 1) := ky_dc db_X1_holdsForTwo_39 2 rfl
theorem dc_X1_holdsForTwo_43 : decode prog_3_method_8_code 43 = .ok (.ifCond .ne 7, 3) := ky_dc db_X1_holdsForTwo_39 3 rfl
theorem dc_X1_holdsForTwo_46 : decode prog_3_method_8_code 46 = .ok (.iconst 1, 1) := ky_dc db_X1_holdsForTwo_39 4 rfl
theorem dc_X1_holdsForTwo_47 : decode prog_3_method_8_code 47 = .ok (.goto 4, 3) := ky_dc db_X1_holdsForTwo_39 5 rfl
theorem dc_X1_holdsForTwo_58 : decode prog_3_method_8_code 58 = .ok (.lload_n 2, 1) := ky_dc db_X1_holdsForTwo_39 6 rfl
theorem dc_X1_holdsForTwo_59 : decode prog_3_method_8_code 59 = .ok (.invokestatic 112, 3) := ky_dc db_X1_holdsForTwo_39 7 rfl
theorem dc_X1_holdsForTwo_62 : decode prog_3_method_8_code 62 = .ok (.lload 5, 2) := ky_dc db_X1_holdsForTwo_39 8 rfl
theorem dc_X1_holdsForTwo_64 : decode prog_3_method_8_code 64 = .ok (.invokestatic 112, 3) := ky_dc db_X1_holdsForTwo_39 9 rfl
theorem dc_X1_holdsForTwo_67 : decode prog_3_method_8_code 67 = .ok (.lcmp, 1) := ky_dc db_X1_holdsForTwo_39 10 rfl
theorem dc_X1_holdsForTwo_68 : decode prog_3_method_8_code 68 = .ok (.ifCond .gt 13, 3) := ky_dc db_X1_holdsForTwo_39 11 rfl
theorem dc_X1_holdsForTwo_81 : decode prog_3_method_8_code 81 = .ok (.iconst 1, 1) := ky_dc db_X1_holdsForTwo_39 12 rfl
theorem dc_X1_holdsForTwo_82 : decode prog_3_method_8_code 82 = .ok (.goto 4, 3) := ky_dc db_X1_holdsForTwo_39 13 rfl
theorem dc_X1_holdsForTwo_71 : decode prog_3_method_8_code 71 = .ok (.aload_n 0, 1) := ky_dc db_X1_holdsForTwo_39 14 rfl
theorem dc_X1_holdsForTwo_72 : decode prog_3_method_8_code 72 = .ok (.iload_n 1, 1) := ky_dc db_X1_holdsForTwo_39 15 rfl
theorem dc_X1_holdsForTwo_73 : decode prog_3_method_8_code 73 = .ok (.iload 4, 2) := ky_dc db_X1_holdsForTwo_39 16 rfl
theorem dc_X1_holdsForTwo_75 : decode prog_3_method_8_code 75 = .ok (.invokevirtual 115, 3) := ky_dc db_X1_holdsForTwo_39 17 rfl
theorem dc_X1_holdsForTwo_78 : decode prog_3_method_8_code 78 = .ok (.ifCond .eq 7, 3) := ky_dc db_X1_holdsForTwo_39 18 rfl
theorem dc_X1_holdsForTwo_23 : decode prog_3_method_8_code 23 = .ok (.lload 9, 2) := ky_dc db_X1_holdsForTwo_39 19 rfl
theorem dc_X1_holdsForTwo_25 : decode prog_3_method_8_code 25 = .ok (.lload 5, 2) := ky_dc db_X1_holdsForTwo_39 20 rfl
theorem dc_X1_holdsForTwo_27 : decode prog_3_method_8_code 27 = .ok (.lcmp, 1) := ky_dc db_X1_holdsForTwo_39 21 rfl
theorem dc_X1_holdsForTwo_28 : decode prog_3_method_8_code 28 = .ok (.ifCond .eq 18, 3) := ky_dc db_X1_holdsForTwo_39 22 rfl
theorem dc_X1_holdsFor_0 : decode prog_3_method_2_code 0 = .ok (.aload_n 1, 1) := ky_dc db_X1_holdsForTwo_39 23 rfl
theorem dc_X1_holdsFor_1 : decode prog_3_method_2_code 1 = .ok (.arraylength, 1) := ky_dc db_X1_holdsForTwo_39 24 rfl
theorem dc_X1_holdsFor_2 : decode prog_3_method_2_code 2 = .ok (.bipush 6, 2) := ky_dc db_X1_holdsForTwo_39 25 rfl
theorem dc_X1_holdsFor_4 : decode prog_3_method_2_code 4 = .ok (.if_icmp .eq 5, 3) := ky_dc db_X1_holdsForTwo_39 26 rfl
theorem dc_X1_holdsFor_9 : decode prog_3_method_2_code 9 = .ok (.iconst 0, 1) := ky_dc db_X1_holdsForTwo_39 27 rfl
theorem dc_X1_holdsFor_10 : decode prog_3_method_2_code 10 = .ok (.istore_n 2, 1) := ky_dc db_X1_holdsForTwo_39 28 rfl
theorem dc_X1_holdsFor_11 : decode prog_3_method_2_code 11 = .ok (.iload_n 2, 1) := ky_dc db_X1_holdsForTwo_39 29 rfl
theorem dc_X1_holdsFor_12 : decode prog_3_method_2_code 12 = .ok (.bipush 6, 2) := ky_dc db_X1_holdsForTwo_39 30 rfl
theorem dc_X1_holdsFor_14 : decode prog_3_method_2_code 14 = .ok (.if_icmp .ge 49, 3) := ky_dc db_X1_holdsForTwo_39 31 rfl
theorem dc_X1_holdsFor_63 : decode prog_3_method_2_code 63 = .ok (.iconst 0, 1) := ky_dc db_X1_holdsForTwo_39 32 rfl
theorem dc_X1_holdsFor_64 : decode prog_3_method_2_code 64 = .ok (.istore_n 2, 1) := ky_dc db_X1_holdsForTwo_39 33 rfl
theorem dc_X1_holdsFor_65 : decode prog_3_method_2_code 65 = .ok (.iload_n 2, 1) := ky_dc db_X1_holdsForTwo_39 34 rfl
theorem dc_X1_holdsFor_66 : decode prog_3_method_2_code 66 = .ok (.bipush 6, 2) := ky_dc db_X1_holdsForTwo_39 35 rfl
theorem dc_X1_holdsFor_68 : decode prog_3_method_2_code 68 = .ok (.if_icmp .ge 40, 3) := ky_dc db_X1_holdsForTwo_39 36 rfl
theorem dc_X1_holdsFor_108 : decode prog_3_method_2_code 108 = .ok (.iconst 1, 1) := ky_dc db_X1_holdsForTwo_39 37 rfl
theorem dc_X1_holdsFor_109 : decode prog_3_method_2_code 109 = .ok (.ireturn, 1) := ky_dc db_X1_holdsForTwo_39 38 rfl
theorem dc_X1_holdsFor_71 : decode prog_3_method_2_code 71 = .ok (.iconst 0, 1) := ky_dc db_X1_holdsForTwo_39 39 rfl
theorem dc_X1_holdsFor_72 : decode prog_3_method_2_code 72 = .ok (.istore_n 3, 1) := ky_dc db_X1_holdsForTwo_39 40 rfl
theorem dc_X1_holdsFor_73 : decode prog_3_method_2_code 73 = .ok (.iload_n 3, 1) := ky_dc db_X1_holdsForTwo_39 41 rfl
theorem dc_X1_holdsFor_74 : decode prog_3_method_2_code 74 = .ok (.bipush 6, 2) := ky_dc db_X1_holdsForTwo_39 42 rfl
theorem dc_X1_holdsFor_76 : decode prog_3_method_2_code 76 = .ok (.if_icmp .ge 26, 3) := ky_dc db_X1_holdsForTwo_39 43 rfl
theorem dc_X1_holdsFor_79 : decode prog_3_method_2_code 79 = .ok (.aload_n 0, 1) := ky_dc db_X1_holdsForTwo_39 44 rfl
theorem dc_X1_holdsFor_80 : decode prog_3_method_2_code 80 = .ok (.iload_n 2, 1) := ky_dc db_X1_holdsForTwo_39 45 rfl
theorem dc_X1_holdsFor_81 : decode prog_3_method_2_code 81 = .ok (.aload_n 1, 1) := ky_dc db_X1_holdsForTwo_39 46 rfl
theorem dc_X1_holdsFor_82 : decode prog_3_method_2_code 82 = .ok (.iload_n 2, 1) := ky_dc db_X1_holdsForTwo_39 47 rfl
theorem dc_X1_holdsFor_83 : decode prog_3_method_2_code 83 = .ok (.laload, 1) := ky_dc db_X1_holdsForTwo_39 48 rfl
theorem dc_X1_holdsFor_84 : decode prog_3_method_2_code 84 = .ok (.iload_n 3, 1) := ky_dc db_X1_holdsForTwo_39 49 rfl
theorem dc_X1_holdsFor_85 : decode prog_3_method_2_code 85 = .ok (.aload_n 1, 1) := ky_dc db_X1_holdsForTwo_39 50 rfl
theorem dc_X1_holdsFor_86 : decode prog_3_method_2_code 86 = .ok (.iload_n 3, 1) := ky_dc db_X1_holdsForTwo_39 51 rfl
theorem dc_X1_holdsFor_87 : decode prog_3_method_2_code 87 = .ok (.laload, 1) := ky_dc db_X1_holdsForTwo_39 52 rfl
theorem dc_X1_holdsFor_88 : decode prog_3_method_2_code 88 = .ok (.invokevirtual 33, 3) := ky_dc db_X1_holdsForTwo_39 53 rfl
theorem dc_X1_holdsFor_91 : decode prog_3_method_2_code 91 = .ok (.ifCond .ne 5, 3) := ky_dc db_X1_holdsForTwo_39 54 rfl
theorem dc_X1_holdsFor_96 : decode prog_3_method_2_code 96 = .ok (.iinc 3 1, 3) := ky_dc db_X1_holdsForTwo_39 55 rfl
theorem dc_X1_holdsFor_99 : decode prog_3_method_2_code 99 = .ok (.goto (-26), 3) := ky_dc db_X1_holdsForTwo_39 56 rfl
theorem dc_X1_holdsFor_102 : decode prog_3_method_2_code 102 = .ok (.iinc 2 1, 3) := ky_dc db_X1_holdsForTwo_39 57 rfl
theorem dc_X1_holdsFor_105 : decode prog_3_method_2_code 105 = .ok (.goto (-40), 3) := ky_dc db_X1_holdsForTwo_39 58 rfl
theorem dc_X1_holdsFor_94 : decode prog_3_method_2_code 94 = .ok (.iconst 0, 1) := ky_dc db_X1_holdsForTwo_39 59 rfl
def dl_X1_holdsFor_95 : List (ByteArray × Nat × Jvm.ClassFile.Instr × Nat) := [(prog_3_method_2_code, 95, .ireturn, 1), (prog_3_method_2_code, 17, .aload_n 1, 1), (prog_3_method_2_code, 18, .iload_n 2, 1), (prog_3_method_2_code, 19, .laload, 1), (prog_3_method_2_code, 20, .lstore_n 3, 1), (prog_3_method_2_code, 21, .lload_n 3, 1), (prog_3_method_2_code, 22, .invokestatic 16, 3), (prog_3_method_2_code, 25, .ifCond .eq 24, 3), (prog_3_method_2_code, 49, .iconst 0, 1), (prog_3_method_2_code, 50, .ireturn, 1), (prog_3_method_2_code, 28, .lload_n 3, 1), (prog_3_method_2_code, 29, .invokestatic 20, 3), (prog_3_method_2_code, 32, .ifCond .eq 17, 3), (prog_3_method_2_code, 35, .lload_n 3, 1), (prog_3_method_2_code, 36, .invokestatic 23, 3), (prog_3_method_2_code, 39, .ifCond .eq 10, 3), (prog_3_method_2_code, 42, .lload_n 3, 1), (prog_3_method_2_code, 43, .invokestatic 26, 3), (prog_3_method_2_code, 46, .ifCond .ne 5, 3), (prog_3_method_2_code, 51, .aload_n 0, 1), (prog_3_method_2_code, 52, .iload_n 2, 1), (prog_3_method_2_code, 53, .lload_n 3, 1), (prog_3_method_2_code, 54, .invokevirtual 29, 3), (prog_3_method_2_code, 57, .iinc 2 1, 3), (prog_3_method_2_code, 60, .goto (-49), 3)]
theorem db_X1_holdsFor_95 : dl_X1_holdsFor_95.all (fun x => decide (decode x.1 x.2.1 = .ok x.2.2)) = true := by decide +kernel
theorem dc_X1_holdsFor_95 : decode prog_3_method_2_code 95 = .ok (.ireturn, 1) := ky_dc db_X1_holdsFor_95 0 rfl
theorem dc_X1_holdsFor_17 : decode prog_3_method_2_code 17 = .ok (.aload_n 1, 1) := ky_dc db_X1_holdsFor_95 1 rfl
theorem dc_X1_holdsFor_18 : decode prog_3_method_2_code 18 = .ok (.iload_n 2, 1) := ky_dc db_X1_holdsFor_95 2 rfl
theorem dc_X1_holdsFor_19 : decode prog_3_method_2_code 19 = .ok (.laload, 1) := ky_dc db_X1_holdsFor_95 3 rfl
theorem dc_X1_holdsFor_20 : decode prog_3_method_2_code 20 = .ok (.lstore_n 3, 1) := ky_dc db_X1_holdsFor_95 4 rfl
theorem dc_X1_holdsFor_21 : decode prog_3_method_2_code 21 = .ok (.lload_n 3, 1) := ky_dc db_X1_holdsFor_95 5 rfl
theorem dc_X1_holdsFor_22 : decode prog_3_method_2_code 22 = .ok (.invokestatic 16, 3) := ky_dc db_X1_holdsFor_95 6 rfl
theorem dc_X1_holdsFor_25 : decode prog_3_method_2_code 25 = .ok (.ifCond .eq 24, 3) := ky_dc db_X1_holdsFor_95 7 rfl
theorem dc_X1_holdsFor_49 : decode prog_3_method_2_code 49 = .ok (.iconst 0, 1) := ky_dc db_X1_holdsFor_95 8 rfl
theorem dc_X1_holdsFor_50 : decode prog_3_method_2_code 50 = .ok (.ireturn, 1) := ky_dc db_X1_holdsFor_95 9 rfl
theorem dc_X1_holdsFor_28 : decode prog_3_method_2_code 28 = .ok (.lload_n 3, 1) := ky_dc db_X1_holdsFor_95 10 rfl
theorem dc_X1_holdsFor_29 : decode prog_3_method_2_code 29 = .ok (.invokestatic 20, 3) := ky_dc db_X1_holdsFor_95 11 rfl
theorem dc_X1_holdsFor_32 : decode prog_3_method_2_code 32 = .ok (.ifCond .eq 17, 3) := ky_dc db_X1_holdsFor_95 12 rfl
theorem dc_X1_holdsFor_35 : decode prog_3_method_2_code 35 = .ok (.lload_n 3, 1) := ky_dc db_X1_holdsFor_95 13 rfl
theorem dc_X1_holdsFor_36 : decode prog_3_method_2_code 36 = .ok (.invokestatic 23, 3) := ky_dc db_X1_holdsFor_95 14 rfl
theorem dc_X1_holdsFor_39 : decode prog_3_method_2_code 39 = .ok (.ifCond .eq 10, 3) := ky_dc db_X1_holdsFor_95 15 rfl
theorem dc_X1_holdsFor_42 : decode prog_3_method_2_code 42 = .ok (.lload_n 3, 1) := ky_dc db_X1_holdsFor_95 16 rfl
theorem dc_X1_holdsFor_43 : decode prog_3_method_2_code 43 = .ok (.invokestatic 26, 3) := ky_dc db_X1_holdsFor_95 17 rfl
theorem dc_X1_holdsFor_46 : decode prog_3_method_2_code 46 = .ok (.ifCond .ne 5, 3) := ky_dc db_X1_holdsFor_95 18 rfl
theorem dc_X1_holdsFor_51 : decode prog_3_method_2_code 51 = .ok (.aload_n 0, 1) := ky_dc db_X1_holdsFor_95 19 rfl
theorem dc_X1_holdsFor_52 : decode prog_3_method_2_code 52 = .ok (.iload_n 2, 1) := ky_dc db_X1_holdsFor_95 20 rfl
theorem dc_X1_holdsFor_53 : decode prog_3_method_2_code 53 = .ok (.lload_n 3, 1) := ky_dc db_X1_holdsFor_95 21 rfl
theorem dc_X1_holdsFor_54 : decode prog_3_method_2_code 54 = .ok (.invokevirtual 29, 3) := ky_dc db_X1_holdsFor_95 22 rfl
theorem dc_X1_holdsFor_57 : decode prog_3_method_2_code 57 = .ok (.iinc 2 1, 3) := ky_dc db_X1_holdsFor_95 23 rfl
theorem dc_X1_holdsFor_60 : decode prog_3_method_2_code 60 = .ok (.goto (-49), 3) := ky_dc db_X1_holdsFor_95 24 rfl
