abbrev my_X6_text : MethodName := ⟨"Exactdoubles", "text", "(I)Ljava/lang/String;"⟩
abbrev my_X6_rounded : MethodName := ⟨"Exactdoubles", "rounded", "(I)Ljava/lang/String;"⟩
abbrev my_X6_cut : MethodName := ⟨"Exactdoubles", "cut", "(I)Ljava/lang/String;"⟩
abbrev my_X6_floorOf : MethodName := ⟨"Exactdoubles", "floorOf", "(I)Ljava/lang/String;"⟩
abbrev my_X6_ceilOf : MethodName := ⟨"Exactdoubles", "ceilOf", "(I)Ljava/lang/String;"⟩
abbrev my_X6_rintOf : MethodName := ⟨"Exactdoubles", "rintOf", "(I)Ljava/lang/String;"⟩
abbrev my_X6_stepOf : MethodName := ⟨"Exactdoubles", "stepOf", "(I)Ljava/lang/String;"⟩
abbrev my_X6_nextOf : MethodName := ⟨"Exactdoubles", "nextOf", "(IZ)Ljava/lang/String;"⟩
abbrev my_X6_timesOf : MethodName := ⟨"Exactdoubles", "timesOf", "(II)Ljava/lang/String;"⟩
abbrev my_X6_greatest : MethodName := ⟨"Exactdoubles", "greatest", "()Ljava/lang/String;"⟩
abbrev my_X6_least : MethodName := ⟨"Exactdoubles", "least", "()Ljava/lang/String;"⟩
theorem kw_1_99 : (Jvm.Cond.fieldLink "Exactdoubles" (16 : Nat) "Exactdoubles" "scribe" "LExactdoubles$Scribe;") ∈ ky_B := ky_mem (kc_1 _ (List.mem_of_getElem? (i := 99) rfl)) (by decide +kernel)
theorem kw_1_139 : (Jvm.Cond.methodLink "Exactdoubles" (138 : Nat) ({ cls := "Exactdoubles$Scribe", name := "tellNumber", desc := "(J)Ljava/lang/String;" } : Jvm.MethodName)) ∈ ky_B := ky_mem (kc_1 _ (List.mem_of_getElem? (i := 139) rfl)) (by decide +kernel)
theorem kw_1_140 : (Jvm.Cond.instanceMethod ({ cls := "Exactdoubles$Scribe", name := "tellNumber", desc := "(J)Ljava/lang/String;" } : Jvm.MethodName)) ∈ ky_B := ky_mem (kc_1 _ (List.mem_of_getElem? (i := 140) rfl)) (by decide +kernel)
theorem kw_1_141 : (Jvm.Cond.selects "Exactdoubles$Scribe" ({ cls := "Exactdoubles$Scribe", name := "tellNumber", desc := "(J)Ljava/lang/String;" } : Jvm.MethodName) ({ cls := "Exactdoubles$Scribe", name := "tellNumber", desc := "(J)Ljava/lang/String;" } : Jvm.MethodName)) ∈ ky_B := ky_mem (kc_1 _ (List.mem_of_getElem? (i := 141) rfl)) (by decide +kernel)
theorem kw_1_142 : (Jvm.Cond.code ({ cls := "Exactdoubles$Scribe", name := "tellNumber", desc := "(J)Ljava/lang/String;" } : Jvm.MethodName) prog_5_method_2_code (3 : Nat) (Option.some (Jvm.ClassFile.FieldType.object "java/lang/String"))) ∈ ky_B := ky_mem (kc_1 _ (List.mem_of_getElem? (i := 142) rfl)) (by decide +kernel)
theorem kw_5_100 : (Jvm.Cond.methodLink "Exactdoubles" (151 : Nat) ({ cls := "Exactdoubles$Scribe", name := "tellWhole", desc := "(J)Ljava/lang/String;" } : Jvm.MethodName)) ∈ ky_B := ky_mem (kc_5 _ (List.mem_of_getElem? (i := 100) rfl)) (by decide +kernel)
theorem kw_5_101 : (Jvm.Cond.instanceMethod ({ cls := "Exactdoubles$Scribe", name := "tellWhole", desc := "(J)Ljava/lang/String;" } : Jvm.MethodName)) ∈ ky_B := ky_mem (kc_5 _ (List.mem_of_getElem? (i := 101) rfl)) (by decide +kernel)
theorem kw_5_102 : (Jvm.Cond.selects "Exactdoubles$Scribe" ({ cls := "Exactdoubles$Scribe", name := "tellWhole", desc := "(J)Ljava/lang/String;" } : Jvm.MethodName) ({ cls := "Exactdoubles$Scribe", name := "tellWhole", desc := "(J)Ljava/lang/String;" } : Jvm.MethodName)) ∈ ky_B := ky_mem (kc_5 _ (List.mem_of_getElem? (i := 102) rfl)) (by decide +kernel)
theorem kw_5_103 : (Jvm.Cond.code ({ cls := "Exactdoubles$Scribe", name := "tellWhole", desc := "(J)Ljava/lang/String;" } : Jvm.MethodName) prog_5_method_4_code (3 : Nat) (Option.some (Jvm.ClassFile.FieldType.object "java/lang/String"))) ∈ ky_B := ky_mem (kc_5 _ (List.mem_of_getElem? (i := 103) rfl)) (by decide +kernel)
theorem kw_4_25 : (Jvm.Cond.methodLink "Exactdoubles" (154 : Nat) ({ cls := "Exactdoubles$Whole", name := "cutFrom", desc := "(J)J" } : Jvm.MethodName)) ∈ ky_B := ky_mem (kc_4 _ (List.mem_of_getElem? (i := 25) rfl)) (by decide +kernel)
theorem kw_1_121 : (Jvm.Cond.methodLink "Exactdoubles" (179 : Nat) ({ cls := "Exactdoubles", name := "lastOfAll", desc := "()J" } : Jvm.MethodName)) ∈ ky_B := ky_mem (kc_1 _ (List.mem_of_getElem? (i := 121) rfl)) (by decide +kernel)
theorem kw_1_123 : (Jvm.Cond.instanceMethod ({ cls := "Exactdoubles", name := "lastOfAll", desc := "()J" } : Jvm.MethodName)) ∈ ky_B := ky_mem (kc_1 _ (List.mem_of_getElem? (i := 123) rfl)) (by decide +kernel)
theorem kp_X6_lastOfAll : (Jvm.Cond.selects "Exactdoubles" ({ cls := "Exactdoubles", name := "lastOfAll", desc := "()J" } : Jvm.MethodName) ({ cls := "Exactdoubles", name := "lastOfAll", desc := "()J" } : Jvm.MethodName)) ∈ ky_B := ky_mem (List.mem_append_left _ (List.mem_of_getElem? (i := 0) (by decide +kernel))) (by decide +kernel)
theorem kw_1_124 : (Jvm.Cond.code ({ cls := "Exactdoubles", name := "lastOfAll", desc := "()J" } : Jvm.MethodName) prog_1_method_69_code (4 : Nat) (Option.some Jvm.ClassFile.FieldType.long)) ∈ ky_B := ky_mem (kc_1 _ (List.mem_of_getElem? (i := 124) rfl)) (by decide +kernel)
theorem kw_3_71 : (Jvm.Cond.methodLink "Exactdoubles" (183 : Nat) ({ cls := "Exactdoubles", name := "firstOfAll", desc := "()J" } : Jvm.MethodName)) ∈ ky_B := ky_mem (kc_3 _ (List.mem_of_getElem? (i := 71) rfl)) (by decide +kernel)
theorem kw_3_73 : (Jvm.Cond.instanceMethod ({ cls := "Exactdoubles", name := "firstOfAll", desc := "()J" } : Jvm.MethodName)) ∈ ky_B := ky_mem (kc_3 _ (List.mem_of_getElem? (i := 73) rfl)) (by decide +kernel)
theorem kp_X6_firstOfAll : (Jvm.Cond.selects "Exactdoubles" ({ cls := "Exactdoubles", name := "firstOfAll", desc := "()J" } : Jvm.MethodName) ({ cls := "Exactdoubles", name := "firstOfAll", desc := "()J" } : Jvm.MethodName)) ∈ ky_B := ky_mem (List.mem_append_left _ (List.mem_of_getElem? (i := 5) (by decide +kernel))) (by decide +kernel)
theorem kw_3_74 : (Jvm.Cond.code ({ cls := "Exactdoubles", name := "firstOfAll", desc := "()J" } : Jvm.MethodName) prog_1_method_70_code (4 : Nat) (Option.some Jvm.ClassFile.FieldType.long)) ∈ ky_B := ky_mem (kc_3 _ (List.mem_of_getElem? (i := 74) rfl)) (by decide +kernel)
theorem kv_X6_138 : ky_wV "Exactdoubles" 138 my_X3_tellNumber prog_5_method_2_code 3 (Option.some (Jvm.ClassFile.FieldType.object "java/lang/String")) 1 := ⟨kw_1_139, kw_1_140, kw_1_141, kw_1_2, kw_1_142, by decide, by decide, by decide +kernel⟩
theorem kv_X6_151 : ky_wV "Exactdoubles" 151 my_X3_tellWhole prog_5_method_4_code 3 (Option.some (Jvm.ClassFile.FieldType.object "java/lang/String")) 1 := ⟨kw_5_100, kw_5_101, kw_5_102, kw_1_2, kw_5_103, by decide, by decide, by decide +kernel⟩
theorem ks_X6_154 : ky_wS "Exactdoubles" 154 my_X5_cutFrom prog_7_method_2_code 7 (Option.some Jvm.ClassFile.FieldType.long) 1 := ⟨kw_4_25, kw_3_196, kw_1_29, kw_3_197, by decide, by decide, by decide +kernel⟩
theorem kv_X6_179 : ky_wV "Exactdoubles" 179 my_X6_lastOfAll prog_1_method_69_code 4 (Option.some Jvm.ClassFile.FieldType.long) 0 := ⟨kw_1_121, kw_1_123, kp_X6_lastOfAll, kw_1_1, kw_1_124, by decide, by decide, by decide +kernel⟩
theorem kv_X6_183 : ky_wV "Exactdoubles" 183 my_X6_firstOfAll prog_1_method_70_code 4 (Option.some Jvm.ClassFile.FieldType.long) 0 := ⟨kw_3_71, kw_3_73, kp_X6_firstOfAll, kw_1_1, kw_3_74, by decide, by decide, by decide +kernel⟩
theorem dc_X6_text_0 : decode prog_1_method_27_code 0 = .ok (.iload_n 1, 1) := by decide +kernel
theorem dc_X6_text_1 : decode prog_1_method_27_code 1 = .ok (.invokestatic 27, 3) := by decide +kernel
theorem dc_X6_text_4 : decode prog_1_method_27_code 4 = .ok (.aload_n 0, 1) := by decide +kernel
theorem dc_X6_text_5 : decode prog_1_method_27_code 5 = .ok (.getfield 16, 3) := by decide +kernel
theorem dc_X6_text_8 : decode prog_1_method_27_code 8 = .ok (.aload_n 0, 1) := by decide +kernel
theorem dc_X6_text_9 : decode prog_1_method_27_code 9 = .ok (.getfield 9, 3) := by decide +kernel
theorem dc_X6_text_12 : decode prog_1_method_27_code 12 = .ok (.iload_n 1, 1) := by decide +kernel
theorem dc_X6_text_13 : decode prog_1_method_27_code 13 = .ok (.laload, 1) := by decide +kernel
theorem dc_X6_text_14 : decode prog_1_method_27_code 14 = .ok (.invokevirtual 138, 3) := by decide +kernel
theorem dc_X6_text_17 : decode prog_1_method_27_code 17 = .ok (.areturn, 1) := by decide +kernel
theorem dc_X6_rounded_0 : decode prog_1_method_30_code 0 = .ok (.iload_n 1, 1) := by decide +kernel
theorem dc_X6_rounded_1 : decode prog_1_method_30_code 1 = .ok (.invokestatic 27, 3) := by decide +kernel
theorem dc_X6_rounded_4 : decode prog_1_method_30_code 4 = .ok (.aload_n 0, 1) := by decide +kernel
theorem dc_X6_rounded_5 : decode prog_1_method_30_code 5 = .ok (.getfield 16, 3) := by decide +kernel
theorem dc_X6_rounded_8 : decode prog_1_method_30_code 8 = .ok (.aload_n 0, 1) := by decide +kernel
theorem dc_X6_rounded_9 : decode prog_1_method_30_code 9 = .ok (.getfield 9, 3) := by decide +kernel
theorem dc_X6_rounded_12 : decode prog_1_method_30_code 12 = .ok (.iload_n 1, 1) := by decide +kernel
theorem dc_X6_rounded_13 : decode prog_1_method_30_code 13 = .ok (.laload, 1) := by decide +kernel
theorem dc_X6_rounded_14 : decode prog_1_method_30_code 14 = .ok (.invokestatic 142, 3) := by decide +kernel
theorem dc_X6_rounded_17 : decode prog_1_method_30_code 17 = .ok (.invokevirtual 151, 3) := by decide +kernel
theorem dc_X6_rounded_20 : decode prog_1_method_30_code 20 = .ok (.areturn, 1) := by decide +kernel
theorem dc_X6_cut_0 : decode prog_1_method_31_code 0 = .ok (.iload_n 1, 1) := by decide +kernel
theorem dc_X6_cut_1 : decode prog_1_method_31_code 1 = .ok (.invokestatic 27, 3) := by decide +kernel
theorem dc_X6_cut_4 : decode prog_1_method_31_code 4 = .ok (.aload_n 0, 1) := by decide +kernel
theorem dc_X6_cut_5 : decode prog_1_method_31_code 5 = .ok (.getfield 16, 3) := by decide +kernel
theorem dc_X6_cut_8 : decode prog_1_method_31_code 8 = .ok (.aload_n 0, 1) := by decide +kernel
theorem dc_X6_cut_9 : decode prog_1_method_31_code 9 = .ok (.getfield 9, 3) := by decide +kernel
theorem dc_X6_cut_12 : decode prog_1_method_31_code 12 = .ok (.iload_n 1, 1) := by decide +kernel
theorem dc_X6_cut_13 : decode prog_1_method_31_code 13 = .ok (.laload, 1) := by decide +kernel
theorem dc_X6_cut_14 : decode prog_1_method_31_code 14 = .ok (.invokestatic 154, 3) := by decide +kernel
theorem dc_X6_cut_17 : decode prog_1_method_31_code 17 = .ok (.invokevirtual 151, 3) := by decide +kernel
theorem dc_X6_cut_20 : decode prog_1_method_31_code 20 = .ok (.areturn, 1) := by decide +kernel
theorem dc_X6_floorOf_0 : decode prog_1_method_42_code 0 = .ok (.iload_n 1, 1) := by decide +kernel
theorem dc_X6_floorOf_1 : decode prog_1_method_42_code 1 = .ok (.invokestatic 27, 3) := by decide +kernel
theorem dc_X6_floorOf_4 : decode prog_1_method_42_code 4 = .ok (.aload_n 0, 1) := by decide +kernel
theorem dc_X6_floorOf_5 : decode prog_1_method_42_code 5 = .ok (.getfield 16, 3) := by decide +kernel
theorem dc_X6_floorOf_8 : decode prog_1_method_42_code 8 = .ok (.aload_n 0, 1) := by decide +kernel
theorem dc_X6_floorOf_9 : decode prog_1_method_42_code 9 = .ok (.getfield 9, 3) := by decide +kernel
theorem dc_X6_floorOf_12 : decode prog_1_method_42_code 12 = .ok (.iload_n 1, 1) := by decide +kernel
theorem dc_X6_floorOf_13 : decode prog_1_method_42_code 13 = .ok (.laload, 1) := by decide +kernel
theorem dc_X6_floorOf_14 : decode prog_1_method_42_code 14 = .ok (.invokestatic 85, 3) := by decide +kernel
theorem dc_X6_floorOf_17 : decode prog_1_method_42_code 17 = .ok (.invokevirtual 138, 3) := by decide +kernel
theorem dc_X6_floorOf_20 : decode prog_1_method_42_code 20 = .ok (.areturn, 1) := by decide +kernel
theorem dc_X6_ceilOf_0 : decode prog_1_method_43_code 0 = .ok (.iload_n 1, 1) := by decide +kernel
theorem dc_X6_ceilOf_1 : decode prog_1_method_43_code 1 = .ok (.invokestatic 27, 3) := by decide +kernel
theorem dc_X6_ceilOf_4 : decode prog_1_method_43_code 4 = .ok (.aload_n 0, 1) := by decide +kernel
theorem dc_X6_ceilOf_5 : decode prog_1_method_43_code 5 = .ok (.getfield 16, 3) := by decide +kernel
theorem dc_X6_ceilOf_8 : decode prog_1_method_43_code 8 = .ok (.aload_n 0, 1) := by decide +kernel
theorem dc_X6_ceilOf_9 : decode prog_1_method_43_code 9 = .ok (.getfield 9, 3) := by decide +kernel
theorem dc_X6_ceilOf_12 : decode prog_1_method_43_code 12 = .ok (.iload_n 1, 1) := by decide +kernel
theorem dc_X6_ceilOf_13 : decode prog_1_method_43_code 13 = .ok (.laload, 1) := by decide +kernel
theorem dc_X6_ceilOf_14 : decode prog_1_method_43_code 14 = .ok (.invokestatic 90, 3) := by decide +kernel
theorem dc_X6_ceilOf_17 : decode prog_1_method_43_code 17 = .ok (.invokevirtual 138, 3) := by decide +kernel
theorem dc_X6_ceilOf_20 : decode prog_1_method_43_code 20 = .ok (.areturn, 1) := by decide +kernel
theorem dc_X6_rintOf_0 : decode prog_1_method_44_code 0 = .ok (.iload_n 1, 1) := by decide +kernel
theorem dc_X6_rintOf_1 : decode prog_1_method_44_code 1 = .ok (.invokestatic 27, 3) := by decide +kernel
theorem dc_X6_rintOf_4 : decode prog_1_method_44_code 4 = .ok (.aload_n 0, 1) := by decide +kernel
theorem dc_X6_rintOf_5 : decode prog_1_method_44_code 5 = .ok (.getfield 16, 3) := by decide +kernel
theorem dc_X6_rintOf_8 : decode prog_1_method_44_code 8 = .ok (.aload_n 0, 1) := by decide +kernel
theorem dc_X6_rintOf_9 : decode prog_1_method_44_code 9 = .ok (.getfield 9, 3) := by decide +kernel
theorem dc_X6_rintOf_12 : decode prog_1_method_44_code 12 = .ok (.iload_n 1, 1) := by decide +kernel
theorem dc_X6_rintOf_13 : decode prog_1_method_44_code 13 = .ok (.laload, 1) := by decide +kernel
theorem dc_X6_rintOf_14 : decode prog_1_method_44_code 14 = .ok (.invokestatic 93, 3) := by decide +kernel
theorem dc_X6_rintOf_17 : decode prog_1_method_44_code 17 = .ok (.invokevirtual 138, 3) := by decide +kernel
theorem dc_X6_rintOf_20 : decode prog_1_method_44_code 20 = .ok (.areturn, 1) := by decide +kernel
theorem dc_X6_stepOf_0 : decode prog_1_method_45_code 0 = .ok (.iload_n 1, 1) := by decide +kernel
theorem dc_X6_stepOf_1 : decode prog_1_method_45_code 1 = .ok (.invokestatic 27, 3) := by decide +kernel
theorem dc_X6_stepOf_4 : decode prog_1_method_45_code 4 = .ok (.aload_n 0, 1) := by decide +kernel
theorem dc_X6_stepOf_5 : decode prog_1_method_45_code 5 = .ok (.getfield 16, 3) := by decide +kernel
theorem dc_X6_stepOf_8 : decode prog_1_method_45_code 8 = .ok (.aload_n 0, 1) := by decide +kernel
theorem dc_X6_stepOf_9 : decode prog_1_method_45_code 9 = .ok (.getfield 9, 3) := by decide +kernel
theorem dc_X6_stepOf_12 : decode prog_1_method_45_code 12 = .ok (.iload_n 1, 1) := by decide +kernel
theorem dc_X6_stepOf_13 : decode prog_1_method_45_code 13 = .ok (.laload, 1) := by decide +kernel
theorem dc_X6_stepOf_14 : decode prog_1_method_45_code 14 = .ok (.invokestatic 111, 3) := by decide +kernel
theorem dc_X6_stepOf_17 : decode prog_1_method_45_code 17 = .ok (.invokevirtual 138, 3) := by decide +kernel
theorem dc_X6_stepOf_20 : decode prog_1_method_45_code 20 = .ok (.areturn, 1) := by decide +kernel
theorem dc_X6_nextOf_0 : decode prog_1_method_46_code 0 = .ok (.iload_n 1, 1) := by decide +kernel
theorem dc_X6_nextOf_1 : decode prog_1_method_46_code 1 = .ok (.invokestatic 27, 3) := by decide +kernel
theorem dc_X6_nextOf_4 : decode prog_1_method_46_code 4 = .ok (.aload_n 0, 1) := by decide +kernel
theorem dc_X6_nextOf_5 : decode prog_1_method_46_code 5 = .ok (.getfield 16, 3) := by decide +kernel
theorem dc_X6_nextOf_8 : decode prog_1_method_46_code 8 = .ok (.iload_n 2, 1) := by decide +kernel
theorem dc_X6_nextOf_9 : decode prog_1_method_46_code 9 = .ok (.ifCond .eq 15, 3) := by decide +kernel
theorem dc_X6_nextOf_24 : decode prog_1_method_46_code 24 = .ok (.aload_n 0, 1) := by decide +kernel
theorem dc_X6_nextOf_25 : decode prog_1_method_46_code 25 = .ok (.getfield 9, 3) := by decide +kernel
theorem dc_X6_nextOf_28 : decode prog_1_method_46_code 28 = .ok (.iload_n 1, 1) := by decide +kernel
theorem dc_X6_nextOf_29 : decode prog_1_method_46_code 29 = .ok (.laload, 1) := by decide +kernel
theorem dc_X6_nextOf_30 : decode prog_1_method_46_code 30 = .ok (.invokestatic 105, 3) := by decide +kernel
theorem dc_X6_nextOf_33 : decode prog_1_method_46_code 33 = .ok (.invokevirtual 138, 3) := by decide +kernel
theorem dc_X6_nextOf_36 : decode prog_1_method_46_code 36 = .ok (.areturn, 1) := by decide +kernel
theorem dc_X6_nextOf_12 : decode prog_1_method_46_code 12 = .ok (.aload_n 0, 1) := by decide +kernel
theorem dc_X6_nextOf_13 : decode prog_1_method_46_code 13 = .ok (.getfield 9, 3) := by decide +kernel
theorem dc_X6_nextOf_16 : decode prog_1_method_46_code 16 = .ok (.iload_n 1, 1) := by decide +kernel
theorem dc_X6_nextOf_17 : decode prog_1_method_46_code 17 = .ok (.laload, 1) := by decide +kernel
theorem dc_X6_nextOf_18 : decode prog_1_method_46_code 18 = .ok (.invokestatic 108, 3) := by decide +kernel
theorem dc_X6_nextOf_21 : decode prog_1_method_46_code 21 = .ok (.goto 12, 3) := by decide +kernel
theorem dc_X6_timesOf_0 : decode prog_1_method_47_code 0 = .ok (.iload_n 1, 1) := by decide +kernel
theorem dc_X6_timesOf_1 : decode prog_1_method_47_code 1 = .ok (.invokestatic 27, 3) := by decide +kernel
theorem dc_X6_timesOf_4 : decode prog_1_method_47_code 4 = .ok (.aload_n 0, 1) := by decide +kernel
theorem dc_X6_timesOf_5 : decode prog_1_method_47_code 5 = .ok (.getfield 16, 3) := by decide +kernel
theorem dc_X6_timesOf_8 : decode prog_1_method_47_code 8 = .ok (.aload_n 0, 1) := by decide +kernel
theorem dc_X6_timesOf_9 : decode prog_1_method_47_code 9 = .ok (.getfield 9, 3) := by decide +kernel
theorem dc_X6_timesOf_12 : decode prog_1_method_47_code 12 = .ok (.iload_n 1, 1) := by decide +kernel
theorem dc_X6_timesOf_13 : decode prog_1_method_47_code 13 = .ok (.laload, 1) := by decide +kernel
theorem dc_X6_timesOf_14 : decode prog_1_method_47_code 14 = .ok (.iload_n 2, 1) := by decide +kernel
theorem dc_X6_timesOf_15 : decode prog_1_method_47_code 15 = .ok (.invokestatic 61, 3) := by decide +kernel
theorem dc_X6_timesOf_18 : decode prog_1_method_47_code 18 = .ok (.invokevirtual 138, 3) := by decide +kernel
theorem dc_X6_timesOf_21 : decode prog_1_method_47_code 21 = .ok (.areturn, 1) := by decide +kernel
theorem dc_X6_greatest_0 : decode prog_1_method_49_code 0 = .ok (.aload_n 0, 1) := by decide +kernel
theorem dc_X6_greatest_1 : decode prog_1_method_49_code 1 = .ok (.getfield 16, 3) := by decide +kernel
theorem dc_X6_greatest_4 : decode prog_1_method_49_code 4 = .ok (.aload_n 0, 1) := by decide +kernel
theorem dc_X6_greatest_5 : decode prog_1_method_49_code 5 = .ok (.invokevirtual 179, 3) := by decide +kernel
theorem dc_X6_greatest_8 : decode prog_1_method_49_code 8 = .ok (.invokevirtual 138, 3) := by decide +kernel
theorem dc_X6_greatest_11 : decode prog_1_method_49_code 11 = .ok (.areturn, 1) := by decide +kernel
theorem dc_X6_least_0 : decode prog_1_method_50_code 0 = .ok (.aload_n 0, 1) := by decide +kernel
theorem dc_X6_least_1 : decode prog_1_method_50_code 1 = .ok (.getfield 16, 3) := by decide +kernel
theorem dc_X6_least_4 : decode prog_1_method_50_code 4 = .ok (.aload_n 0, 1) := by decide +kernel
theorem dc_X6_least_5 : decode prog_1_method_50_code 5 = .ok (.invokevirtual 183, 3) := by decide +kernel
theorem dc_X6_least_8 : decode prog_1_method_50_code 8 = .ok (.invokevirtual 138, 3) := by decide +kernel
theorem dc_X6_least_11 : decode prog_1_method_50_code 11 = .ok (.areturn, 1) := by decide +kernel
