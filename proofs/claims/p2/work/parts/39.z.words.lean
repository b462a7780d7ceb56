abbrev my_X3_appendWhole : MethodName := ⟨"Exactdoubles$Scribe", "appendWhole", "(J)V"⟩
theorem kw_1_79 : (Jvm.Cond.fieldLink "Exactdoubles$Scribe" (16 : Nat) "Exactdoubles$Scribe" "figures" "[C") ∈ ky_B := ky_mem (kc_1 _ (List.mem_of_getElem? (i := 79) rfl)) (by decide +kernel)
theorem kw_3_61 : (Jvm.Cond.constantLong "Exactdoubles$Scribe" (78 : Nat) (48 : Int64)) ∈ ky_B := ky_mem (kc_3 _ (List.mem_of_getElem? (i := 61) rfl)) (by decide +kernel)
theorem kw_3_62 : (Jvm.Cond.constantLong "Exactdoubles$Scribe" (80 : Nat) (10 : Int64)) ∈ ky_B := ky_mem (kc_3 _ (List.mem_of_getElem? (i := 62) rfl)) (by decide +kernel)
theorem kw_1_78 : (Jvm.Cond.fieldLink "Exactdoubles$Scribe" (10 : Nat) "Exactdoubles$Scribe" "signs" "Ljava/lang/StringBuilder;") ∈ ky_B := ky_mem (kc_1 _ (List.mem_of_getElem? (i := 78) rfl)) (by decide +kernel)
theorem kw_3_11 : (Jvm.Cond.methodLink "Exactdoubles$Scribe" (48 : Nat) ({ cls := "java/lang/StringBuilder", name := "append", desc := "(C)Ljava/lang/StringBuilder;" } : Jvm.MethodName)) ∈ ky_B := ky_mem (kc_3 _ (List.mem_of_getElem? (i := 11) rfl)) (by decide +kernel)
theorem kw_3_12 : (Jvm.Cond.instanceMethod ({ cls := "java/lang/StringBuilder", name := "append", desc := "(C)Ljava/lang/StringBuilder;" } : Jvm.MethodName)) ∈ ky_B := ky_mem (kc_3 _ (List.mem_of_getElem? (i := 12) rfl)) (by decide +kernel)
theorem kw_3_13 : (Jvm.Cond.selects "java/lang/StringBuilder" ({ cls := "java/lang/StringBuilder", name := "append", desc := "(C)Ljava/lang/StringBuilder;" } : Jvm.MethodName) ({ cls := "java/lang/StringBuilder", name := "append", desc := "(C)Ljava/lang/StringBuilder;" } : Jvm.MethodName)) ∈ ky_B := ky_mem (kc_3 _ (List.mem_of_getElem? (i := 13) rfl)) (by decide +kernel)
theorem kw_3_14 : (Jvm.Cond.code ({ cls := "java/lang/StringBuilder", name := "append", desc := "(C)Ljava/lang/StringBuilder;" } : Jvm.MethodName) prog_23_method_14_code (2 : Nat) (Option.some (Jvm.ClassFile.FieldType.object "java/lang/StringBuilder"))) ∈ ky_B := ky_mem (kc_3 _ (List.mem_of_getElem? (i := 14) rfl)) (by decide +kernel)
theorem kv_X3_48 : ky_wV "Exactdoubles$Scribe" 48 my_J4_append_cf468 prog_23_method_14_code 2 (Option.some (Jvm.ClassFile.FieldType.object "java/lang/StringBuilder")) 1 := ⟨kw_3_11, kw_3_12, kw_3_13, kw_1_4, kw_3_14, by decide, by decide, by decide +kernel⟩
theorem dc_X3_appendWhole_0 : decode prog_5_method_9_code 0 = .ok (.lload_n 1, 1) := by decide +kernel
theorem dc_X3_appendWhole_1 : decode prog_5_method_9_code 1 = .ok (.lconst 0, 1) := by decide +kernel
theorem dc_X3_appendWhole_2 : decode prog_5_method_9_code 2 = .ok (.lcmp, 1) := by decide +kernel
theorem dc_X3_appendWhole_3 : decode prog_5_method_9_code 3 = .ok (.ifCond .ge 13, 3) := by decide +kernel
theorem dc_X3_appendWhole_16 : decode prog_5_method_9_code 16 = .ok (.lload_n 1, 1) := by decide +kernel
theorem dc_X3_appendWhole_17 : decode prog_5_method_9_code 17 = .ok (.lconst 0, 1) := by decide +kernel
theorem dc_X3_appendWhole_18 : decode prog_5_method_9_code 18 = .ok (.lcmp, 1) := by decide +kernel
theorem dc_X3_appendWhole_19 : decode prog_5_method_9_code 19 = .ok (.ifCond .ge 7, 3) := by decide +kernel
theorem dc_X3_appendWhole_26 : decode prog_5_method_9_code 26 = .ok (.lload_n 1, 1) := by decide +kernel
theorem dc_X3_appendWhole_27 : decode prog_5_method_9_code 27 = .ok (.lneg, 1) := by decide +kernel
theorem dc_X3_appendWhole_28 : decode prog_5_method_9_code 28 = .ok (.lstore_n 3, 1) := by decide +kernel
theorem dc_X3_appendWhole_29 : decode prog_5_method_9_code 29 = .ok (.bipush 19, 2) := by decide +kernel
theorem dc_X3_appendWhole_31 : decode prog_5_method_9_code 31 = .ok (.istore 5, 2) := by decide +kernel
theorem dc_X3_appendWhole_33 : decode prog_5_method_9_code 33 = .ok (.iinc 5 (-1), 3) := by decide +kernel
theorem dc_X3_appendWhole_36 : decode prog_5_method_9_code 36 = .ok (.aload_n 0, 1) := by decide +kernel
theorem dc_X3_appendWhole_37 : decode prog_5_method_9_code 37 = .ok (.getfield 16, 3) := by decide +kernel
theorem dc_X3_appendWhole_40 : decode prog_5_method_9_code 40 = .ok (.iload 5, 2) := by decide +kernel
theorem dc_X3_appendWhole_42 : decode prog_5_method_9_code 42 = .ok (.ldc2_w 78, 3) := by decide +kernel
theorem dc_X3_appendWhole_45 : decode prog_5_method_9_code 45 = .ok (.lload_n 3, 1) := by decide +kernel
theorem dc_X3_appendWhole_46 : decode prog_5_method_9_code 46 = .ok (.ldc2_w 80, 3) := by decide +kernel
theorem dc_X3_appendWhole_49 : decode prog_5_method_9_code 49 = .ok (.lrem, 1) := by decide +kernel
theorem dc_X3_appendWhole_50 : decode prog_5_method_9_code 50 = .ok (.lsub, 1) := by decide +kernel
theorem dc_X3_appendWhole_51 : decode prog_5_method_9_code 51 = .ok (.l2i, 1) := by decide +kernel
theorem dc_X3_appendWhole_52 : decode prog_5_method_9_code 52 = .ok (.i2c, 1) := by decide +kernel
theorem dc_X3_appendWhole_53 : decode prog_5_method_9_code 53 = .ok (.castore, 1) := by decide +kernel
theorem dc_X3_appendWhole_54 : decode prog_5_method_9_code 54 = .ok (.lload_n 3, 1) := by decide +kernel
theorem dc_X3_appendWhole_55 : decode prog_5_method_9_code 55 = .ok (.ldc2_w 80, 3) := by decide +kernel
theorem dc_X3_appendWhole_58 : decode prog_5_method_9_code 58 = .ok (.ldiv, 1) := by decide +kernel
theorem dc_X3_appendWhole_59 : decode prog_5_method_9_code 59 = .ok (.lstore_n 3, 1) := by decide +kernel
theorem dc_X3_appendWhole_60 : decode prog_5_method_9_code 60 = .ok (.lload_n 3, 1) := by decide +kernel
theorem dc_X3_appendWhole_61 : decode prog_5_method_9_code 61 = .ok (.lconst 0, 1) := by decide +kernel
theorem dc_X3_appendWhole_62 : decode prog_5_method_9_code 62 = .ok (.lcmp, 1) := by decide +kernel
theorem dc_X3_appendWhole_63 : decode prog_5_method_9_code 63 = .ok (.ifCond .eq 8, 3) := by decide +kernel
theorem dc_X3_appendWhole_71 : decode prog_5_method_9_code 71 = .ok (.iload 5, 2) := by decide +kernel
theorem dc_X3_appendWhole_73 : decode prog_5_method_9_code 73 = .ok (.istore 6, 2) := by decide +kernel
theorem dc_X3_appendWhole_75 : decode prog_5_method_9_code 75 = .ok (.iload 6, 2) := by decide +kernel
theorem dc_X3_appendWhole_77 : decode prog_5_method_9_code 77 = .ok (.bipush 19, 2) := by decide +kernel
theorem dc_X3_appendWhole_79 : decode prog_5_method_9_code 79 = .ok (.if_icmp .ge 24, 3) := by decide +kernel
theorem dc_X3_appendWhole_103 : decode prog_5_method_9_code 103 = .ok (.return_, 1) := by decide +kernel
theorem dc_X3_appendWhole_82 : decode prog_5_method_9_code 82 = .ok (.aload_n 0, 1) := by decide +kernel
theorem dc_X3_appendWhole_83 : decode prog_5_method_9_code 83 = .ok (.getfield 10, 3) := by decide +kernel
theorem dc_X3_appendWhole_86 : decode prog_5_method_9_code 86 = .ok (.aload_n 0, 1) := by decide +kernel
theorem dc_X3_appendWhole_87 : decode prog_5_method_9_code 87 = .ok (.getfield 16, 3) := by decide +kernel
theorem dc_X3_appendWhole_90 : decode prog_5_method_9_code 90 = .ok (.iload 6, 2) := by decide +kernel
theorem dc_X3_appendWhole_92 : decode prog_5_method_9_code 92 = .ok (.caload, 1) := by decide +kernel
theorem dc_X3_appendWhole_93 : decode prog_5_method_9_code 93 = .ok (.invokevirtual 48, 3) := by decide +kernel
theorem dc_X3_appendWhole_96 : decode prog_5_method_9_code 96 = .ok (.pop, 1) := by decide +kernel
theorem dc_X3_appendWhole_97 : decode prog_5_method_9_code 97 = .ok (.iinc 6 1, 3) := by decide +kernel
theorem dc_X3_appendWhole_100 : decode prog_5_method_9_code 100 = .ok (.goto (-25), 3) := by decide +kernel
theorem dc_X3_appendWhole_66 : decode prog_5_method_9_code 66 = .ok (.iload 5, 2) := by decide +kernel
theorem dc_X3_appendWhole_68 : decode prog_5_method_9_code 68 = .ok (.ifCond .gt (-35), 3) := by decide +kernel
theorem dc_X3_appendWhole_6 : decode prog_5_method_9_code 6 = .ok (.aload_n 0, 1) := by decide +kernel
theorem dc_X3_appendWhole_7 : decode prog_5_method_9_code 7 = .ok (.getfield 10, 3) := by decide +kernel
theorem dc_X3_appendWhole_10 : decode prog_5_method_9_code 10 = .ok (.bipush 45, 2) := by decide +kernel
theorem dc_X3_appendWhole_12 : decode prog_5_method_9_code 12 = .ok (.invokevirtual 48, 3) := by decide +kernel
theorem dc_X3_appendWhole_15 : decode prog_5_method_9_code 15 = .ok (.pop, 1) := by decide +kernel
theorem dc_X3_appendWhole_22 : decode prog_5_method_9_code 22 = .ok (.lload_n 1, 1) := by decide +kernel
theorem dc_X3_appendWhole_23 : decode prog_5_method_9_code 23 = .ok (.goto 5, 3) := by decide +kernel
