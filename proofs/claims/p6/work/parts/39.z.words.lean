abbrev my_X3_appendWhole : MethodName := ⟨"Exactdoubles$Scribe", "appendWhole", "(J)V"⟩
abbrev my_X3_appendSize : MethodName := ⟨"Exactdoubles$Scribe", "appendSize", "(JI)V"⟩
abbrev my_X3_writeWhole : MethodName := ⟨"Exactdoubles$Scribe", "writeWhole", "(J)V"⟩
abbrev my_X3_writeNumber : MethodName := ⟨"Exactdoubles$Scribe", "writeNumber", "(J)V"⟩
abbrev my_X3_tellNumber : MethodName := ⟨"Exactdoubles$Scribe", "tellNumber", "(J)Ljava/lang/String;"⟩
abbrev my_X3_countNumber : MethodName := ⟨"Exactdoubles$Scribe", "countNumber", "(J)I"⟩
abbrev my_X3_tellWhole : MethodName := ⟨"Exactdoubles$Scribe", "tellWhole", "(J)Ljava/lang/String;"⟩
abbrev my_X3_countWhole : MethodName := ⟨"Exactdoubles$Scribe", "countWhole", "(J)I"⟩
abbrev my_X3_init : MethodName := ⟨"Exactdoubles$Scribe", "<init>", "()V"⟩
theorem kw_1_79 : (Jvm.Cond.fieldLink "Exactdoubles$Scribe" (16 : Nat) "Exactdoubles$Scribe" "figures" "[C") ∈ ky_B := ky_mem (kc_1 _ (List.mem_of_getElem? (i := 79) rfl)) (by decide +kernel)
theorem kw_3_61 : (Jvm.Cond.constantLong "Exactdoubles$Scribe" (78 : Nat) (48 : Int64)) ∈ ky_B := ky_mem (kc_3 _ (List.mem_of_getElem? (i := 61) rfl)) (by decide +kernel)
theorem kw_3_62 : (Jvm.Cond.constantLong "Exactdoubles$Scribe" (80 : Nat) (10 : Int64)) ∈ ky_B := ky_mem (kc_3 _ (List.mem_of_getElem? (i := 62) rfl)) (by decide +kernel)
theorem kw_1_78 : (Jvm.Cond.fieldLink "Exactdoubles$Scribe" (10 : Nat) "Exactdoubles$Scribe" "signs" "Ljava/lang/StringBuilder;") ∈ ky_B := ky_mem (kc_1 _ (List.mem_of_getElem? (i := 78) rfl)) (by decide +kernel)
theorem kw_3_11 : (Jvm.Cond.methodLink "Exactdoubles$Scribe" (48 : Nat) ({ cls := "java/lang/StringBuilder", name := "append", desc := "(C)Ljava/lang/StringBuilder;" } : Jvm.MethodName)) ∈ ky_B := ky_mem (kc_3 _ (List.mem_of_getElem? (i := 11) rfl)) (by decide +kernel)
theorem kw_3_12 : (Jvm.Cond.instanceMethod ({ cls := "java/lang/StringBuilder", name := "append", desc := "(C)Ljava/lang/StringBuilder;" } : Jvm.MethodName)) ∈ ky_B := ky_mem (kc_3 _ (List.mem_of_getElem? (i := 12) rfl)) (by decide +kernel)
theorem kw_3_13 : (Jvm.Cond.selects "java/lang/StringBuilder" ({ cls := "java/lang/StringBuilder", name := "append", desc := "(C)Ljava/lang/StringBuilder;" } : Jvm.MethodName) ({ cls := "java/lang/StringBuilder", name := "append", desc := "(C)Ljava/lang/StringBuilder;" } : Jvm.MethodName)) ∈ ky_B := ky_mem (kc_3 _ (List.mem_of_getElem? (i := 13) rfl)) (by decide +kernel)
theorem kw_3_14 : (Jvm.Cond.code ({ cls := "java/lang/StringBuilder", name := "append", desc := "(C)Ljava/lang/StringBuilder;" } : Jvm.MethodName) prog_23_method_14_code (2 : Nat) (Option.some (Jvm.ClassFile.FieldType.object "java/lang/StringBuilder"))) ∈ ky_B := ky_mem (kc_3 _ (List.mem_of_getElem? (i := 14) rfl)) (by decide +kernel)
theorem kw_3_57 : (Jvm.Cond.methodLink "Exactdoubles$Scribe" (39 : Nat) ({ cls := "Exactdoubles$Scribe", name := "appendWhole", desc := "(J)V" } : Jvm.MethodName)) ∈ ky_B := ky_mem (kc_3 _ (List.mem_of_getElem? (i := 57) rfl)) (by decide +kernel)
theorem kw_3_59 : (Jvm.Cond.instanceMethod ({ cls := "Exactdoubles$Scribe", name := "appendWhole", desc := "(J)V" } : Jvm.MethodName)) ∈ ky_B := ky_mem (kc_3 _ (List.mem_of_getElem? (i := 59) rfl)) (by decide +kernel)
theorem kp_X3_appendWhole : (Jvm.Cond.selects "Exactdoubles$Scribe" ({ cls := "Exactdoubles$Scribe", name := "appendWhole", desc := "(J)V" } : Jvm.MethodName) ({ cls := "Exactdoubles$Scribe", name := "appendWhole", desc := "(J)V" } : Jvm.MethodName)) ∈ ky_B := ky_mem (List.mem_append_left _ (List.mem_of_getElem? (i := 4) (by decide +kernel))) (by decide +kernel)
theorem kw_1_2 : (Jvm.Cond.initialized "Exactdoubles$Scribe") ∈ ky_B := ky_mem (kc_1 _ (List.mem_of_getElem? (i := 2) rfl)) (by decide +kernel)
theorem kw_3_60 : (Jvm.Cond.code ({ cls := "Exactdoubles$Scribe", name := "appendWhole", desc := "(J)V" } : Jvm.MethodName) prog_5_method_9_code (7 : Nat) (Option.none : Option Jvm.ClassFile.FieldType)) ∈ ky_B := ky_mem (kc_3 _ (List.mem_of_getElem? (i := 60) rfl)) (by decide +kernel)
theorem kw_3_64 : (Jvm.Cond.methodLink "Exactdoubles$Scribe" (72 : Nat) ({ cls := "java/lang/StringBuilder", name := "append", desc := "(Ljava/lang/String;)Ljava/lang/StringBuilder;" } : Jvm.MethodName)) ∈ ky_B := ky_mem (kc_3 _ (List.mem_of_getElem? (i := 64) rfl)) (by decide +kernel)
theorem kw_1_163 : (Jvm.Cond.instanceMethod ({ cls := "java/lang/StringBuilder", name := "append", desc := "(Ljava/lang/String;)Ljava/lang/StringBuilder;" } : Jvm.MethodName)) ∈ ky_B := ky_mem (kc_1 _ (List.mem_of_getElem? (i := 163) rfl)) (by decide +kernel)
theorem kw_1_164 : (Jvm.Cond.selects "java/lang/StringBuilder" ({ cls := "java/lang/StringBuilder", name := "append", desc := "(Ljava/lang/String;)Ljava/lang/StringBuilder;" } : Jvm.MethodName) ({ cls := "java/lang/StringBuilder", name := "append", desc := "(Ljava/lang/String;)Ljava/lang/StringBuilder;" } : Jvm.MethodName)) ∈ ky_B := ky_mem (kc_1 _ (List.mem_of_getElem? (i := 164) rfl)) (by decide +kernel)
theorem kw_1_165 : (Jvm.Cond.code ({ cls := "java/lang/StringBuilder", name := "append", desc := "(Ljava/lang/String;)Ljava/lang/StringBuilder;" } : Jvm.MethodName) prog_23_method_7_code (2 : Nat) (Option.some (Jvm.ClassFile.FieldType.object "java/lang/StringBuilder"))) ∈ ky_B := ky_mem (kc_1 _ (List.mem_of_getElem? (i := 165) rfl)) (by decide +kernel)
theorem kw_3_65 : (Jvm.Cond.methodLink "Exactdoubles$Scribe" (75 : Nat) ({ cls := "java/lang/StringBuilder", name := "append", desc := "(I)Ljava/lang/StringBuilder;" } : Jvm.MethodName)) ∈ ky_B := ky_mem (kc_3 _ (List.mem_of_getElem? (i := 65) rfl)) (by decide +kernel)
theorem kw_2_43 : (Jvm.Cond.instanceMethod ({ cls := "java/lang/StringBuilder", name := "append", desc := "(I)Ljava/lang/StringBuilder;" } : Jvm.MethodName)) ∈ ky_B := ky_mem (kc_2 _ (List.mem_of_getElem? (i := 43) rfl)) (by decide +kernel)
theorem kw_2_44 : (Jvm.Cond.selects "java/lang/StringBuilder" ({ cls := "java/lang/StringBuilder", name := "append", desc := "(I)Ljava/lang/StringBuilder;" } : Jvm.MethodName) ({ cls := "java/lang/StringBuilder", name := "append", desc := "(I)Ljava/lang/StringBuilder;" } : Jvm.MethodName)) ∈ ky_B := ky_mem (kc_2 _ (List.mem_of_getElem? (i := 44) rfl)) (by decide +kernel)
theorem kw_2_45 : (Jvm.Cond.code ({ cls := "java/lang/StringBuilder", name := "append", desc := "(I)Ljava/lang/StringBuilder;" } : Jvm.MethodName) prog_23_method_15_code (2 : Nat) (Option.some (Jvm.ClassFile.FieldType.object "java/lang/StringBuilder"))) ∈ ky_B := ky_mem (kc_2 _ (List.mem_of_getElem? (i := 45) rfl)) (by decide +kernel)
theorem kw_1_147 : (Jvm.Cond.methodLink "Exactdoubles$Scribe" (35 : Nat) ({ cls := "java/lang/StringBuilder", name := "setLength", desc := "(I)V" } : Jvm.MethodName)) ∈ ky_B := ky_mem (kc_1 _ (List.mem_of_getElem? (i := 147) rfl)) (by decide +kernel)
theorem kw_1_148 : (Jvm.Cond.instanceMethod ({ cls := "java/lang/StringBuilder", name := "setLength", desc := "(I)V" } : Jvm.MethodName)) ∈ ky_B := ky_mem (kc_1 _ (List.mem_of_getElem? (i := 148) rfl)) (by decide +kernel)
theorem kw_1_149 : (Jvm.Cond.selects "java/lang/StringBuilder" ({ cls := "java/lang/StringBuilder", name := "setLength", desc := "(I)V" } : Jvm.MethodName) ({ cls := "java/lang/StringBuilder", name := "setLength", desc := "(I)V" } : Jvm.MethodName)) ∈ ky_B := ky_mem (kc_1 _ (List.mem_of_getElem? (i := 149) rfl)) (by decide +kernel)
theorem kw_1_150 : (Jvm.Cond.code ({ cls := "java/lang/StringBuilder", name := "setLength", desc := "(I)V" } : Jvm.MethodName) prog_23_method_89_code (2 : Nat) (Option.none : Option Jvm.ClassFile.FieldType)) ∈ ky_B := ky_mem (kc_1 _ (List.mem_of_getElem? (i := 150) rfl)) (by decide +kernel)
theorem kw_3_10 : (Jvm.Cond.methodLink "Exactdoubles$Scribe" (42 : Nat) ({ cls := "Exactdoubles$Form", name := "isDownOne", desc := "(J)Z" } : Jvm.MethodName)) ∈ ky_B := ky_mem (kc_3 _ (List.mem_of_getElem? (i := 10) rfl)) (by decide +kernel)
theorem kw_3_33 : (Jvm.Cond.methodLink "Exactdoubles$Scribe" (52 : Nat) ({ cls := "Exactdoubles$Form", name := "sizeIn", desc := "(J)J" } : Jvm.MethodName)) ∈ ky_B := ky_mem (kc_3 _ (List.mem_of_getElem? (i := 33) rfl)) (by decide +kernel)
theorem kw_3_34 : (Jvm.Cond.methodLink "Exactdoubles$Scribe" (56 : Nat) ({ cls := "Exactdoubles$Form", name := "isEndlessOne", desc := "(J)Z" } : Jvm.MethodName)) ∈ ky_B := ky_mem (kc_3 _ (List.mem_of_getElem? (i := 34) rfl)) (by decide +kernel)
theorem kw_3_38 : (Jvm.Cond.methodLink "Exactdoubles$Scribe" (59 : Nat) ({ cls := "Exactdoubles$Form", name := "factorIn", desc := "(J)J" } : Jvm.MethodName)) ∈ ky_B := ky_mem (kc_3 _ (List.mem_of_getElem? (i := 38) rfl)) (by decide +kernel)
theorem kw_3_49 : (Jvm.Cond.methodLink "Exactdoubles$Scribe" (62 : Nat) ({ cls := "Exactdoubles$Form", name := "powerIn", desc := "(J)I" } : Jvm.MethodName)) ∈ ky_B := ky_mem (kc_3 _ (List.mem_of_getElem? (i := 49) rfl)) (by decide +kernel)
theorem kw_3_53 : (Jvm.Cond.methodLink "Exactdoubles$Scribe" (66 : Nat) ({ cls := "Exactdoubles$Scribe", name := "appendSize", desc := "(JI)V" } : Jvm.MethodName)) ∈ ky_B := ky_mem (kc_3 _ (List.mem_of_getElem? (i := 53) rfl)) (by decide +kernel)
theorem kw_3_55 : (Jvm.Cond.instanceMethod ({ cls := "Exactdoubles$Scribe", name := "appendSize", desc := "(JI)V" } : Jvm.MethodName)) ∈ ky_B := ky_mem (kc_3 _ (List.mem_of_getElem? (i := 55) rfl)) (by decide +kernel)
theorem kp_X3_appendSize : (Jvm.Cond.selects "Exactdoubles$Scribe" ({ cls := "Exactdoubles$Scribe", name := "appendSize", desc := "(JI)V" } : Jvm.MethodName) ({ cls := "Exactdoubles$Scribe", name := "appendSize", desc := "(JI)V" } : Jvm.MethodName)) ∈ ky_B := ky_mem (List.mem_append_left _ (List.mem_of_getElem? (i := 3) (by decide +kernel))) (by decide +kernel)
theorem kw_3_56 : (Jvm.Cond.code ({ cls := "Exactdoubles$Scribe", name := "appendSize", desc := "(JI)V" } : Jvm.MethodName) prog_5_method_8_code (8 : Nat) (Option.none : Option Jvm.ClassFile.FieldType)) ∈ ky_B := ky_mem (kc_3 _ (List.mem_of_getElem? (i := 56) rfl)) (by decide +kernel)
theorem kw_1_143 : (Jvm.Cond.methodLink "Exactdoubles$Scribe" (20 : Nat) ({ cls := "Exactdoubles$Scribe", name := "writeNumber", desc := "(J)V" } : Jvm.MethodName)) ∈ ky_B := ky_mem (kc_1 _ (List.mem_of_getElem? (i := 143) rfl)) (by decide +kernel)
theorem kw_1_145 : (Jvm.Cond.instanceMethod ({ cls := "Exactdoubles$Scribe", name := "writeNumber", desc := "(J)V" } : Jvm.MethodName)) ∈ ky_B := ky_mem (kc_1 _ (List.mem_of_getElem? (i := 145) rfl)) (by decide +kernel)
theorem kp_X3_writeNumber : (Jvm.Cond.selects "Exactdoubles$Scribe" ({ cls := "Exactdoubles$Scribe", name := "writeNumber", desc := "(J)V" } : Jvm.MethodName) ({ cls := "Exactdoubles$Scribe", name := "writeNumber", desc := "(J)V" } : Jvm.MethodName)) ∈ ky_B := ky_mem (List.mem_append_left _ (List.mem_of_getElem? (i := 1) (by decide +kernel))) (by decide +kernel)
theorem kw_1_146 : (Jvm.Cond.code ({ cls := "Exactdoubles$Scribe", name := "writeNumber", desc := "(J)V" } : Jvm.MethodName) prog_5_method_7_code (3 : Nat) (Option.none : Option Jvm.ClassFile.FieldType)) ∈ ky_B := ky_mem (kc_1 _ (List.mem_of_getElem? (i := 146) rfl)) (by decide +kernel)
theorem kw_3_66 : (Jvm.Cond.methodLink "Exactdoubles$Scribe" (24 : Nat) ({ cls := "java/lang/StringBuilder", name := "toString", desc := "()Ljava/lang/String;" } : Jvm.MethodName)) ∈ ky_B := ky_mem (kc_3 _ (List.mem_of_getElem? (i := 66) rfl)) (by decide +kernel)
theorem kw_2_68 : (Jvm.Cond.instanceMethod ({ cls := "java/lang/StringBuilder", name := "toString", desc := "()Ljava/lang/String;" } : Jvm.MethodName)) ∈ ky_B := ky_mem (kc_2 _ (List.mem_of_getElem? (i := 68) rfl)) (by decide +kernel)
theorem kw_2_69 : (Jvm.Cond.selects "java/lang/StringBuilder" ({ cls := "java/lang/StringBuilder", name := "toString", desc := "()Ljava/lang/String;" } : Jvm.MethodName) ({ cls := "java/lang/StringBuilder", name := "toString", desc := "()Ljava/lang/String;" } : Jvm.MethodName)) ∈ ky_B := ky_mem (kc_2 _ (List.mem_of_getElem? (i := 69) rfl)) (by decide +kernel)
theorem kw_2_70 : (Jvm.Cond.code ({ cls := "java/lang/StringBuilder", name := "toString", desc := "()Ljava/lang/String;" } : Jvm.MethodName) prog_23_method_42_code (1 : Nat) (Option.some (Jvm.ClassFile.FieldType.object "java/lang/String"))) ∈ ky_B := ky_mem (kc_2 _ (List.mem_of_getElem? (i := 70) rfl)) (by decide +kernel)
theorem kw_4_9 : (Jvm.Cond.methodLink "Exactdoubles$Scribe" (28 : Nat) ({ cls := "java/lang/StringBuilder", name := "length", desc := "()I" } : Jvm.MethodName)) ∈ ky_B := ky_mem (kc_4 _ (List.mem_of_getElem? (i := 9) rfl)) (by decide +kernel)
theorem kw_8_50 : (Jvm.Cond.selects "java/lang/StringBuilder" ({ cls := "java/lang/StringBuilder", name := "length", desc := "()I" } : Jvm.MethodName) ({ cls := "java/lang/StringBuilder", name := "length", desc := "()I" } : Jvm.MethodName)) ∈ ky_B := ky_mem (kc_8 _ (List.mem_of_getElem? (i := 50) rfl)) (by decide +kernel)
theorem kw_4_21 : (Jvm.Cond.methodLink "Exactdoubles$Scribe" (32 : Nat) ({ cls := "Exactdoubles$Scribe", name := "writeWhole", desc := "(J)V" } : Jvm.MethodName)) ∈ ky_B := ky_mem (kc_4 _ (List.mem_of_getElem? (i := 21) rfl)) (by decide +kernel)
theorem kw_4_23 : (Jvm.Cond.instanceMethod ({ cls := "Exactdoubles$Scribe", name := "writeWhole", desc := "(J)V" } : Jvm.MethodName)) ∈ ky_B := ky_mem (kc_4 _ (List.mem_of_getElem? (i := 23) rfl)) (by decide +kernel)
theorem kp_X3_writeWhole : (Jvm.Cond.selects "Exactdoubles$Scribe" ({ cls := "Exactdoubles$Scribe", name := "writeWhole", desc := "(J)V" } : Jvm.MethodName) ({ cls := "Exactdoubles$Scribe", name := "writeWhole", desc := "(J)V" } : Jvm.MethodName)) ∈ ky_B := ky_mem (List.mem_append_left _ (List.mem_of_getElem? (i := 12) (by decide +kernel))) (by decide +kernel)
theorem kw_4_24 : (Jvm.Cond.code ({ cls := "Exactdoubles$Scribe", name := "writeWhole", desc := "(J)V" } : Jvm.MethodName) prog_5_method_6_code (3 : Nat) (Option.none : Option Jvm.ClassFile.FieldType)) ∈ ky_B := ky_mem (kc_4 _ (List.mem_of_getElem? (i := 24) rfl)) (by decide +kernel)
theorem kw_1_43 : (Jvm.Cond.methodLink "Exactdoubles$Scribe" (1 : Nat) ({ cls := "java/lang/Object", name := "<init>", desc := "()V" } : Jvm.MethodName)) ∈ ky_B := ky_mem (kc_1 _ (List.mem_of_getElem? (i := 43) rfl)) (by decide +kernel)
theorem kw_1_44 : (Jvm.Cond.classLink "Exactdoubles$Scribe" (7 : Nat) "java/lang/StringBuilder") ∈ ky_B := ky_mem (kc_1 _ (List.mem_of_getElem? (i := 44) rfl)) (by decide +kernel)
theorem kw_1_46 : (Jvm.Cond.methodLink "Exactdoubles$Scribe" (9 : Nat) ({ cls := "java/lang/StringBuilder", name := "<init>", desc := "()V" } : Jvm.MethodName)) ∈ ky_B := ky_mem (kc_1 _ (List.mem_of_getElem? (i := 46) rfl)) (by decide +kernel)
theorem kw_1_47 : (Jvm.Cond.instanceMethod ({ cls := "java/lang/StringBuilder", name := "<init>", desc := "()V" } : Jvm.MethodName)) ∈ ky_B := ky_mem (kc_1 _ (List.mem_of_getElem? (i := 47) rfl)) (by decide +kernel)
theorem kw_1_48 : (Jvm.Cond.code ({ cls := "java/lang/StringBuilder", name := "<init>", desc := "()V" } : Jvm.MethodName) prog_23_method_1_code (1 : Nat) (Option.none : Option Jvm.ClassFile.FieldType)) ∈ ky_B := ky_mem (kc_1 _ (List.mem_of_getElem? (i := 48) rfl)) (by decide +kernel)
theorem kw_1_85 : (Jvm.Cond.arrayClass Jvm.ClassFile.FieldType.char) ∈ ky_B := ky_mem (kc_1 _ (List.mem_of_getElem? (i := 85) rfl)) (by decide +kernel)
theorem kv_X3_48 : ky_wV "Exactdoubles$Scribe" 48 my_J4_append_cf468 prog_23_method_14_code 2 (Option.some (Jvm.ClassFile.FieldType.object "java/lang/StringBuilder")) 1 := ⟨kw_3_11, kw_3_12, kw_3_13, kw_1_4, kw_3_14, by decide, by decide, by decide +kernel⟩
theorem kv_X3_39 : ky_wV "Exactdoubles$Scribe" 39 my_X3_appendWhole prog_5_method_9_code 7 (Option.none : Option Jvm.ClassFile.FieldType) 1 := ⟨kw_3_57, kw_3_59, kp_X3_appendWhole, kw_1_2, kw_3_60, by decide, by decide, by decide +kernel⟩
theorem kv_X3_72 : ky_wV "Exactdoubles$Scribe" 72 my_J4_append_15ec4 prog_23_method_7_code 2 (Option.some (Jvm.ClassFile.FieldType.object "java/lang/StringBuilder")) 1 := ⟨kw_3_64, kw_1_163, kw_1_164, kw_1_4, kw_1_165, by decide, by decide, by decide +kernel⟩
theorem kv_X3_75 : ky_wV "Exactdoubles$Scribe" 75 my_J4_append_bf812 prog_23_method_15_code 2 (Option.some (Jvm.ClassFile.FieldType.object "java/lang/StringBuilder")) 1 := ⟨kw_3_65, kw_2_43, kw_2_44, kw_1_4, kw_2_45, by decide, by decide, by decide +kernel⟩
theorem kv_X3_35 : ky_wV "Exactdoubles$Scribe" 35 my_J4_setLength_d00df prog_23_method_89_code 2 (Option.none : Option Jvm.ClassFile.FieldType) 1 := ⟨kw_1_147, kw_1_148, kw_1_149, kw_1_4, kw_1_150, by decide, by decide, by decide +kernel⟩
theorem ks_X3_42 : ky_wS "Exactdoubles$Scribe" 42 my_X0_isDownOne prog_2_method_6_code 2 (Option.some Jvm.ClassFile.FieldType.boolean) 1 := ⟨kw_3_10, kw_1_132, kw_1_15, kw_1_133, by decide, by decide, by decide +kernel⟩
theorem ks_X3_52 : ky_wS "Exactdoubles$Scribe" 52 my_X0_sizeIn prog_2_method_5_code 2 (Option.some Jvm.ClassFile.FieldType.long) 1 := ⟨kw_3_33, kw_1_136, kw_1_15, kw_1_137, by decide, by decide, by decide +kernel⟩
theorem ks_X3_56 : ky_wS "Exactdoubles$Scribe" 56 my_X0_isEndlessOne prog_2_method_12_code 2 (Option.some Jvm.ClassFile.FieldType.boolean) 1 := ⟨kw_3_34, kw_3_35, kw_1_15, kw_3_36, by decide, by decide, by decide +kernel⟩
theorem ks_X3_59 : ky_wS "Exactdoubles$Scribe" 59 my_X0_factorIn prog_2_method_19_code 2 (Option.some Jvm.ClassFile.FieldType.long) 1 := ⟨kw_3_38, kw_3_39, kw_1_15, kw_3_40, by decide, by decide, by decide +kernel⟩
theorem ks_X3_62 : ky_wS "Exactdoubles$Scribe" 62 my_X0_powerIn prog_2_method_20_code 2 (Option.some Jvm.ClassFile.FieldType.int) 1 := ⟨kw_3_49, kw_3_50, kw_1_15, kw_3_51, by decide, by decide, by decide +kernel⟩
theorem kv_X3_66 : ky_wV "Exactdoubles$Scribe" 66 my_X3_appendSize prog_5_method_8_code 8 (Option.none : Option Jvm.ClassFile.FieldType) 2 := ⟨kw_3_53, kw_3_55, kp_X3_appendSize, kw_1_2, kw_3_56, by decide, by decide, by decide +kernel⟩
theorem kv_X3_20 : ky_wV "Exactdoubles$Scribe" 20 my_X3_writeNumber prog_5_method_7_code 3 (Option.none : Option Jvm.ClassFile.FieldType) 1 := ⟨kw_1_143, kw_1_145, kp_X3_writeNumber, kw_1_2, kw_1_146, by decide, by decide, by decide +kernel⟩
theorem kv_X3_24 : ky_wV "Exactdoubles$Scribe" 24 my_J4_toString_0e30d prog_23_method_42_code 1 (Option.some (Jvm.ClassFile.FieldType.object "java/lang/String")) 0 := ⟨kw_3_66, kw_2_68, kw_2_69, kw_1_4, kw_2_70, by decide, by decide, by decide +kernel⟩
theorem kv_X3_28 : ky_wV "Exactdoubles$Scribe" 28 my_J4_length_8abf5 prog_23_method_93_code 1 (Option.some Jvm.ClassFile.FieldType.int) 0 := ⟨kw_4_9, kw_2_89, kw_8_50, kw_1_4, kw_2_90, by decide, by decide, by decide +kernel⟩
theorem kv_X3_32 : ky_wV "Exactdoubles$Scribe" 32 my_X3_writeWhole prog_5_method_6_code 3 (Option.none : Option Jvm.ClassFile.FieldType) 1 := ⟨kw_4_21, kw_4_23, kp_X3_writeWhole, kw_1_2, kw_4_24, by decide, by decide, by decide +kernel⟩
theorem kI_X3_9 : ky_wI "Exactdoubles$Scribe" 9 my_J4_init_da8c8 prog_23_method_1_code 1 0 := ⟨kw_1_46, kw_1_47, kw_1_4, kw_1_48, rfl, by decide, by decide, by decide +kernel⟩
def dl_X3_appendWhole_0 : List (ByteArray × Nat × Jvm.ClassFile.Instr × Nat) := [(prog_5_method_9_code, 0, .lload_n 1, 1), (prog_5_method_9_code, 1, .lconst 0, 1), (prog_5_method_9_code, 2, .lcmp, 1), (prog_5_method_9_code, 3, .ifCond .ge 13, 3), (prog_5_method_9_code, 16, .lload_n 1, 1), (prog_5_method_9_code, 17, .lconst 0, 1), (prog_5_method_9_code, 18, .lcmp, 1), (prog_5_method_9_code, 19, .ifCond .ge 7, 3), (prog_5_method_9_code, 26, .lload_n 1, 1), (prog_5_method_9_code, 27, .lneg, 1), (prog_5_method_9_code, 28, .lstore_n 3, 1), (prog_5_method_9_code, 29, .bipush 19, 2), (prog_5_method_9_code, 31, .istore 5, 2), (prog_5_method_9_code, 33, .iinc 5 (-1), 3), (prog_5_method_9_code, 36, .aload_n 0, 1), (prog_5_method_9_code, 37, .getfield 16, 3), (prog_5_method_9_code, 40, .iload 5, 2), (prog_5_method_9_code, 42, .ldc2_w 78, 3), (prog_5_method_9_code, 45, .lload_n 3, 1), (prog_5_method_9_code, 46, .ldc2_w 80, 3), (prog_5_method_9_code, 49, .lrem, 1), (prog_5_method_9_code, 50, .lsub, 1), (prog_5_method_9_code, 51, .l2i, 1), (prog_5_method_9_code, 52, .i2c, 1), (prog_5_method_9_code, 53, .castore, 1), (prog_5_method_9_code, 54, .lload_n 3, 1), (prog_5_method_9_code, 55, .ldc2_w 80, 3), (prog_5_method_9_code, 58, .ldiv, 1), (prog_5_method_9_code, 59, .lstore_n 3, 1), (prog_5_method_9_code, 60, .lload_n 3, 1), (prog_5_method_9_code, 61, .lconst 0, 1), (prog_5_method_9_code, 62, .lcmp, 1), (prog_5_method_9_code, 63, .ifCond .eq 8, 3), (prog_5_method_9_code, 71, .iload 5, 2), (prog_5_method_9_code, 73, .istore 6, 2), (prog_5_method_9_code, 75, .iload 6, 2), (prog_5_method_9_code, 77, .bipush 19, 2), (prog_5_method_9_code, 79, .if_icmp .ge 24, 3), (prog_5_method_9_code, 103, .return_, 1), (prog_5_method_9_code, 82, .aload_n 0, 1), (prog_5_method_9_code, 83, .getfield 10, 3), (prog_5_method_9_code, 86, .aload_n 0, 1), (prog_5_method_9_code, 87, .getfield 16, 3), (prog_5_method_9_code, 90, .iload 6, 2), (prog_5_method_9_code, 92, .caload, 1), (prog_5_method_9_code, 93, .invokevirtual 48, 3), (prog_5_method_9_code, 96, .pop, 1), (prog_5_method_9_code, 97, .iinc 6 1, 3), (prog_5_method_9_code, 100, .goto (-25), 3), (prog_5_method_9_code, 66, .iload 5, 2), (prog_5_method_9_code, 68, .ifCond .gt (-35), 3), (prog_5_method_9_code, 6, .aload_n 0, 1), (prog_5_method_9_code, 7, .getfield 10, 3), (prog_5_method_9_code, 10, .bipush 45, 2), (prog_5_method_9_code, 12, .invokevirtual 48, 3), (prog_5_method_9_code, 15, .pop, 1), (prog_5_method_9_code, 22, .lload_n 1, 1), (prog_5_method_9_code, 23, .goto 5, 3), (prog_5_method_8_code, 0, .lload_n 1, 1), (prog_5_method_8_code, 1, .lstore 4, 2)]
theorem db_X3_appendWhole_0 : dl_X3_appendWhole_0.all (fun x => decide (decode x.1 x.2.1 = .ok x.2.2)) = true := by decide +kernel
theorem dc_X3_appendWhole_0 : decode prog_5_method_9_code 0 = .ok (.lload_n 1, 1) := ky_dc db_X3_appendWhole_0 0 rfl
theorem dc_X3_appendWhole_1 : decode prog_5_method_9_code 1 = .ok (.lconst 0, 1) := ky_dc db_X3_appendWhole_0 1 rfl
theorem dc_X3_appendWhole_2 : decode prog_5_method_9_code 2 = .ok (.lcmp, 1) := ky_dc db_X3_appendWhole_0 2 rfl
theorem dc_X3_appendWhole_3 : decode prog_5_method_9_code 3 = .ok (.ifCond .ge 13, 3) := ky_dc db_X3_appendWhole_0 3 rfl
theorem dc_X3_appendWhole_16 : decode prog_5_method_9_code 16 = .ok (.lload_n 1, 1) := ky_dc db_X3_appendWhole_0 4 rfl
theorem dc_X3_appendWhole_17 : decode prog_5_method_9_code 17 = .ok (.lconst 0, 1) := ky_dc db_X3_appendWhole_0 5 rfl
theorem dc_X3_appendWhole_18 : decode prog_5_method_9_code 18 = .ok (.lcmp, 1) := ky_dc db_X3_appendWhole_0 6 rfl
theorem dc_X3_appendWhole_19 : decode prog_5_method_9_code 19 = .ok (.ifCond .ge 7, 3) := ky_dc db_X3_appendWhole_0 7 rfl
theorem dc_X3_appendWhole_26 : decode prog_5_method_9_code 26 = .ok (.lload_n 1, 1) := ky_dc db_X3_appendWhole_0 8 rfl
theorem dc_X3_appendWhole_27 : decode prog_5_method_9_code 27 = .ok (.lneg, 1) := ky_dc db_X3_appendWhole_0 9 rfl
theorem dc_X3_appendWhole_28 : decode prog_5_method_9_code 28 = .ok (.lstore_n 3, 1) := ky_dc db_X3_appendWhole_0 10 rfl
theorem dc_X3_appendWhole_29 : decode prog_5_method_9_code 29 = .ok (.bipush 19, 2) := ky_dc db_X3_appendWhole_0 11 rfl
theorem dc_X3_appendWhole_31 : decode prog_5_method_9_code 31 = .ok (.istore 5, 2) := ky_dc db_X3_appendWhole_0 12 rfl
theorem dc_X3_appendWhole_33 : decode prog_5_method_9_code 33 = .ok (.iinc 5 (-1), 3) := ky_dc db_X3_appendWhole_0 13 rfl
theorem dc_X3_appendWhole_36 : decode prog_5_method_9_code 36 = .ok (.aload_n 0, 1) := ky_dc db_X3_appendWhole_0 14 rfl
theorem dc_X3_appendWhole_37 : decode prog_5_method_9_code 37 = .ok (.getfield 16, 3) := ky_dc db_X3_appendWhole_0 15 rfl
theorem dc_X3_appendWhole_40 : decode prog_5_method_9_code 40 = .ok (.iload 5, 2) := ky_dc db_X3_appendWhole_0 16 rfl
theorem dc_X3_appendWhole_42 : decode prog_5_method_9_code 42 = .ok (.ldc2_w 78, 3) := ky_dc db_X3_appendWhole_0 17 rfl
theorem dc_X3_appendWhole_45 : decode prog_5_method_9_code 45 = .ok (.lload_n 3, 1) := ky_dc db_X3_appendWhole_0 18 rfl
theorem dc_X3_appendWhole_46 : decode prog_5_method_9_code 46 = .ok (.ldc2_w 80, 3) := ky_dc db_X3_appendWhole_0 19 rfl
theorem dc_X3_appendWhole_49 : decode prog_5_method_9_code 49 = .ok (.lrem, 1) := ky_dc db_X3_appendWhole_0 20 rfl
theorem dc_X3_appendWhole_50 : decode prog_5_method_9_code 50 = .ok (.lsub, 1) := ky_dc db_X3_appendWhole_0 21 rfl
theorem dc_X3_appendWhole_51 : decode prog_5_method_9_code 51 = .ok (.l2i, 1) := ky_dc db_X3_appendWhole_0 22 rfl
theorem dc_X3_appendWhole_52 : decode prog_5_method_9_code 52 = .ok (.i2c, 1) := ky_dc db_X3_appendWhole_0 23 rfl
theorem dc_X3_appendWhole_53 : decode prog_5_method_9_code 53 = .ok (.castore, 1) := ky_dc db_X3_appendWhole_0 24 rfl
theorem dc_X3_appendWhole_54 : decode prog_5_method_9_code 54 = .ok (.lload_n 3, 1) := ky_dc db_X3_appendWhole_0 25 rfl
theorem dc_X3_appendWhole_55 : decode prog_5_method_9_code 55 = .ok (.ldc2_w 80, 3) := ky_dc db_X3_appendWhole_0 26 rfl
theorem dc_X3_appendWhole_58 : decode prog_5_method_9_code 58 = .ok (.ldiv, 1) := ky_dc db_X3_appendWhole_0 27 rfl
theorem dc_X3_appendWhole_59 : decode prog_5_method_9_code 59 = .ok (.lstore_n 3, 1) := ky_dc db_X3_appendWhole_0 28 rfl
theorem dc_X3_appendWhole_60 : decode prog_5_method_9_code 60 = .ok (.lload_n 3, 1) := ky_dc db_X3_appendWhole_0 29 rfl
theorem dc_X3_appendWhole_61 : decode prog_5_method_9_code 61 = .ok (.lconst 0, 1) := ky_dc db_X3_appendWhole_0 30 rfl
theorem dc_X3_appendWhole_62 : decode prog_5_method_9_code 62 = .ok (.lcmp, 1) := ky_dc db_X3_appendWhole_0 31 rfl
theorem dc_X3_appendWhole_63 : decode prog_5_method_9_code 63 = .ok (.ifCond .eq 8, 3) := ky_dc db_X3_appendWhole_0 32 rfl
theorem dc_X3_appendWhole_71 : decode prog_5_method_9_code 71 = .ok (.iload 5, 2) := ky_dc db_X3_appendWhole_0 33 rfl
theorem dc_X3_appendWhole_73 : decode prog_5_method_9_code 73 = .ok (.istore 6, 2) := ky_dc db_X3_appendWhole_0 34 rfl
theorem dc_X3_appendWhole_75 : decode prog_5_method_9_code 75 = .ok (.iload 6, 2) := ky_dc db_X3_appendWhole_0 35 rfl
theorem dc_X3_appendWhole_77 : decode prog_5_method_9_code 77 = .ok (.bipush 19, 2) := ky_dc db_X3_appendWhole_0 36 rfl
theorem dc_X3_appendWhole_79 : decode prog_5_method_9_code 79 = .ok (.if_icmp .ge 24, 3) := ky_dc db_X3_appendWhole_0 37 rfl
theorem dc_X3_appendWhole_103 : decode prog_5_method_9_code 103 = .ok (.return_, 1) := ky_dc db_X3_appendWhole_0 38 rfl
theorem dc_X3_appendWhole_82 : decode prog_5_method_9_code 82 = .ok (.aload_n 0, 1) := ky_dc db_X3_appendWhole_0 39 rfl
theorem dc_X3_appendWhole_83 : decode prog_5_method_9_code 83 = .ok (.getfield 10, 3) := ky_dc db_X3_appendWhole_0 40 rfl
theorem dc_X3_appendWhole_86 : decode prog_5_method_9_code 86 = .ok (.aload_n 0, 1) := ky_dc db_X3_appendWhole_0 41 rfl
theorem dc_X3_appendWhole_87 : decode prog_5_method_9_code 87 = .ok (.getfield 16, 3) := ky_dc db_X3_appendWhole_0 42 rfl
theorem dc_X3_appendWhole_90 : decode prog_5_method_9_code 90 = .ok (.iload 6, 2) := ky_dc db_X3_appendWhole_0 43 rfl
theorem dc_X3_appendWhole_92 : decode prog_5_method_9_code 92 = .ok (.caload, 1) := ky_dc db_X3_appendWhole_0 44 rfl
theorem dc_X3_appendWhole_93 : decode prog_5_method_9_code 93 = .ok (.invokevirtual 48, 3) := ky_dc db_X3_appendWhole_0 45 rfl
theorem dc_X3_appendWhole_96 : decode prog_5_method_9_code 96 = .ok (.pop, 1) := ky_dc db_X3_appendWhole_0 46 rfl
theorem dc_X3_appendWhole_97 : decode prog_5_method_9_code 97 = .ok (.iinc 6 1, 3) := ky_dc db_X3_appendWhole_0 47 rfl
theorem dc_X3_appendWhole_100 : decode prog_5_method_9_code 100 = .ok (.goto (-25), 3) := ky_dc db_X3_appendWhole_0 48 rfl
theorem dc_X3_appendWhole_66 : decode prog_5_method_9_code 66 = .ok (.iload 5, 2) := ky_dc db_X3_appendWhole_0 49 rfl
theorem dc_X3_appendWhole_68 : decode prog_5_method_9_code 68 = .ok (.ifCond .gt (-35), 3) := ky_dc db_X3_appendWhole_0 50 rfl
theorem dc_X3_appendWhole_6 : decode prog_5_method_9_code 6 = .ok (.aload_n 0, 1) := ky_dc db_X3_appendWhole_0 51 rfl
theorem dc_X3_appendWhole_7 : decode prog_5_method_9_code 7 = .ok (.getfield 10, 3) := ky_dc db_X3_appendWhole_0 52 rfl
theorem dc_X3_appendWhole_10 : decode prog_5_method_9_code 10 = .ok (.bipush 45, 2) := ky_dc db_X3_appendWhole_0 53 rfl
theorem dc_X3_appendWhole_12 : decode prog_5_method_9_code 12 = .ok (.invokevirtual 48, 3) := ky_dc db_X3_appendWhole_0 54 rfl
theorem dc_X3_appendWhole_15 : decode prog_5_method_9_code 15 = .ok (.pop, 1) := ky_dc db_X3_appendWhole_0 55 rfl
theorem dc_X3_appendWhole_22 : decode prog_5_method_9_code 22 = .ok (.lload_n 1, 1) := ky_dc db_X3_appendWhole_0 56 rfl
theorem dc_X3_appendWhole_23 : decode prog_5_method_9_code 23 = .ok (.goto 5, 3) := ky_dc db_X3_appendWhole_0 57 rfl
theorem dc_X3_appendSize_0 : decode prog_5_method_8_code 0 = .ok (.lload_n 1, 1) := ky_dc db_X3_appendWhole_0 58 rfl
theorem dc_X3_appendSize_1 : decode prog_5_method_8_code 1 = .ok (.lstore 4, 2) := ky_dc db_X3_appendWhole_0 59 rfl
def dl_X3_appendSize_3 : List (ByteArray × Nat × Jvm.ClassFile.Instr × Nat) := [(prog_5_method_8_code, 3, .iload_n 3, 1), (prog_5_method_8_code, 4, .istore 6, 2), (prog_5_method_8_code, 6, .bipush 32, 2), (prog_5_method_8_code, 8, .istore 7, 2), (prog_5_method_8_code, 10, .iload 7, 2), (prog_5_method_8_code, 12, .ifCond .le 40, 3), (prog_5_method_8_code, 52, .aload_n 0, 1), (prog_5_method_8_code, 53, .lload 4, 2), (prog_5_method_8_code, 55, .invokevirtual 39, 3), (prog_5_method_8_code, 58, .aload_n 0, 1), (prog_5_method_8_code, 59, .getfield 10, 3), (prog_5_method_8_code, 62, .ldc 70, 2), (prog_5_method_8_code, 64, .invokevirtual 72, 3), (prog_5_method_8_code, 67, .pop, 1), (prog_5_method_8_code, 68, .aload_n 0, 1), (prog_5_method_8_code, 69, .getfield 10, 3), (prog_5_method_8_code, 72, .iload 6, 2), (prog_5_method_8_code, 74, .invokevirtual 75, 3), (prog_5_method_8_code, 77, .pop, 1), (prog_5_method_8_code, 78, .return_, 1), (prog_5_method_8_code, 15, .lload 4, 2), (prog_5_method_8_code, 17, .lconst 1, 1), (prog_5_method_8_code, 18, .iload 7, 2), (prog_5_method_8_code, 20, .lshl, 1), (prog_5_method_8_code, 21, .lconst 1, 1), (prog_5_method_8_code, 22, .lsub, 1), (prog_5_method_8_code, 23, .land, 1), (prog_5_method_8_code, 24, .lconst 0, 1), (prog_5_method_8_code, 25, .lcmp, 1), (prog_5_method_8_code, 26, .ifCond .ne 17, 3), (prog_5_method_8_code, 43, .iload 7, 2), (prog_5_method_8_code, 45, .iconst 1, 1), (prog_5_method_8_code, 46, .ishr, 1), (prog_5_method_8_code, 47, .istore 7, 2), (prog_5_method_8_code, 49, .goto (-39), 3), (prog_5_method_8_code, 29, .lload 4, 2), (prog_5_method_8_code, 31, .iload 7, 2), (prog_5_method_8_code, 33, .lushr, 1), (prog_5_method_8_code, 34, .lstore 4, 2), (prog_5_method_8_code, 36, .iload 6, 2), (prog_5_method_8_code, 38, .iload 7, 2), (prog_5_method_8_code, 40, .iadd, 1), (prog_5_method_8_code, 41, .istore 6, 2), (prog_5_method_6_code, 0, .aload_n 0, 1), (prog_5_method_6_code, 1, .getfield 10, 3), (prog_5_method_6_code, 4, .iconst 0, 1), (prog_5_method_6_code, 5, .invokevirtual 35, 3), (prog_5_method_6_code, 8, .aload_n 0, 1), (prog_5_method_6_code, 9, .lload_n 1, 1), (prog_5_method_6_code, 10, .invokevirtual 39, 3), (prog_5_method_6_code, 13, .return_, 1), (prog_5_method_7_code, 0, .aload_n 0, 1), (prog_5_method_7_code, 1, .getfield 10, 3), (prog_5_method_7_code, 4, .iconst 0, 1), (prog_5_method_7_code, 5, .invokevirtual 35, 3), (prog_5_method_7_code, 8, .lload_n 1, 1), (prog_5_method_7_code, 9, .invokestatic 42, 3), (prog_5_method_7_code, 12, .ifCond .eq 13, 3), (prog_5_method_7_code, 25, .lload_n 1, 1), (prog_5_method_7_code, 26, .invokestatic 52, 3)]
theorem db_X3_appendSize_3 : dl_X3_appendSize_3.all (fun x => decide (decode x.1 x.2.1 = .ok x.2.2)) = true := by decide +kernel
theorem dc_X3_appendSize_3 : decode prog_5_method_8_code 3 = .ok (.iload_n 3, 1) := ky_dc db_X3_appendSize_3 0 rfl
theorem dc_X3_appendSize_4 : decode prog_5_method_8_code 4 = .ok (.istore 6, 2) := ky_dc db_X3_appendSize_3 1 rfl
theorem dc_X3_appendSize_6 : decode prog_5_method_8_code 6 = .ok (.bipush 32, 2) := ky_dc db_X3_appendSize_3 2 rfl
theorem dc_X3_appendSize_8 : decode prog_5_method_8_code 8 = .ok (.istore 7, 2) := ky_dc db_X3_appendSize_3 3 rfl
theorem dc_X3_appendSize_10 : decode prog_5_method_8_code 10 = .ok (.iload 7, 2) := ky_dc db_X3_appendSize_3 4 rfl
theorem dc_X3_appendSize_12 : decode prog_5_method_8_code 12 = .ok (.ifCond .le 40, 3) := ky_dc db_X3_appendSize_3 5 rfl
theorem dc_X3_appendSize_52 : decode prog_5_method_8_code 52 = .ok (.aload_n 0, 1) := ky_dc db_X3_appendSize_3 6 rfl
theorem dc_X3_appendSize_53 : decode prog_5_method_8_code 53 = .ok (.lload 4, 2) := ky_dc db_X3_appendSize_3 7 rfl
theorem dc_X3_appendSize_55 : decode prog_5_method_8_code 55 = .ok (.invokevirtual 39, 3) := ky_dc db_X3_appendSize_3 8 rfl
theorem dc_X3_appendSize_58 : decode prog_5_method_8_code 58 = .ok (.aload_n 0, 1) := ky_dc db_X3_appendSize_3 9 rfl
theorem dc_X3_appendSize_59 : decode prog_5_method_8_code 59 = .ok (.getfield 10, 3) := ky_dc db_X3_appendSize_3 10 rfl
theorem dc_X3_appendSize_62 : decode prog_5_method_8_code 62 = .ok (.ldc 70, 2) := ky_dc db_X3_appendSize_3 11 rfl
theorem dc_X3_appendSize_64 : decode prog_5_method_8_code 64 = .ok (.invokevirtual 72, 3) := ky_dc db_X3_appendSize_3 12 rfl
theorem dc_X3_appendSize_67 : decode prog_5_method_8_code 67 = .ok (.pop, 1) := ky_dc db_X3_appendSize_3 13 rfl
theorem dc_X3_appendSize_68 : decode prog_5_method_8_code 68 = .ok (.aload_n 0, 1) := ky_dc db_X3_appendSize_3 14 rfl
theorem dc_X3_appendSize_69 : decode prog_5_method_8_code 69 = .ok (.getfield 10, 3) := ky_dc db_X3_appendSize_3 15 rfl
theorem dc_X3_appendSize_72 : decode prog_5_method_8_code 72 = .ok (.iload 6, 2) := ky_dc db_X3_appendSize_3 16 rfl
theorem dc_X3_appendSize_74 : decode prog_5_method_8_code 74 = .ok (.invokevirtual 75, 3) := ky_dc db_X3_appendSize_3 17 rfl
theorem dc_X3_appendSize_77 : decode prog_5_method_8_code 77 = .ok (.pop, 1) := ky_dc db_X3_appendSize_3 18 rfl
theorem dc_X3_appendSize_78 : decode prog_5_method_8_code 78 = .ok (.return_, 1) := ky_dc db_X3_appendSize_3 19 rfl
theorem dc_X3_appendSize_15 : decode prog_5_method_8_code 15 = .ok (.lload 4, 2) := ky_dc db_X3_appendSize_3 20 rfl
theorem dc_X3_appendSize_17 : decode prog_5_method_8_code 17 = .ok (.lconst 1, 1) := ky_dc db_X3_appendSize_3 21 rfl
theorem dc_X3_appendSize_18 : decode prog_5_method_8_code 18 = .ok (.iload 7, 2) := ky_dc db_X3_appendSize_3 22 rfl
theorem dc_X3_appendSize_20 : decode prog_5_method_8_code 20 = .ok (.lshl, 1) := ky_dc db_X3_appendSize_3 23 rfl
theorem dc_X3_appendSize_21 : decode prog_5_method_8_code 21 = .ok (.lconst 1, 1) := ky_dc db_X3_appendSize_3 24 rfl
theorem dc_X3_appendSize_22 : decode prog_5_method_8_code 22 = .ok (.lsub, 1) := ky_dc db_X3_appendSize_3 25 rfl
theorem dc_X3_appendSize_23 : decode prog_5_method_8_code 23 = .ok (.land, 1) := ky_dc db_X3_appendSize_3 26 rfl
theorem dc_X3_appendSize_24 : decode prog_5_method_8_code 24 = .ok (.lconst 0, 1) := ky_dc db_X3_appendSize_3 27 rfl
theorem dc_X3_appendSize_25 : decode prog_5_method_8_code 25 = .ok (.lcmp, 1) := ky_dc db_X3_appendSize_3 28 rfl
theorem dc_X3_appendSize_26 : decode prog_5_method_8_code 26 = .ok (.ifCond .ne 17, 3) := ky_dc db_X3_appendSize_3 29 rfl
theorem dc_X3_appendSize_43 : decode prog_5_method_8_code 43 = .ok (.iload 7, 2) := ky_dc db_X3_appendSize_3 30 rfl
theorem dc_X3_appendSize_45 : decode prog_5_method_8_code 45 = .ok (.iconst 1, 1) := ky_dc db_X3_appendSize_3 31 rfl
theorem dc_X3_appendSize_46 : decode prog_5_method_8_code 46 = .ok (.ishr, 1) := ky_dc db_X3_appendSize_3 32 rfl
theorem dc_X3_appendSize_47 : decode prog_5_method_8_code 47 = .ok (.istore 7, 2) := ky_dc db_X3_appendSize_3 33 rfl
theorem dc_X3_appendSize_49 : decode prog_5_method_8_code 49 = .ok (.goto (-39), 3) := ky_dc db_X3_appendSize_3 34 rfl
theorem dc_X3_appendSize_29 : decode prog_5_method_8_code 29 = .ok (.lload 4, 2) := ky_dc db_X3_appendSize_3 35 rfl
theorem dc_X3_appendSize_31 : decode prog_5_method_8_code 31 = .ok (.iload 7, 2) := ky_dc db_X3_appendSize_3 36 rfl
theorem dc_X3_appendSize_33 : decode prog_5_method_8_code 33 = .ok (.lushr, 1) := ky_dc db_X3_appendSize_3 37 rfl
theorem dc_X3_appendSize_34 : decode prog_5_method_8_code 34 = .ok (.lstore 4, 2) := ky_dc db_X3_appendSize_3 38 rfl
theorem dc_X3_appendSize_36 : decode prog_5_method_8_code 36 = .ok (.iload 6, 2) := ky_dc db_X3_appendSize_3 39 rfl
theorem dc_X3_appendSize_38 : decode prog_5_method_8_code 38 = .ok (.iload 7, 2) := ky_dc db_X3_appendSize_3 40 rfl
theorem dc_X3_appendSize_40 : decode prog_5_method_8_code 40 = .ok (.iadd, 1) := ky_dc db_X3_appendSize_3 41 rfl
theorem dc_X3_appendSize_41 : decode prog_5_method_8_code 41 = .ok (.istore 6, 2) := ky_dc db_X3_appendSize_3 42 rfl
theorem dc_X3_writeWhole_0 : decode prog_5_method_6_code 0 = .ok (.aload_n 0, 1) := ky_dc db_X3_appendSize_3 43 rfl
theorem dc_X3_writeWhole_1 : decode prog_5_method_6_code 1 = .ok (.getfield 10, 3) := ky_dc db_X3_appendSize_3 44 rfl
theorem dc_X3_writeWhole_4 : decode prog_5_method_6_code 4 = .ok (.iconst 0, 1) := ky_dc db_X3_appendSize_3 45 rfl
theorem dc_X3_writeWhole_5 : decode prog_5_method_6_code 5 = .ok (.invokevirtual 35, 3) := ky_dc db_X3_appendSize_3 46 rfl
theorem dc_X3_writeWhole_8 : decode prog_5_method_6_code 8 = .ok (.aload_n 0, 1) := ky_dc db_X3_appendSize_3 47 rfl
theorem dc_X3_writeWhole_9 : decode prog_5_method_6_code 9 = .ok (.lload_n 1, 1) := ky_dc db_X3_appendSize_3 48 rfl
theorem dc_X3_writeWhole_10 : decode prog_5_method_6_code 10 = .ok (.invokevirtual 39, 3) := ky_dc db_X3_appendSize_3 49 rfl
theorem dc_X3_writeWhole_13 : decode prog_5_method_6_code 13 = .ok (.return_, 1) := ky_dc db_X3_appendSize_3 50 rfl
theorem dc_X3_writeNumber_0 : decode prog_5_method_7_code 0 = .ok (.aload_n 0, 1) := ky_dc db_X3_appendSize_3 51 rfl
theorem dc_X3_writeNumber_1 : decode prog_5_method_7_code 1 = .ok (.getfield 10, 3) := ky_dc db_X3_appendSize_3 52 rfl
theorem dc_X3_writeNumber_4 : decode prog_5_method_7_code 4 = .ok (.iconst 0, 1) := ky_dc db_X3_appendSize_3 53 rfl
theorem dc_X3_writeNumber_5 : decode prog_5_method_7_code 5 = .ok (.invokevirtual 35, 3) := ky_dc db_X3_appendSize_3 54 rfl
theorem dc_X3_writeNumber_8 : decode prog_5_method_7_code 8 = .ok (.lload_n 1, 1) := ky_dc db_X3_appendSize_3 55 rfl
theorem dc_X3_writeNumber_9 : decode prog_5_method_7_code 9 = .ok (.invokestatic 42, 3) := ky_dc db_X3_appendSize_3 56 rfl
theorem dc_X3_writeNumber_12 : decode prog_5_method_7_code 12 = .ok (.ifCond .eq 13, 3) := ky_dc db_X3_appendSize_3 57 rfl
theorem dc_X3_writeNumber_25 : decode prog_5_method_7_code 25 = .ok (.lload_n 1, 1) := ky_dc db_X3_appendSize_3 58 rfl
theorem dc_X3_writeNumber_26 : decode prog_5_method_7_code 26 = .ok (.invokestatic 52, 3) := ky_dc db_X3_appendSize_3 59 rfl
def dl_X3_writeNumber_29 : List (ByteArray × Nat × Jvm.ClassFile.Instr × Nat) := [(prog_5_method_7_code, 29, .lconst 0, 1), (prog_5_method_7_code, 30, .lcmp, 1), (prog_5_method_7_code, 31, .ifCond .ne 16, 3), (prog_5_method_7_code, 47, .lload_n 1, 1), (prog_5_method_7_code, 48, .invokestatic 56, 3), (prog_5_method_7_code, 51, .ifCond .eq 16, 3), (prog_5_method_7_code, 67, .aload_n 0, 1), (prog_5_method_7_code, 68, .lload_n 1, 1), (prog_5_method_7_code, 69, .invokestatic 59, 3), (prog_5_method_7_code, 72, .lload_n 1, 1), (prog_5_method_7_code, 73, .invokestatic 62, 3), (prog_5_method_7_code, 76, .invokevirtual 66, 3), (prog_5_method_7_code, 79, .return_, 1), (prog_5_method_7_code, 54, .aload_n 0, 1), (prog_5_method_7_code, 55, .getfield 10, 3), (prog_5_method_7_code, 58, .bipush 69, 2), (prog_5_method_7_code, 60, .invokevirtual 48, 3), (prog_5_method_7_code, 63, .pop, 1), (prog_5_method_7_code, 64, .goto 15, 3), (prog_5_method_7_code, 34, .aload_n 0, 1), (prog_5_method_7_code, 35, .getfield 10, 3), (prog_5_method_7_code, 38, .bipush 48, 2), (prog_5_method_7_code, 40, .invokevirtual 48, 3), (prog_5_method_7_code, 43, .pop, 1), (prog_5_method_7_code, 44, .goto 35, 3), (prog_5_method_7_code, 15, .aload_n 0, 1), (prog_5_method_7_code, 16, .getfield 10, 3), (prog_5_method_7_code, 19, .bipush 45, 2), (prog_5_method_7_code, 21, .invokevirtual 48, 3), (prog_5_method_7_code, 24, .pop, 1), (prog_5_method_2_code, 0, .aload_n 0, 1), (prog_5_method_2_code, 1, .lload_n 1, 1), (prog_5_method_2_code, 2, .invokevirtual 20, 3), (prog_5_method_2_code, 5, .aload_n 0, 1), (prog_5_method_2_code, 6, .getfield 10, 3), (prog_5_method_2_code, 9, .invokevirtual 24, 3), (prog_5_method_2_code, 12, .areturn, 1), (prog_5_method_3_code, 0, .aload_n 0, 1), (prog_5_method_3_code, 1, .lload_n 1, 1), (prog_5_method_3_code, 2, .invokevirtual 20, 3), (prog_5_method_3_code, 5, .aload_n 0, 1), (prog_5_method_3_code, 6, .getfield 10, 3), (prog_5_method_3_code, 9, .invokevirtual 28, 3), (prog_5_method_3_code, 12, .ireturn, 1), (prog_5_method_4_code, 0, .aload_n 0, 1), (prog_5_method_4_code, 1, .lload_n 1, 1), (prog_5_method_4_code, 2, .invokevirtual 32, 3), (prog_5_method_4_code, 5, .aload_n 0, 1), (prog_5_method_4_code, 6, .getfield 10, 3), (prog_5_method_4_code, 9, .invokevirtual 24, 3), (prog_5_method_4_code, 12, .areturn, 1), (prog_5_method_5_code, 0, .aload_n 0, 1), (prog_5_method_5_code, 1, .lload_n 1, 1), (prog_5_method_5_code, 2, .invokevirtual 32, 3), (prog_5_method_5_code, 5, .aload_n 0, 1), (prog_5_method_5_code, 6, .getfield 10, 3), (prog_5_method_5_code, 9, .invokevirtual 28, 3), (prog_5_method_5_code, 12, .ireturn, 1), (prog_5_method_1_code, 0, .aload_n 0, 1), (prog_5_method_1_code, 1, .invokespecial 1, 3)]
theorem db_X3_writeNumber_29 : dl_X3_writeNumber_29.all (fun x => decide (decode x.1 x.2.1 = .ok x.2.2)) = true := by decide +kernel
theorem dc_X3_writeNumber_29 : decode prog_5_method_7_code 29 = .ok (.lconst 0, 1) := ky_dc db_X3_writeNumber_29 0 rfl
theorem dc_X3_writeNumber_30 : decode prog_5_method_7_code 30 = .ok (.lcmp, 1) := ky_dc db_X3_writeNumber_29 1 rfl
theorem dc_X3_writeNumber_31 : decode prog_5_method_7_code 31 = .ok (.ifCond .ne 16, 3) := ky_dc db_X3_writeNumber_29 2 rfl
theorem dc_X3_writeNumber_47 : decode prog_5_method_7_code 47 = .ok (.lload_n 1, 1) := ky_dc db_X3_writeNumber_29 3 rfl
theorem dc_X3_writeNumber_48 : decode prog_5_method_7_code 48 = .ok (.invokestatic 56, 3) := ky_dc db_X3_writeNumber_29 4 rfl
theorem dc_X3_writeNumber_51 : decode prog_5_method_7_code 51 = .ok (.ifCond .eq 16, 3) := ky_dc db_X3_writeNumber_29 5 rfl
theorem dc_X3_writeNumber_67 : decode prog_5_method_7_code 67 = .ok (.aload_n 0, 1) := ky_dc db_X3_writeNumber_29 6 rfl
theorem dc_X3_writeNumber_68 : decode prog_5_method_7_code 68 = .ok (.lload_n 1, 1) := ky_dc db_X3_writeNumber_29 7 rfl
theorem dc_X3_writeNumber_69 : decode prog_5_method_7_code 69 = .ok (.invokestatic 59, 3) := ky_dc db_X3_writeNumber_29 8 rfl
theorem dc_X3_writeNumber_72 : decode prog_5_method_7_code 72 = .ok (.lload_n 1, 1) := ky_dc db_X3_writeNumber_29 9 rfl
theorem dc_X3_writeNumber_73 : decode prog_5_method_7_code 73 = .ok (.invokestatic 62, 3) := ky_dc db_X3_writeNumber_29 10 rfl
theorem dc_X3_writeNumber_76 : decode prog_5_method_7_code 76 = .ok (.invokevirtual 66, 3) := ky_dc db_X3_writeNumber_29 11 rfl
theorem dc_X3_writeNumber_79 : decode prog_5_method_7_code 79 = .ok (.return_, 1) := ky_dc db_X3_writeNumber_29 12 rfl
theorem dc_X3_writeNumber_54 : decode prog_5_method_7_code 54 = .ok (.aload_n 0, 1) := ky_dc db_X3_writeNumber_29 13 rfl
theorem dc_X3_writeNumber_55 : decode prog_5_method_7_code 55 = .ok (.getfield 10, 3) := ky_dc db_X3_writeNumber_29 14 rfl
theorem dc_X3_writeNumber_58 : decode prog_5_method_7_code 58 = .ok (.bipush 69, 2) := ky_dc db_X3_writeNumber_29 15 rfl
theorem dc_X3_writeNumber_60 : decode prog_5_method_7_code 60 = .ok (.invokevirtual 48, 3) := ky_dc db_X3_writeNumber_29 16 rfl
theorem dc_X3_writeNumber_63 : decode prog_5_method_7_code 63 = .ok (.pop, 1) := ky_dc db_X3_writeNumber_29 17 rfl
theorem dc_X3_writeNumber_64 : decode prog_5_method_7_code 64 = .ok (.goto 15, 3) := ky_dc db_X3_writeNumber_29 18 rfl
theorem dc_X3_writeNumber_34 : decode prog_5_method_7_code 34 = .ok (.aload_n 0, 1) := ky_dc db_X3_writeNumber_29 19 rfl
theorem dc_X3_writeNumber_35 : decode prog_5_method_7_code 35 = .ok (.getfield 10, 3) := ky_dc db_X3_writeNumber_29 20 rfl
theorem dc_X3_writeNumber_38 : decode prog_5_method_7_code 38 = .ok (.bipush 48, 2) := ky_dc db_X3_writeNumber_29 21 rfl
theorem dc_X3_writeNumber_40 : decode prog_5_method_7_code 40 = .ok (.invokevirtual 48, 3) := ky_dc db_X3_writeNumber_29 22 rfl
theorem dc_X3_writeNumber_43 : decode prog_5_method_7_code 43 = .ok (.pop, 1) := ky_dc db_X3_writeNumber_29 23 rfl
theorem dc_X3_writeNumber_44 : decode prog_5_method_7_code 44 = .ok (.goto 35, 3) := ky_dc db_X3_writeNumber_29 24 rfl
theorem dc_X3_writeNumber_15 : decode prog_5_method_7_code 15 = .ok (.aload_n 0, 1) := ky_dc db_X3_writeNumber_29 25 rfl
theorem dc_X3_writeNumber_16 : decode prog_5_method_7_code 16 = .ok (.getfield 10, 3) := ky_dc db_X3_writeNumber_29 26 rfl
theorem dc_X3_writeNumber_19 : decode prog_5_method_7_code 19 = .ok (.bipush 45, 2) := ky_dc db_X3_writeNumber_29 27 rfl
theorem dc_X3_writeNumber_21 : decode prog_5_method_7_code 21 = .ok (.invokevirtual 48, 3) := ky_dc db_X3_writeNumber_29 28 rfl
theorem dc_X3_writeNumber_24 : decode prog_5_method_7_code 24 = .ok (.pop, 1) := ky_dc db_X3_writeNumber_29 29 rfl
theorem dc_X3_tellNumber_0 : decode prog_5_method_2_code 0 = .ok (.aload_n 0, 1) := ky_dc db_X3_writeNumber_29 30 rfl
theorem dc_X3_tellNumber_1 : decode prog_5_method_2_code 1 = .ok (.lload_n 1, 1) := ky_dc db_X3_writeNumber_29 31 rfl
theorem dc_X3_tellNumber_2 : decode prog_5_method_2_code 2 = .ok (.invokevirtual 20, 3) := ky_dc db_X3_writeNumber_29 32 rfl
theorem dc_X3_tellNumber_5 : decode prog_5_method_2_code 5 = .ok (.aload_n 0, 1) := ky_dc db_X3_writeNumber_29 33 rfl
theorem dc_X3_tellNumber_6 : decode prog_5_method_2_code 6 = .ok (.getfield 10, 3) := ky_dc db_X3_writeNumber_29 34 rfl
theorem dc_X3_tellNumber_9 : decode prog_5_method_2_code 9 = .ok (.invokevirtual 24, 3) := ky_dc db_X3_writeNumber_29 35 rfl
theorem dc_X3_tellNumber_12 : decode prog_5_method_2_code 12 = .ok (.areturn, 1) := ky_dc db_X3_writeNumber_29 36 rfl
theorem dc_X3_countNumber_0 : decode prog_5_method_3_code 0 = .ok (.aload_n 0, 1) := ky_dc db_X3_writeNumber_29 37 rfl
theorem dc_X3_countNumber_1 : decode prog_5_method_3_code 1 = .ok (.lload_n 1, 1) := ky_dc db_X3_writeNumber_29 38 rfl
theorem dc_X3_countNumber_2 : decode prog_5_method_3_code 2 = .ok (.invokevirtual 20, 3) := ky_dc db_X3_writeNumber_29 39 rfl
theorem dc_X3_countNumber_5 : decode prog_5_method_3_code 5 = .ok (.aload_n 0, 1) := ky_dc db_X3_writeNumber_29 40 rfl
theorem dc_X3_countNumber_6 : decode prog_5_method_3_code 6 = .ok (.getfield 10, 3) := ky_dc db_X3_writeNumber_29 41 rfl
theorem dc_X3_countNumber_9 : decode prog_5_method_3_code 9 = .ok (.invokevirtual 28, 3) := ky_dc db_X3_writeNumber_29 42 rfl
theorem dc_X3_countNumber_12 : decode prog_5_method_3_code 12 = .ok (.ireturn, 1) := ky_dc db_X3_writeNumber_29 43 rfl
theorem dc_X3_tellWhole_0 : decode prog_5_method_4_code 0 = .ok (.aload_n 0, 1) := ky_dc db_X3_writeNumber_29 44 rfl
theorem dc_X3_tellWhole_1 : decode prog_5_method_4_code 1 = .ok (.lload_n 1, 1) := ky_dc db_X3_writeNumber_29 45 rfl
theorem dc_X3_tellWhole_2 : decode prog_5_method_4_code 2 = .ok (.invokevirtual 32, 3) := ky_dc db_X3_writeNumber_29 46 rfl
theorem dc_X3_tellWhole_5 : decode prog_5_method_4_code 5 = .ok (.aload_n 0, 1) := ky_dc db_X3_writeNumber_29 47 rfl
theorem dc_X3_tellWhole_6 : decode prog_5_method_4_code 6 = .ok (.getfield 10, 3) := ky_dc db_X3_writeNumber_29 48 rfl
theorem dc_X3_tellWhole_9 : decode prog_5_method_4_code 9 = .ok (.invokevirtual 24, 3) := ky_dc db_X3_writeNumber_29 49 rfl
theorem dc_X3_tellWhole_12 : decode prog_5_method_4_code 12 = .ok (.areturn, 1) := ky_dc db_X3_writeNumber_29 50 rfl
theorem dc_X3_countWhole_0 : decode prog_5_method_5_code 0 = .ok (.aload_n 0, 1) := ky_dc db_X3_writeNumber_29 51 rfl
theorem dc_X3_countWhole_1 : decode prog_5_method_5_code 1 = .ok (.lload_n 1, 1) := ky_dc db_X3_writeNumber_29 52 rfl
theorem dc_X3_countWhole_2 : decode prog_5_method_5_code 2 = .ok (.invokevirtual 32, 3) := ky_dc db_X3_writeNumber_29 53 rfl
theorem dc_X3_countWhole_5 : decode prog_5_method_5_code 5 = .ok (.aload_n 0, 1) := ky_dc db_X3_writeNumber_29 54 rfl
theorem dc_X3_countWhole_6 : decode prog_5_method_5_code 6 = .ok (.getfield 10, 3) := ky_dc db_X3_writeNumber_29 55 rfl
theorem dc_X3_countWhole_9 : decode prog_5_method_5_code 9 = .ok (.invokevirtual 28, 3) := ky_dc db_X3_writeNumber_29 56 rfl
theorem dc_X3_countWhole_12 : decode prog_5_method_5_code 12 = .ok (.ireturn, 1) := ky_dc db_X3_writeNumber_29 57 rfl
theorem dc_X3_init_0 : decode prog_5_method_1_code 0 = .ok (.aload_n 0, 1) := ky_dc db_X3_writeNumber_29 58 rfl
theorem dc_X3_init_1 : decode prog_5_method_1_code 1 = .ok (.invokespecial 1, 3) := ky_dc db_X3_writeNumber_29 59 rfl
def dl_X3_init_4 : List (ByteArray × Nat × Jvm.ClassFile.Instr × Nat) := [(prog_5_method_1_code, 4, .aload_n 0, 1), (prog_5_method_1_code, 5, .new 7, 3), (prog_5_method_1_code, 8, .dup, 1), (prog_5_method_1_code, 9, .invokespecial 9, 3), (prog_5_method_1_code, 12, .putfield 10, 3), (prog_5_method_1_code, 15, .aload_n 0, 1), (prog_5_method_1_code, 16, .bipush 19, 2), (prog_5_method_1_code, 18, .newarray .char, 2), (prog_5_method_1_code, 20, .putfield 16, 3), (prog_5_method_1_code, 23, .return_, 1)]
theorem db_X3_init_4 : dl_X3_init_4.all (fun x => decide (decode x.1 x.2.1 = .ok x.2.2)) = true := by decide +kernel
theorem dc_X3_init_4 : decode prog_5_method_1_code 4 = .ok (.aload_n 0, 1) := ky_dc db_X3_init_4 0 rfl
theorem dc_X3_init_5 : decode prog_5_method_1_code 5 = .ok (.new 7, 3) := ky_dc db_X3_init_4 1 rfl
theorem dc_X3_init_8 : decode prog_5_method_1_code 8 = .ok (.dup, 1) := ky_dc db_X3_init_4 2 rfl
theorem dc_X3_init_9 : decode prog_5_method_1_code 9 = .ok (.invokespecial 9, 3) := ky_dc db_X3_init_4 3 rfl
theorem dc_X3_init_12 : decode prog_5_method_1_code 12 = .ok (.putfield 10, 3) := ky_dc db_X3_init_4 4 rfl
theorem dc_X3_init_15 : decode prog_5_method_1_code 15 = .ok (.aload_n 0, 1) := ky_dc db_X3_init_4 5 rfl
theorem dc_X3_init_16 : decode prog_5_method_1_code 16 = .ok (.bipush 19, 2) := ky_dc db_X3_init_4 6 rfl
theorem dc_X3_init_18 : decode prog_5_method_1_code 18 = .ok (.newarray .char, 2) := ky_dc db_X3_init_4 7 rfl
theorem dc_X3_init_20 : decode prog_5_method_1_code 20 = .ok (.putfield 16, 3) := ky_dc db_X3_init_4 8 rfl
theorem dc_X3_init_23 : decode prog_5_method_1_code 23 = .ok (.return_, 1) := ky_dc db_X3_init_4 9 rfl
