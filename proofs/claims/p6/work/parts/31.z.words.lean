abbrev my_J5_init_d00df : MethodName := ⟨"java/lang/AbstractStringBuilder", "<init>", "(I)V"⟩
abbrev my_J4_init_da8c8 : MethodName := ⟨"java/lang/StringBuilder", "<init>", "()V"⟩
abbrev my_J5_isLatin1_aae02 : MethodName := ⟨"java/lang/AbstractStringBuilder", "isLatin1", "()Z"⟩
abbrev my_J5_length_8abf5 : MethodName := ⟨"java/lang/AbstractStringBuilder", "length", "()I"⟩
abbrev my_J5_getValue_6d5f1 : MethodName := ⟨"java/lang/AbstractStringBuilder", "getValue", "()[B"⟩
abbrev my_J4_length_8abf5 : MethodName := ⟨"java/lang/StringBuilder", "length", "()I"⟩
abbrev my_J8_newLength_cabcc : MethodName := ⟨"jdk/internal/util/ArraysSupport", "newLength", "(III)I"⟩
abbrev my_J5_newCapacity_0f7a4 : MethodName := ⟨"java/lang/AbstractStringBuilder", "newCapacity", "(I)I"⟩
abbrev my_J7_copyOf_9075b : MethodName := ⟨"java/util/Arrays", "copyOf", "([BI)[B"⟩
abbrev my_J5_ensureCapacityInternal_d00df : MethodName := ⟨"java/lang/AbstractStringBuilder", "ensureCapacityInternal", "(I)V"⟩
abbrev my_J5_setLength_d00df : MethodName := ⟨"java/lang/AbstractStringBuilder", "setLength", "(I)V"⟩
abbrev my_J4_setLength_d00df : MethodName := ⟨"java/lang/StringBuilder", "setLength", "(I)V"⟩
abbrev my_J1_canEncode_fc78d : MethodName := ⟨"java/lang/StringLatin1", "canEncode", "(C)Z"⟩
abbrev my_J5_append_3fe6f : MethodName := ⟨"java/lang/AbstractStringBuilder", "append", "(C)Ljava/lang/AbstractStringBuilder;"⟩
abbrev my_J4_append_cf468 : MethodName := ⟨"java/lang/StringBuilder", "append", "(C)Ljava/lang/StringBuilder;"⟩
abbrev my_J0_coder_7d493 : MethodName := ⟨"java/lang/String", "coder", "()B"⟩
abbrev my_J0_length_8abf5 : MethodName := ⟨"java/lang/String", "length", "()I"⟩
abbrev my_J0_getBytes_840e7 : MethodName := ⟨"java/lang/String", "getBytes", "([BIB)V"⟩
abbrev my_J5_inflateIfNeededFor_a7421 : MethodName := ⟨"java/lang/AbstractStringBuilder", "inflateIfNeededFor", "(Ljava/lang/String;)V"⟩
abbrev my_J5_putStringAt_47b60 : MethodName := ⟨"java/lang/AbstractStringBuilder", "putStringAt", "(ILjava/lang/String;)V"⟩
abbrev my_J5_append_cf1ce : MethodName := ⟨"java/lang/AbstractStringBuilder", "append", "(Ljava/lang/String;)Ljava/lang/AbstractStringBuilder;"⟩
abbrev my_J4_append_15ec4 : MethodName := ⟨"java/lang/StringBuilder", "append", "(Ljava/lang/String;)Ljava/lang/StringBuilder;"⟩
theorem kw_1_52 : (Jvm.Cond.methodLink "java/lang/AbstractStringBuilder" (3 : Nat) ({ cls := "java/lang/Object", name := "<init>", desc := "()V" } : Jvm.MethodName)) ∈ ky_B := ky_mem (kc_1 _ (List.mem_of_getElem? (i := 52) rfl)) (by decide +kernel)
theorem kw_1_53 : (Jvm.Cond.fieldLink "java/lang/AbstractStringBuilder" (18 : Nat) "java/lang/String" "COMPACT_STRINGS" "Z") ∈ ky_B := ky_mem (kc_1 _ (List.mem_of_getElem? (i := 53) rfl)) (by decide +kernel)
theorem kw_1_77 : (Jvm.Cond.arrayClass Jvm.ClassFile.FieldType.byte) ∈ ky_B := ky_mem (kc_1 _ (List.mem_of_getElem? (i := 77) rfl)) (by decide +kernel)
theorem kw_1_62 : (Jvm.Cond.fieldLink "java/lang/AbstractStringBuilder" (15 : Nat) "java/lang/AbstractStringBuilder" "value" "[B") ∈ ky_B := ky_mem (kc_1 _ (List.mem_of_getElem? (i := 62) rfl)) (by decide +kernel)
theorem kw_1_63 : (Jvm.Cond.fieldLink "java/lang/AbstractStringBuilder" (22 : Nat) "java/lang/AbstractStringBuilder" "coder" "B") ∈ ky_B := ky_mem (kc_1 _ (List.mem_of_getElem? (i := 63) rfl)) (by decide +kernel)
theorem kw_1_49 : (Jvm.Cond.methodLink "java/lang/StringBuilder" (1 : Nat) ({ cls := "java/lang/AbstractStringBuilder", name := "<init>", desc := "(I)V" } : Jvm.MethodName)) ∈ ky_B := ky_mem (kc_1 _ (List.mem_of_getElem? (i := 49) rfl)) (by decide +kernel)
theorem kw_1_50 : (Jvm.Cond.instanceMethod ({ cls := "java/lang/AbstractStringBuilder", name := "<init>", desc := "(I)V" } : Jvm.MethodName)) ∈ ky_B := ky_mem (kc_1 _ (List.mem_of_getElem? (i := 50) rfl)) (by decide +kernel)
theorem kw_1_3 : (Jvm.Cond.initialized "java/lang/AbstractStringBuilder") ∈ ky_B := ky_mem (kc_1 _ (List.mem_of_getElem? (i := 3) rfl)) (by decide +kernel)
theorem kw_1_51 : (Jvm.Cond.code ({ cls := "java/lang/AbstractStringBuilder", name := "<init>", desc := "(I)V" } : Jvm.MethodName) prog_12_method_2_code (2 : Nat) (Option.none : Option Jvm.ClassFile.FieldType)) ∈ ky_B := ky_mem (kc_1 _ (List.mem_of_getElem? (i := 51) rfl)) (by decide +kernel)
theorem kw_1_66 : (Jvm.Cond.fieldLink "java/lang/AbstractStringBuilder" (79 : Nat) "java/lang/AbstractStringBuilder" "count" "I") ∈ ky_B := ky_mem (kc_1 _ (List.mem_of_getElem? (i := 66) rfl)) (by decide +kernel)
theorem kw_2_87 : (Jvm.Cond.sameMethod "java/lang/AbstractStringBuilder" "java/lang/AbstractStringBuilder" "length" "()I") ∈ ky_B := ky_mem (kc_2 _ (List.mem_of_getElem? (i := 87) rfl)) (by decide +kernel)
theorem kw_2_91 : (Jvm.Cond.methodLink "java/lang/StringBuilder" (343 : Nat) ({ cls := "java/lang/AbstractStringBuilder", name := "length", desc := "()I" } : Jvm.MethodName)) ∈ ky_B := ky_mem (kc_2 _ (List.mem_of_getElem? (i := 91) rfl)) (by decide +kernel)
theorem kw_1_75 : (Jvm.Cond.superclass "java/lang/StringBuilder" "java/lang/AbstractStringBuilder") ∈ ky_B := ky_mem (kc_1 _ (List.mem_of_getElem? (i := 75) rfl)) (by decide +kernel)
theorem kw_2_86 : (Jvm.Cond.instanceMethod ({ cls := "java/lang/AbstractStringBuilder", name := "length", desc := "()I" } : Jvm.MethodName)) ∈ ky_B := ky_mem (kc_2 _ (List.mem_of_getElem? (i := 86) rfl)) (by decide +kernel)
theorem kw_2_92 : (Jvm.Cond.code ({ cls := "java/lang/AbstractStringBuilder", name := "length", desc := "()I" } : Jvm.MethodName) prog_12_method_6_code (1 : Nat) (Option.some Jvm.ClassFile.FieldType.int)) ∈ ky_B := ky_mem (kc_2 _ (List.mem_of_getElem? (i := 92) rfl)) (by decide +kernel)
theorem kw_1_184 : (Jvm.Cond.methodLink "jdk/internal/util/ArraysSupport" (194 : Nat) ({ cls := "java/lang/Math", name := "max", desc := "(II)I" } : Jvm.MethodName)) ∈ ky_B := ky_mem (kc_1 _ (List.mem_of_getElem? (i := 184) rfl)) (by decide +kernel)
theorem kw_1_187 : (Jvm.Cond.constant "jdk/internal/util/ArraysSupport" (200 : Nat) (2147483639 : Int32)) ∈ ky_B := ky_mem (kc_1 _ (List.mem_of_getElem? (i := 187) rfl)) (by decide +kernel)
theorem kw_1_181 : (Jvm.Cond.methodLink "java/lang/AbstractStringBuilder" (114 : Nat) ({ cls := "jdk/internal/util/ArraysSupport", name := "newLength", desc := "(III)I" } : Jvm.MethodName)) ∈ ky_B := ky_mem (kc_1 _ (List.mem_of_getElem? (i := 181) rfl)) (by decide +kernel)
theorem kw_1_182 : (Jvm.Cond.static ({ cls := "jdk/internal/util/ArraysSupport", name := "newLength", desc := "(III)I" } : Jvm.MethodName)) ∈ ky_B := ky_mem (kc_1 _ (List.mem_of_getElem? (i := 182) rfl)) (by decide +kernel)
theorem kw_1_21 : (Jvm.Cond.initialized "jdk/internal/util/ArraysSupport") ∈ ky_B := ky_mem (kc_1 _ (List.mem_of_getElem? (i := 21) rfl)) (by decide +kernel)
theorem kw_1_183 : (Jvm.Cond.code ({ cls := "jdk/internal/util/ArraysSupport", name := "newLength", desc := "(III)I" } : Jvm.MethodName) prog_30_method_27_code (4 : Nat) (Option.some Jvm.ClassFile.FieldType.int)) ∈ ky_B := ky_mem (kc_1 _ (List.mem_of_getElem? (i := 183) rfl)) (by decide +kernel)
theorem kw_1_191 : (Jvm.Cond.constant "java/lang/AbstractStringBuilder" (39 : Nat) (2147483647 : Int32)) ∈ ky_B := ky_mem (kc_1 _ (List.mem_of_getElem? (i := 191) rfl)) (by decide +kernel)
theorem kw_1_202 : (Jvm.Cond.methodLink "java/util/Arrays" (304 : Nat) ({ cls := "java/lang/Math", name := "min", desc := "(II)I" } : Jvm.MethodName)) ∈ ky_B := ky_mem (kc_1 _ (List.mem_of_getElem? (i := 202) rfl)) (by decide +kernel)
theorem kw_1_205 : (Jvm.Cond.methodLink "java/util/Arrays" (150 : Nat) ({ cls := "java/lang/System", name := "arraycopy", desc := "(Ljava/lang/Object;ILjava/lang/Object;II)V" } : Jvm.MethodName)) ∈ ky_B := ky_mem (kc_1 _ (List.mem_of_getElem? (i := 205) rfl)) (by decide +kernel)
theorem kw_1_207 : (Jvm.Cond.native ({ cls := "java/lang/System", name := "arraycopy", desc := "(Ljava/lang/Object;ILjava/lang/Object;II)V" } : Jvm.MethodName)) ∈ ky_B := ky_mem (kc_1 _ (List.mem_of_getElem? (i := 207) rfl)) (by decide +kernel)
theorem kw_1_206 : (Jvm.Cond.static ({ cls := "java/lang/System", name := "arraycopy", desc := "(Ljava/lang/Object;ILjava/lang/Object;II)V" } : Jvm.MethodName)) ∈ ky_B := ky_mem (kc_1 _ (List.mem_of_getElem? (i := 206) rfl)) (by decide +kernel)
theorem kw_1_23 : (Jvm.Cond.initialized "java/lang/System") ∈ ky_B := ky_mem (kc_1 _ (List.mem_of_getElem? (i := 23) rfl)) (by decide +kernel)
theorem kw_8_43 : (Jvm.Cond.sameMethod "java/lang/AbstractStringBuilder" "java/lang/AbstractStringBuilder" "newCapacity" "(I)I") ∈ ky_B := ky_mem (kc_8 _ (List.mem_of_getElem? (i := 43) rfl)) (by decide +kernel)
theorem kw_1_211 : (Jvm.Cond.selects "java/lang/StringBuilder" ({ cls := "java/lang/AbstractStringBuilder", name := "isLatin1", desc := "()Z" } : Jvm.MethodName) ({ cls := "java/lang/AbstractStringBuilder", name := "isLatin1", desc := "()Z" } : Jvm.MethodName)) ∈ ky_B := ky_mem (kc_1 _ (List.mem_of_getElem? (i := 211) rfl)) (by decide +kernel)
theorem kw_1_177 : (Jvm.Cond.methodLink "java/lang/AbstractStringBuilder" (104 : Nat) ({ cls := "java/lang/AbstractStringBuilder", name := "newCapacity", desc := "(I)I" } : Jvm.MethodName)) ∈ ky_B := ky_mem (kc_1 _ (List.mem_of_getElem? (i := 177) rfl)) (by decide +kernel)
theorem kw_1_45 : (Jvm.Cond.instantiable "java/lang/StringBuilder" (4 : Nat)) ∈ ky_B := ky_mem (kc_1 _ (List.mem_of_getElem? (i := 45) rfl)) (by decide +kernel)
theorem kw_1_179 : (Jvm.Cond.instanceMethod ({ cls := "java/lang/AbstractStringBuilder", name := "newCapacity", desc := "(I)I" } : Jvm.MethodName)) ∈ ky_B := ky_mem (kc_1 _ (List.mem_of_getElem? (i := 179) rfl)) (by decide +kernel)
theorem kw_1_180 : (Jvm.Cond.code ({ cls := "java/lang/AbstractStringBuilder", name := "newCapacity", desc := "(I)I" } : Jvm.MethodName) prog_12_method_10_code (6 : Nat) (Option.some Jvm.ClassFile.FieldType.int)) ∈ ky_B := ky_mem (kc_1 _ (List.mem_of_getElem? (i := 180) rfl)) (by decide +kernel)
theorem kw_1_192 : (Jvm.Cond.methodLink "java/lang/AbstractStringBuilder" (108 : Nat) ({ cls := "java/util/Arrays", name := "copyOf", desc := "([BI)[B" } : Jvm.MethodName)) ∈ ky_B := ky_mem (kc_1 _ (List.mem_of_getElem? (i := 192) rfl)) (by decide +kernel)
theorem kw_1_193 : (Jvm.Cond.static ({ cls := "java/util/Arrays", name := "copyOf", desc := "([BI)[B" } : Jvm.MethodName)) ∈ ky_B := ky_mem (kc_1 _ (List.mem_of_getElem? (i := 193) rfl)) (by decide +kernel)
theorem kw_1_22 : (Jvm.Cond.initialized "java/util/Arrays") ∈ ky_B := ky_mem (kc_1 _ (List.mem_of_getElem? (i := 22) rfl)) (by decide +kernel)
theorem kw_1_194 : (Jvm.Cond.code ({ cls := "java/util/Arrays", name := "copyOf", desc := "([BI)[B" } : Jvm.MethodName) prog_29_method_121_code (3 : Nat) (Option.some (Jvm.ClassFile.FieldType.array Jvm.ClassFile.FieldType.byte))) ∈ ky_B := ky_mem (kc_1 _ (List.mem_of_getElem? (i := 194) rfl)) (by decide +kernel)
theorem kw_8_42 : (Jvm.Cond.sameMethod "java/lang/AbstractStringBuilder" "java/lang/AbstractStringBuilder" "ensureCapacityInternal" "(I)V") ∈ ky_B := ky_mem (kc_8 _ (List.mem_of_getElem? (i := 42) rfl)) (by decide +kernel)
theorem kw_1_173 : (Jvm.Cond.methodLink "java/lang/AbstractStringBuilder" (100 : Nat) ({ cls := "java/lang/AbstractStringBuilder", name := "ensureCapacityInternal", desc := "(I)V" } : Jvm.MethodName)) ∈ ky_B := ky_mem (kc_1 _ (List.mem_of_getElem? (i := 173) rfl)) (by decide +kernel)
theorem kw_1_175 : (Jvm.Cond.instanceMethod ({ cls := "java/lang/AbstractStringBuilder", name := "ensureCapacityInternal", desc := "(I)V" } : Jvm.MethodName)) ∈ ky_B := ky_mem (kc_1 _ (List.mem_of_getElem? (i := 175) rfl)) (by decide +kernel)
theorem kw_1_176 : (Jvm.Cond.code ({ cls := "java/lang/AbstractStringBuilder", name := "ensureCapacityInternal", desc := "(I)V" } : Jvm.MethodName) prog_12_method_9_code (3 : Nat) (Option.none : Option Jvm.ClassFile.FieldType)) ∈ ky_B := ky_mem (kc_1 _ (List.mem_of_getElem? (i := 176) rfl)) (by decide +kernel)
theorem kw_1_64 : (Jvm.Cond.fieldLink "java/lang/AbstractStringBuilder" (73 : Nat) "java/lang/AbstractStringBuilder" "maybeLatin1" "Z") ∈ ky_B := ky_mem (kc_1 _ (List.mem_of_getElem? (i := 64) rfl)) (by decide +kernel)
theorem kw_8_39 : (Jvm.Cond.sameMethod "java/lang/AbstractStringBuilder" "java/lang/AbstractStringBuilder" "setLength" "(I)V") ∈ ky_B := ky_mem (kc_8 _ (List.mem_of_getElem? (i := 39) rfl)) (by decide +kernel)
theorem kw_1_151 : (Jvm.Cond.methodLink "java/lang/StringBuilder" (333 : Nat) ({ cls := "java/lang/AbstractStringBuilder", name := "setLength", desc := "(I)V" } : Jvm.MethodName)) ∈ ky_B := ky_mem (kc_1 _ (List.mem_of_getElem? (i := 151) rfl)) (by decide +kernel)
theorem kw_1_152 : (Jvm.Cond.instanceMethod ({ cls := "java/lang/AbstractStringBuilder", name := "setLength", desc := "(I)V" } : Jvm.MethodName)) ∈ ky_B := ky_mem (kc_1 _ (List.mem_of_getElem? (i := 152) rfl)) (by decide +kernel)
theorem kw_1_153 : (Jvm.Cond.code ({ cls := "java/lang/AbstractStringBuilder", name := "setLength", desc := "(I)V" } : Jvm.MethodName) prog_12_method_13_code (2 : Nat) (Option.none : Option Jvm.ClassFile.FieldType)) ∈ ky_B := ky_mem (kc_1 _ (List.mem_of_getElem? (i := 153) rfl)) (by decide +kernel)
theorem kw_1_210 : (Jvm.Cond.sameMethod "java/lang/AbstractStringBuilder" "java/lang/AbstractStringBuilder" "isLatin1" "()Z") ∈ ky_B := ky_mem (kc_1 _ (List.mem_of_getElem? (i := 210) rfl)) (by decide +kernel)
theorem kw_1_208 : (Jvm.Cond.methodLink "java/lang/AbstractStringBuilder" (83 : Nat) ({ cls := "java/lang/AbstractStringBuilder", name := "isLatin1", desc := "()Z" } : Jvm.MethodName)) ∈ ky_B := ky_mem (kc_1 _ (List.mem_of_getElem? (i := 208) rfl)) (by decide +kernel)
theorem kw_1_209 : (Jvm.Cond.instanceMethod ({ cls := "java/lang/AbstractStringBuilder", name := "isLatin1", desc := "()Z" } : Jvm.MethodName)) ∈ ky_B := ky_mem (kc_1 _ (List.mem_of_getElem? (i := 209) rfl)) (by decide +kernel)
theorem kw_1_212 : (Jvm.Cond.code ({ cls := "java/lang/AbstractStringBuilder", name := "isLatin1", desc := "()Z" } : Jvm.MethodName) prog_12_method_68_code (1 : Nat) (Option.some Jvm.ClassFile.FieldType.boolean)) ∈ ky_B := ky_mem (kc_1 _ (List.mem_of_getElem? (i := 212) rfl)) (by decide +kernel)
theorem kw_3_18 : (Jvm.Cond.methodLink "java/lang/AbstractStringBuilder" (191 : Nat) ({ cls := "java/lang/StringLatin1", name := "canEncode", desc := "(C)Z" } : Jvm.MethodName)) ∈ ky_B := ky_mem (kc_3 _ (List.mem_of_getElem? (i := 18) rfl)) (by decide +kernel)
theorem kw_3_19 : (Jvm.Cond.static ({ cls := "java/lang/StringLatin1", name := "canEncode", desc := "(C)Z" } : Jvm.MethodName)) ∈ ky_B := ky_mem (kc_3 _ (List.mem_of_getElem? (i := 19) rfl)) (by decide +kernel)
theorem kw_1_25 : (Jvm.Cond.initialized "java/lang/StringLatin1") ∈ ky_B := ky_mem (kc_1 _ (List.mem_of_getElem? (i := 25) rfl)) (by decide +kernel)
theorem kw_3_20 : (Jvm.Cond.code ({ cls := "java/lang/StringLatin1", name := "canEncode", desc := "(C)Z" } : Jvm.MethodName) prog_25_method_3_code (1 : Nat) (Option.some Jvm.ClassFile.FieldType.boolean)) ∈ ky_B := ky_mem (kc_3 _ (List.mem_of_getElem? (i := 20) rfl)) (by decide +kernel)
theorem kw_8_49 : (Jvm.Cond.sameMethod "java/lang/AbstractStringBuilder" "java/lang/AbstractStringBuilder" "append" "(C)Ljava/lang/AbstractStringBuilder;") ∈ ky_B := ky_mem (kc_8 _ (List.mem_of_getElem? (i := 49) rfl)) (by decide +kernel)
theorem kw_3_15 : (Jvm.Cond.methodLink "java/lang/StringBuilder" (50 : Nat) ({ cls := "java/lang/AbstractStringBuilder", name := "append", desc := "(C)Ljava/lang/AbstractStringBuilder;" } : Jvm.MethodName)) ∈ ky_B := ky_mem (kc_3 _ (List.mem_of_getElem? (i := 15) rfl)) (by decide +kernel)
theorem kw_3_16 : (Jvm.Cond.instanceMethod ({ cls := "java/lang/AbstractStringBuilder", name := "append", desc := "(C)Ljava/lang/AbstractStringBuilder;" } : Jvm.MethodName)) ∈ ky_B := ky_mem (kc_3 _ (List.mem_of_getElem? (i := 16) rfl)) (by decide +kernel)
theorem kw_3_17 : (Jvm.Cond.code ({ cls := "java/lang/AbstractStringBuilder", name := "append", desc := "(C)Ljava/lang/AbstractStringBuilder;" } : Jvm.MethodName) prog_12_method_31_code (2 : Nat) (Option.some (Jvm.ClassFile.FieldType.object "java/lang/AbstractStringBuilder"))) ∈ ky_B := ky_mem (kc_3 _ (List.mem_of_getElem? (i := 17) rfl)) (by decide +kernel)
theorem kw_2_7 : (Jvm.Cond.fieldLink "java/lang/String" (38 : Nat) "java/lang/String" "COMPACT_STRINGS" "Z") ∈ ky_B := ky_mem (kc_2 _ (List.mem_of_getElem? (i := 7) rfl)) (by decide +kernel)
theorem kw_2_190 : (Jvm.Cond.fieldLink "java/lang/String" (15 : Nat) "java/lang/String" "coder" "B") ∈ ky_B := ky_mem (kc_2 _ (List.mem_of_getElem? (i := 190) rfl)) (by decide +kernel)
theorem kw_2_189 : (Jvm.Cond.fieldLink "java/lang/String" (9 : Nat) "java/lang/String" "value" "[B") ∈ ky_B := ky_mem (kc_2 _ (List.mem_of_getElem? (i := 189) rfl)) (by decide +kernel)
theorem kw_2_3 : (Jvm.Cond.methodLink "java/lang/String" (335 : Nat) ({ cls := "java/lang/String", name := "coder", desc := "()B" } : Jvm.MethodName)) ∈ ky_B := ky_mem (kc_2 _ (List.mem_of_getElem? (i := 3) rfl)) (by decide +kernel)
theorem kw_2_4 : (Jvm.Cond.instanceMethod ({ cls := "java/lang/String", name := "coder", desc := "()B" } : Jvm.MethodName)) ∈ ky_B := ky_mem (kc_2 _ (List.mem_of_getElem? (i := 4) rfl)) (by decide +kernel)
theorem kw_2_5 : (Jvm.Cond.selects "java/lang/String" ({ cls := "java/lang/String", name := "coder", desc := "()B" } : Jvm.MethodName) ({ cls := "java/lang/String", name := "coder", desc := "()B" } : Jvm.MethodName)) ∈ ky_B := ky_mem (kc_2 _ (List.mem_of_getElem? (i := 5) rfl)) (by decide +kernel)
theorem kw_1_5 : (Jvm.Cond.initialized "java/lang/String") ∈ ky_B := ky_mem (kc_1 _ (List.mem_of_getElem? (i := 5) rfl)) (by decide +kernel)
theorem kw_2_6 : (Jvm.Cond.code ({ cls := "java/lang/String", name := "coder", desc := "()B" } : Jvm.MethodName) prog_22_method_152_code (1 : Nat) (Option.some Jvm.ClassFile.FieldType.byte)) ∈ ky_B := ky_mem (kc_2 _ (List.mem_of_getElem? (i := 6) rfl)) (by decide +kernel)
theorem kw_2_40 : (Jvm.Cond.methodLink "java/lang/String" (212 : Nat) ({ cls := "java/lang/System", name := "arraycopy", desc := "(Ljava/lang/Object;ILjava/lang/Object;II)V" } : Jvm.MethodName)) ∈ ky_B := ky_mem (kc_2 _ (List.mem_of_getElem? (i := 40) rfl)) (by decide +kernel)
theorem kw_2_16 : (Jvm.Cond.methodLink "java/lang/AbstractStringBuilder" (40 : Nat) ({ cls := "java/lang/String", name := "coder", desc := "()B" } : Jvm.MethodName)) ∈ ky_B := ky_mem (kc_2 _ (List.mem_of_getElem? (i := 16) rfl)) (by decide +kernel)
theorem kw_8_45 : (Jvm.Cond.sameMethod "java/lang/AbstractStringBuilder" "java/lang/AbstractStringBuilder" "inflateIfNeededFor" "(Ljava/lang/String;)V") ∈ ky_B := ky_mem (kc_8 _ (List.mem_of_getElem? (i := 45) rfl)) (by decide +kernel)
theorem kw_2_12 : (Jvm.Cond.methodLink "java/lang/AbstractStringBuilder" (397 : Nat) ({ cls := "java/lang/AbstractStringBuilder", name := "inflateIfNeededFor", desc := "(Ljava/lang/String;)V" } : Jvm.MethodName)) ∈ ky_B := ky_mem (kc_2 _ (List.mem_of_getElem? (i := 12) rfl)) (by decide +kernel)
theorem kw_2_14 : (Jvm.Cond.instanceMethod ({ cls := "java/lang/AbstractStringBuilder", name := "inflateIfNeededFor", desc := "(Ljava/lang/String;)V" } : Jvm.MethodName)) ∈ ky_B := ky_mem (kc_2 _ (List.mem_of_getElem? (i := 14) rfl)) (by decide +kernel)
theorem kw_2_15 : (Jvm.Cond.code ({ cls := "java/lang/AbstractStringBuilder", name := "inflateIfNeededFor", desc := "(Ljava/lang/String;)V" } : Jvm.MethodName) prog_12_method_71_code (2 : Nat) (Option.none : Option Jvm.ClassFile.FieldType)) ∈ ky_B := ky_mem (kc_2 _ (List.mem_of_getElem? (i := 15) rfl)) (by decide +kernel)
theorem kw_2_36 : (Jvm.Cond.methodLink "java/lang/AbstractStringBuilder" (399 : Nat) ({ cls := "java/lang/String", name := "getBytes", desc := "([BIB)V" } : Jvm.MethodName)) ∈ ky_B := ky_mem (kc_2 _ (List.mem_of_getElem? (i := 36) rfl)) (by decide +kernel)
theorem kw_2_37 : (Jvm.Cond.instanceMethod ({ cls := "java/lang/String", name := "getBytes", desc := "([BIB)V" } : Jvm.MethodName)) ∈ ky_B := ky_mem (kc_2 _ (List.mem_of_getElem? (i := 37) rfl)) (by decide +kernel)
theorem kw_2_38 : (Jvm.Cond.selects "java/lang/String" ({ cls := "java/lang/String", name := "getBytes", desc := "([BIB)V" } : Jvm.MethodName) ({ cls := "java/lang/String", name := "getBytes", desc := "([BIB)V" } : Jvm.MethodName)) ∈ ky_B := ky_mem (kc_2 _ (List.mem_of_getElem? (i := 38) rfl)) (by decide +kernel)
theorem kw_2_39 : (Jvm.Cond.code ({ cls := "java/lang/String", name := "getBytes", desc := "([BIB)V" } : Jvm.MethodName) prog_22_method_147_code (4 : Nat) (Option.none : Option Jvm.ClassFile.FieldType)) ∈ ky_B := ky_mem (kc_2 _ (List.mem_of_getElem? (i := 39) rfl)) (by decide +kernel)
theorem kw_1_239 : (Jvm.Cond.methodLink "java/lang/AbstractStringBuilder" (32 : Nat) ({ cls := "java/lang/String", name := "length", desc := "()I" } : Jvm.MethodName)) ∈ ky_B := ky_mem (kc_1 _ (List.mem_of_getElem? (i := 239) rfl)) (by decide +kernel)
theorem kw_2_0 : (Jvm.Cond.instanceMethod ({ cls := "java/lang/String", name := "length", desc := "()I" } : Jvm.MethodName)) ∈ ky_B := ky_mem (kc_2 _ (List.mem_of_getElem? (i := 0) rfl)) (by decide +kernel)
theorem kw_2_1 : (Jvm.Cond.selects "java/lang/String" ({ cls := "java/lang/String", name := "length", desc := "()I" } : Jvm.MethodName) ({ cls := "java/lang/String", name := "length", desc := "()I" } : Jvm.MethodName)) ∈ ky_B := ky_mem (kc_2 _ (List.mem_of_getElem? (i := 1) rfl)) (by decide +kernel)
theorem kw_2_2 : (Jvm.Cond.code ({ cls := "java/lang/String", name := "length", desc := "()I" } : Jvm.MethodName) prog_22_method_54_code (1 : Nat) (Option.some Jvm.ClassFile.FieldType.int)) ∈ ky_B := ky_mem (kc_2 _ (List.mem_of_getElem? (i := 2) rfl)) (by decide +kernel)
theorem kw_8_44 : (Jvm.Cond.sameMethod "java/lang/AbstractStringBuilder" "java/lang/AbstractStringBuilder" "putStringAt" "(ILjava/lang/String;)V") ∈ ky_B := ky_mem (kc_8 _ (List.mem_of_getElem? (i := 44) rfl)) (by decide +kernel)
theorem kw_2_8 : (Jvm.Cond.methodLink "java/lang/AbstractStringBuilder" (208 : Nat) ({ cls := "java/lang/AbstractStringBuilder", name := "putStringAt", desc := "(ILjava/lang/String;)V" } : Jvm.MethodName)) ∈ ky_B := ky_mem (kc_2 _ (List.mem_of_getElem? (i := 8) rfl)) (by decide +kernel)
theorem kw_2_10 : (Jvm.Cond.instanceMethod ({ cls := "java/lang/AbstractStringBuilder", name := "putStringAt", desc := "(ILjava/lang/String;)V" } : Jvm.MethodName)) ∈ ky_B := ky_mem (kc_2 _ (List.mem_of_getElem? (i := 10) rfl)) (by decide +kernel)
theorem kw_2_11 : (Jvm.Cond.code ({ cls := "java/lang/AbstractStringBuilder", name := "putStringAt", desc := "(ILjava/lang/String;)V" } : Jvm.MethodName) prog_12_method_73_code (3 : Nat) (Option.none : Option Jvm.ClassFile.FieldType)) ∈ ky_B := ky_mem (kc_2 _ (List.mem_of_getElem? (i := 11) rfl)) (by decide +kernel)
theorem kw_8_40 : (Jvm.Cond.sameMethod "java/lang/AbstractStringBuilder" "java/lang/AbstractStringBuilder" "append" "(Ljava/lang/String;)Ljava/lang/AbstractStringBuilder;") ∈ ky_B := ky_mem (kc_8 _ (List.mem_of_getElem? (i := 40) rfl)) (by decide +kernel)
theorem kw_1_166 : (Jvm.Cond.methodLink "java/lang/StringBuilder" (29 : Nat) ({ cls := "java/lang/AbstractStringBuilder", name := "append", desc := "(Ljava/lang/String;)Ljava/lang/AbstractStringBuilder;" } : Jvm.MethodName)) ∈ ky_B := ky_mem (kc_1 _ (List.mem_of_getElem? (i := 166) rfl)) (by decide +kernel)
theorem kw_1_167 : (Jvm.Cond.instanceMethod ({ cls := "java/lang/AbstractStringBuilder", name := "append", desc := "(Ljava/lang/String;)Ljava/lang/AbstractStringBuilder;" } : Jvm.MethodName)) ∈ ky_B := ky_mem (kc_1 _ (List.mem_of_getElem? (i := 167) rfl)) (by decide +kernel)
theorem kw_1_168 : (Jvm.Cond.code ({ cls := "java/lang/AbstractStringBuilder", name := "append", desc := "(Ljava/lang/String;)Ljava/lang/AbstractStringBuilder;" } : Jvm.MethodName) prog_12_method_22_code (3 : Nat) (Option.some (Jvm.ClassFile.FieldType.object "java/lang/AbstractStringBuilder"))) ∈ ky_B := ky_mem (kc_1 _ (List.mem_of_getElem? (i := 168) rfl)) (by decide +kernel)
theorem kI_J4_1 : ky_wI "java/lang/StringBuilder" 1 my_J5_init_d00df prog_12_method_2_code 2 1 := ⟨kw_1_49, kw_1_50, kw_1_3, kw_1_51, rfl, by decide, by decide, by decide +kernel⟩
theorem ku_J4_343 : ky_wSU "java/lang/StringBuilder" 343 my_J5_length_8abf5 prog_12_method_6_code 1 (Option.some Jvm.ClassFile.FieldType.int) 0 := ⟨kw_2_91, kw_2_87, kw_1_75, kw_2_86, kw_1_3, kw_2_92, by decide, by decide +kernel⟩
theorem ks_J5_114 : ky_wS "java/lang/AbstractStringBuilder" 114 my_J8_newLength_cabcc prog_30_method_27_code 4 (Option.some Jvm.ClassFile.FieldType.int) 3 := ⟨kw_1_181, kw_1_182, kw_1_21, kw_1_183, by decide, by decide, by decide +kernel⟩
theorem ku_J5_104 : ky_wP "java/lang/AbstractStringBuilder" 104 "java/lang/StringBuilder" 4 my_J5_isLatin1_aae02 my_J5_newCapacity_0f7a4 prog_12_method_10_code 6 (Option.some Jvm.ClassFile.FieldType.int) 1 := ⟨kw_1_177, kw_8_43, kw_1_45, kc_1 _ (List.mem_of_getElem? (i := 178) rfl), kw_1_75, kw_1_179, kw_1_3, kw_1_180, kw_1_211, rfl, by decide, by decide +kernel⟩
theorem ks_J5_108 : ky_wS "java/lang/AbstractStringBuilder" 108 my_J7_copyOf_9075b prog_29_method_121_code 3 (Option.some (Jvm.ClassFile.FieldType.array Jvm.ClassFile.FieldType.byte)) 2 := ⟨kw_1_192, kw_1_193, kw_1_22, kw_1_194, by decide, by decide, by decide +kernel⟩
theorem ku_J5_100 : ky_wP "java/lang/AbstractStringBuilder" 100 "java/lang/StringBuilder" 4 my_J5_isLatin1_aae02 my_J5_ensureCapacityInternal_d00df prog_12_method_9_code 3 (Option.none : Option Jvm.ClassFile.FieldType) 1 := ⟨kw_1_173, kw_8_42, kw_1_45, kc_1 _ (List.mem_of_getElem? (i := 174) rfl), kw_1_75, kw_1_175, kw_1_3, kw_1_176, kw_1_211, rfl, by decide, by decide +kernel⟩
theorem ku_J4_333 : ky_wSU "java/lang/StringBuilder" 333 my_J5_setLength_d00df prog_12_method_13_code 2 (Option.none : Option Jvm.ClassFile.FieldType) 1 := ⟨kw_1_151, kw_8_39, kw_1_75, kw_1_152, kw_1_3, kw_1_153, by decide, by decide +kernel⟩
theorem ku_J5_83 : ky_wO "java/lang/AbstractStringBuilder" 83 "java/lang/StringBuilder" my_J5_isLatin1_aae02 my_J5_isLatin1_aae02 prog_12_method_68_code 1 (Option.some Jvm.ClassFile.FieldType.boolean) prog_12_method_68_code 1 (Option.some Jvm.ClassFile.FieldType.boolean) 0 := ⟨kw_1_208, kw_1_210, kw_1_209, kw_1_212, kw_1_211, kw_1_209, kw_1_3, kw_1_212, by decide, by decide +kernel⟩
theorem ks_J5_191 : ky_wS "java/lang/AbstractStringBuilder" 191 my_J1_canEncode_fc78d prog_25_method_3_code 1 (Option.some Jvm.ClassFile.FieldType.boolean) 1 := ⟨kw_3_18, kw_3_19, kw_1_25, kw_3_20, by decide, by decide, by decide +kernel⟩
theorem ku_J4_50 : ky_wSU "java/lang/StringBuilder" 50 my_J5_append_3fe6f prog_12_method_31_code 2 (Option.some (Jvm.ClassFile.FieldType.object "java/lang/AbstractStringBuilder")) 1 := ⟨kw_3_15, kw_8_49, kw_1_75, kw_3_16, kw_1_3, kw_3_17, by decide, by decide +kernel⟩
theorem kv_J0_335 : ky_wV "java/lang/String" 335 my_J0_coder_7d493 prog_22_method_152_code 1 (Option.some Jvm.ClassFile.FieldType.byte) 0 := ⟨kw_2_3, kw_2_4, kw_2_5, kw_1_5, kw_2_6, by decide, by decide, by decide +kernel⟩
theorem kv_J5_40 : ky_wV "java/lang/AbstractStringBuilder" 40 my_J0_coder_7d493 prog_22_method_152_code 1 (Option.some Jvm.ClassFile.FieldType.byte) 0 := ⟨kw_2_16, kw_2_4, kw_2_5, kw_1_5, kw_2_6, by decide, by decide, by decide +kernel⟩
theorem ku_J5_397 : ky_wP "java/lang/AbstractStringBuilder" 397 "java/lang/StringBuilder" 4 my_J5_isLatin1_aae02 my_J5_inflateIfNeededFor_a7421 prog_12_method_71_code 2 (Option.none : Option Jvm.ClassFile.FieldType) 1 := ⟨kw_2_12, kw_8_45, kw_1_45, kc_2 _ (List.mem_of_getElem? (i := 13) rfl), kw_1_75, kw_2_14, kw_1_3, kw_2_15, kw_1_211, rfl, by decide, by decide +kernel⟩
theorem kv_J5_399 : ky_wV "java/lang/AbstractStringBuilder" 399 my_J0_getBytes_840e7 prog_22_method_147_code 4 (Option.none : Option Jvm.ClassFile.FieldType) 3 := ⟨kw_2_36, kw_2_37, kw_2_38, kw_1_5, kw_2_39, by decide, by decide, by decide +kernel⟩
theorem kv_J5_32 : ky_wV "java/lang/AbstractStringBuilder" 32 my_J0_length_8abf5 prog_22_method_54_code 1 (Option.some Jvm.ClassFile.FieldType.int) 0 := ⟨kw_1_239, kw_2_0, kw_2_1, kw_1_5, kw_2_2, by decide, by decide, by decide +kernel⟩
theorem ku_J5_208 : ky_wP "java/lang/AbstractStringBuilder" 208 "java/lang/StringBuilder" 4 my_J5_isLatin1_aae02 my_J5_putStringAt_47b60 prog_12_method_73_code 3 (Option.none : Option Jvm.ClassFile.FieldType) 2 := ⟨kw_2_8, kw_8_44, kw_1_45, kc_2 _ (List.mem_of_getElem? (i := 9) rfl), kw_1_75, kw_2_10, kw_1_3, kw_2_11, kw_1_211, rfl, by decide, by decide +kernel⟩
theorem ku_J4_29 : ky_wSU "java/lang/StringBuilder" 29 my_J5_append_cf1ce prog_12_method_22_code 3 (Option.some (Jvm.ClassFile.FieldType.object "java/lang/AbstractStringBuilder")) 1 := ⟨kw_1_166, kw_8_40, kw_1_75, kw_1_167, kw_1_3, kw_1_168, by decide, by decide +kernel⟩
def dl_J5_init_d00df_0 : List (ByteArray × Nat × Jvm.ClassFile.Instr × Nat) := [(prog_12_method_2_code, 0, .aload_n 0, 1), (prog_12_method_2_code, 1, .invokespecial 3, 3), (prog_12_method_2_code, 4, .getstatic 18, 3), (prog_12_method_2_code, 7, .ifCond .eq 18, 3), (prog_12_method_2_code, 10, .aload_n 0, 1), (prog_12_method_2_code, 11, .iload_n 1, 1), (prog_12_method_2_code, 12, .newarray .byte, 2), (prog_12_method_2_code, 14, .putfield 15, 3), (prog_12_method_2_code, 17, .aload_n 0, 1), (prog_12_method_2_code, 18, .iconst 0, 1), (prog_12_method_2_code, 19, .putfield 22, 3), (prog_12_method_2_code, 22, .goto 16, 3), (prog_12_method_2_code, 38, .return_, 1), (prog_23_method_1_code, 0, .aload_n 0, 1), (prog_23_method_1_code, 1, .bipush 16, 2), (prog_23_method_1_code, 3, .invokespecial 1, 3), (prog_23_method_1_code, 6, .return_, 1), (prog_12_method_68_code, 0, .getstatic 18, 3), (prog_12_method_68_code, 3, .ifCond .eq 14, 3), (prog_12_method_68_code, 6, .aload_n 0, 1), (prog_12_method_68_code, 7, .getfield 22, 3), (prog_12_method_68_code, 10, .ifCond .ne 7, 3), (prog_12_method_68_code, 13, .iconst 1, 1), (prog_12_method_68_code, 14, .goto 4, 3), (prog_12_method_68_code, 18, .ireturn, 1), (prog_12_method_6_code, 0, .aload_n 0, 1), (prog_12_method_6_code, 1, .getfield 79, 3), (prog_12_method_6_code, 4, .ireturn, 1), (prog_12_method_64_code, 0, .aload_n 0, 1), (prog_12_method_64_code, 1, .getfield 15, 3), (prog_12_method_64_code, 4, .areturn, 1), (prog_23_method_93_code, 0, .aload_n 0, 1), (prog_23_method_93_code, 1, .invokespecial 343, 3), (prog_23_method_93_code, 4, .ireturn, 1), (prog_30_method_27_code, 0, .iload_n 0, 1), (prog_30_method_27_code, 1, .iload_n 1, 1), (prog_30_method_27_code, 2, .iload_n 2, 1), (prog_30_method_27_code, 3, .invokestatic 194, 3), (prog_30_method_27_code, 6, .iadd, 1), (prog_30_method_27_code, 7, .istore_n 3, 1), (prog_30_method_27_code, 8, .iconst 0, 1), (prog_30_method_27_code, 9, .iload_n 3, 1), (prog_30_method_27_code, 10, .if_icmp .ge 11, 3), (prog_30_method_27_code, 13, .iload_n 3, 1), (prog_30_method_27_code, 14, .ldc 200, 2), (prog_30_method_27_code, 16, .if_icmp .gt 5, 3), (prog_30_method_27_code, 19, .iload_n 3, 1), (prog_30_method_27_code, 20, .ireturn, 1), (prog_12_method_10_code, 0, .aload_n 0, 1), (prog_12_method_10_code, 1, .getfield 15, 3), (prog_12_method_10_code, 4, .arraylength, 1), (prog_12_method_10_code, 5, .istore_n 2, 1), (prog_12_method_10_code, 6, .iload_n 1, 1), (prog_12_method_10_code, 7, .aload_n 0, 1), (prog_12_method_10_code, 8, .getfield 22, 3), (prog_12_method_10_code, 11, .ishl, 1), (prog_12_method_10_code, 12, .istore_n 3, 1), (prog_12_method_10_code, 13, .iload_n 3, 1), (prog_12_method_10_code, 14, .iload_n 2, 1), (prog_12_method_10_code, 15, .isub, 1)]
theorem db_J5_init_d00df_0 : dl_J5_init_d00df_0.all (fun x => decide (decode x.1 x.2.1 = .ok x.2.2)) = true := by decide +kernel
theorem dc_J5_init_d00df_0 : decode prog_12_method_2_code 0 = .ok (.aload_n 0, 1) := ky_dc db_J5_init_d00df_0 0 rfl
theorem dc_J5_init_d00df_1 : decode prog_12_method_2_code 1 = .ok (.invokespecial 3, 3) := ky_dc db_J5_init_d00df_0 1 rfl
theorem dc_J5_init_d00df_4 : decode prog_12_method_2_code 4 = .ok (.getstatic 18, 3) := ky_dc db_J5_init_d00df_0 2 rfl
theorem dc_J5_init_d00df_7 : decode prog_12_method_2_code 7 = .ok (.ifCond .eq 18, 3) := ky_dc db_J5_init_d00df_0 3 rfl
theorem dc_J5_init_d00df_10 : decode prog_12_method_2_code 10 = .ok (.aload_n 0, 1) := ky_dc db_J5_init_d00df_0 4 rfl
theorem dc_J5_init_d00df_11 : decode prog_12_method_2_code 11 = .ok (.iload_n 1, 1) := ky_dc db_J5_init_d00df_0 5 rfl
theorem dc_J5_init_d00df_12 : decode prog_12_method_2_code 12 = .ok (.newarray .byte, 2) := ky_dc db_J5_init_d00df_0 6 rfl
theorem dc_J5_init_d00df_14 : decode prog_12_method_2_code 14 = .ok (.putfield 15, 3) := ky_dc db_J5_init_d00df_0 7 rfl
theorem dc_J5_init_d00df_17 : decode prog_12_method_2_code 17 = .ok (.aload_n 0, 1) := ky_dc db_J5_init_d00df_0 8 rfl
theorem dc_J5_init_d00df_18 : decode prog_12_method_2_code 18 = .ok (.iconst 0, 1) := ky_dc db_J5_init_d00df_0 9 rfl
theorem dc_J5_init_d00df_19 : decode prog_12_method_2_code 19 = .ok (.putfield 22, 3) := ky_dc db_J5_init_d00df_0 10 rfl
theorem dc_J5_init_d00df_22 : decode prog_12_method_2_code 22 = .ok (.goto 16, 3) := ky_dc db_J5_init_d00df_0 11 rfl
theorem dc_J5_init_d00df_38 : decode prog_12_method_2_code 38 = .ok (.return_, 1) := ky_dc db_J5_init_d00df_0 12 rfl
theorem dc_J4_init_da8c8_0 : decode prog_23_method_1_code 0 = .ok (.aload_n 0, 1) := ky_dc db_J5_init_d00df_0 13 rfl
theorem dc_J4_init_da8c8_1 : decode prog_23_method_1_code 1 = .ok (.bipush 16, 2) := ky_dc db_J5_init_d00df_0 14 rfl
theorem dc_J4_init_da8c8_3 : decode prog_23_method_1_code 3 = .ok (.invokespecial 1, 3) := ky_dc db_J5_init_d00df_0 15 rfl
theorem dc_J4_init_da8c8_6 : decode prog_23_method_1_code 6 = .ok (.return_, 1) := ky_dc db_J5_init_d00df_0 16 rfl
theorem dc_J5_isLatin1_aae02_0 : decode prog_12_method_68_code 0 = .ok (.getstatic 18, 3) := ky_dc db_J5_init_d00df_0 17 rfl
theorem dc_J5_isLatin1_aae02_3 : decode prog_12_method_68_code 3 = .ok (.ifCond .eq 14, 3) := ky_dc db_J5_init_d00df_0 18 rfl
theorem dc_J5_isLatin1_aae02_6 : decode prog_12_method_68_code 6 = .ok (.aload_n 0, 1) := ky_dc db_J5_init_d00df_0 19 rfl
theorem dc_J5_isLatin1_aae02_7 : decode prog_12_method_68_code 7 = .ok (.getfield 22, 3) := ky_dc db_J5_init_d00df_0 20 rfl
theorem dc_J5_isLatin1_aae02_10 : decode prog_12_method_68_code 10 = .ok (.ifCond .ne 7, 3) := ky_dc db_J5_init_d00df_0 21 rfl
theorem dc_J5_isLatin1_aae02_13 : decode prog_12_method_68_code 13 = .ok (.iconst 1, 1) := ky_dc db_J5_init_d00df_0 22 rfl
theorem dc_J5_isLatin1_aae02_14 : decode prog_12_method_68_code 14 = .ok (.goto 4, 3) := ky_dc db_J5_init_d00df_0 23 rfl
theorem dc_J5_isLatin1_aae02_18 : decode prog_12_method_68_code 18 = .ok (.ireturn, 1) := ky_dc db_J5_init_d00df_0 24 rfl
theorem dc_J5_length_8abf5_0 : decode prog_12_method_6_code 0 = .ok (.aload_n 0, 1) := ky_dc db_J5_init_d00df_0 25 rfl
theorem dc_J5_length_8abf5_1 : decode prog_12_method_6_code 1 = .ok (.getfield 79, 3) := ky_dc db_J5_init_d00df_0 26 rfl
theorem dc_J5_length_8abf5_4 : decode prog_12_method_6_code 4 = .ok (.ireturn, 1) := ky_dc db_J5_init_d00df_0 27 rfl
theorem dc_J5_getValue_6d5f1_0 : decode prog_12_method_64_code 0 = .ok (.aload_n 0, 1) := ky_dc db_J5_init_d00df_0 28 rfl
theorem dc_J5_getValue_6d5f1_1 : decode prog_12_method_64_code 1 = .ok (.getfield 15, 3) := ky_dc db_J5_init_d00df_0 29 rfl
theorem dc_J5_getValue_6d5f1_4 : decode prog_12_method_64_code 4 = .ok (.areturn, 1) := ky_dc db_J5_init_d00df_0 30 rfl
theorem dc_J4_length_8abf5_0 : decode prog_23_method_93_code 0 = .ok (.aload_n 0, 1) := ky_dc db_J5_init_d00df_0 31 rfl
theorem dc_J4_length_8abf5_1 : decode prog_23_method_93_code 1 = .ok (.invokespecial 343, 3) := ky_dc db_J5_init_d00df_0 32 rfl
theorem dc_J4_length_8abf5_4 : decode prog_23_method_93_code 4 = .ok (.ireturn, 1) := ky_dc db_J5_init_d00df_0 33 rfl
theorem dc_J8_newLength_cabcc_0 : decode prog_30_method_27_code 0 = .ok (.iload_n 0, 1) := ky_dc db_J5_init_d00df_0 34 rfl
theorem dc_J8_newLength_cabcc_1 : decode prog_30_method_27_code 1 = .ok (.iload_n 1, 1) := ky_dc db_J5_init_d00df_0 35 rfl
theorem dc_J8_newLength_cabcc_2 : decode prog_30_method_27_code 2 = .ok (.iload_n 2, 1) := ky_dc db_J5_init_d00df_0 36 rfl
theorem dc_J8_newLength_cabcc_3 : decode prog_30_method_27_code 3 = .ok (.invokestatic 194, 3) := ky_dc db_J5_init_d00df_0 37 rfl
theorem dc_J8_newLength_cabcc_6 : decode prog_30_method_27_code 6 = .ok (.iadd, 1) := ky_dc db_J5_init_d00df_0 38 rfl
theorem dc_J8_newLength_cabcc_7 : decode prog_30_method_27_code 7 = .ok (.istore_n 3, 1) := ky_dc db_J5_init_d00df_0 39 rfl
theorem dc_J8_newLength_cabcc_8 : decode prog_30_method_27_code 8 = .ok (.iconst 0, 1) := ky_dc db_J5_init_d00df_0 40 rfl
theorem dc_J8_newLength_cabcc_9 : decode prog_30_method_27_code 9 = .ok (.iload_n 3, 1) := ky_dc db_J5_init_d00df_0 41 rfl
theorem dc_J8_newLength_cabcc_10 : decode prog_30_method_27_code 10 = .ok (.if_icmp .ge 11, 3) := ky_dc db_J5_init_d00df_0 42 rfl
theorem dc_J8_newLength_cabcc_13 : decode prog_30_method_27_code 13 = .ok (.iload_n 3, 1) := ky_dc db_J5_init_d00df_0 43 rfl
theorem dc_J8_newLength_cabcc_14 : decode prog_30_method_27_code 14 = .ok (.ldc 200, 2) := ky_dc db_J5_init_d00df_0 44 rfl
theorem dc_J8_newLength_cabcc_16 : decode prog_30_method_27_code 16 = .ok (.if_icmp .gt 5, 3) := ky_dc db_J5_init_d00df_0 45 rfl
theorem dc_J8_newLength_cabcc_19 : decode prog_30_method_27_code 19 = .ok (.iload_n 3, 1) := ky_dc db_J5_init_d00df_0 46 rfl
theorem dc_J8_newLength_cabcc_20 : decode prog_30_method_27_code 20 = .ok (.ireturn, 1) := ky_dc db_J5_init_d00df_0 47 rfl
theorem dc_J5_newCapacity_0f7a4_0 : decode prog_12_method_10_code 0 = .ok (.aload_n 0, 1) := ky_dc db_J5_init_d00df_0 48 rfl
theorem dc_J5_newCapacity_0f7a4_1 : decode prog_12_method_10_code 1 = .ok (.getfield 15, 3) := ky_dc db_J5_init_d00df_0 49 rfl
theorem dc_J5_newCapacity_0f7a4_4 : decode prog_12_method_10_code 4 = .ok (.arraylength, 1) := ky_dc db_J5_init_d00df_0 50 rfl
theorem dc_J5_newCapacity_0f7a4_5 : decode prog_12_method_10_code 5 = .ok (.istore_n 2, 1) := ky_dc db_J5_init_d00df_0 51 rfl
theorem dc_J5_newCapacity_0f7a4_6 : decode prog_12_method_10_code 6 = .ok (.iload_n 1, 1) := ky_dc db_J5_init_d00df_0 52 rfl
theorem dc_J5_newCapacity_0f7a4_7 : decode prog_12_method_10_code 7 = .ok (.aload_n 0, 1) := ky_dc db_J5_init_d00df_0 53 rfl
theorem dc_J5_newCapacity_0f7a4_8 : decode prog_12_method_10_code 8 = .ok (.getfield 22, 3) := ky_dc db_J5_init_d00df_0 54 rfl
theorem dc_J5_newCapacity_0f7a4_11 : decode prog_12_method_10_code 11 = .ok (.ishl, 1) := ky_dc db_J5_init_d00df_0 55 rfl
theorem dc_J5_newCapacity_0f7a4_12 : decode prog_12_method_10_code 12 = .ok (.istore_n 3, 1) := ky_dc db_J5_init_d00df_0 56 rfl
theorem dc_J5_newCapacity_0f7a4_13 : decode prog_12_method_10_code 13 = .ok (.iload_n 3, 1) := ky_dc db_J5_init_d00df_0 57 rfl
theorem dc_J5_newCapacity_0f7a4_14 : decode prog_12_method_10_code 14 = .ok (.iload_n 2, 1) := ky_dc db_J5_init_d00df_0 58 rfl
theorem dc_J5_newCapacity_0f7a4_15 : decode prog_12_method_10_code 15 = .ok (.isub, 1) := ky_dc db_J5_init_d00df_0 59 rfl
def dl_J5_newCapacity_0f7a4_16 : List (ByteArray × Nat × Jvm.ClassFile.Instr × Nat) := [(prog_12_method_10_code, 16, .istore 4, 2), (prog_12_method_10_code, 18, .iload_n 2, 1), (prog_12_method_10_code, 19, .iload 4, 2), (prog_12_method_10_code, 21, .iload_n 2, 1), (prog_12_method_10_code, 22, .iconst 2, 1), (prog_12_method_10_code, 23, .aload_n 0, 1), (prog_12_method_10_code, 24, .getfield 22, 3), (prog_12_method_10_code, 27, .ishl, 1), (prog_12_method_10_code, 28, .iadd, 1), (prog_12_method_10_code, 29, .invokestatic 114, 3), (prog_12_method_10_code, 32, .istore 5, 2), (prog_12_method_10_code, 34, .iload 5, 2), (prog_12_method_10_code, 36, .ldc 39, 2), (prog_12_method_10_code, 38, .if_icmp .ne 13, 3), (prog_12_method_10_code, 51, .iload 5, 2), (prog_12_method_10_code, 53, .aload_n 0, 1), (prog_12_method_10_code, 54, .getfield 22, 3), (prog_12_method_10_code, 57, .ishr, 1), (prog_12_method_10_code, 58, .ireturn, 1), (prog_29_method_121_code, 0, .iload_n 1, 1), (prog_29_method_121_code, 1, .aload_n 0, 1), (prog_29_method_121_code, 2, .arraylength, 1), (prog_29_method_121_code, 3, .if_icmp .ne 11, 3), (prog_29_method_121_code, 14, .iload_n 1, 1), (prog_29_method_121_code, 15, .newarray .byte, 2), (prog_29_method_121_code, 17, .astore_n 2, 1), (prog_29_method_121_code, 18, .aload_n 0, 1), (prog_29_method_121_code, 19, .iconst 0, 1), (prog_29_method_121_code, 20, .aload_n 2, 1), (prog_29_method_121_code, 21, .iconst 0, 1), (prog_29_method_121_code, 22, .aload_n 0, 1), (prog_29_method_121_code, 23, .arraylength, 1), (prog_29_method_121_code, 24, .iload_n 1, 1), (prog_29_method_121_code, 25, .invokestatic 304, 3), (prog_29_method_121_code, 28, .invokestatic 150, 3), (prog_29_method_121_code, 31, .aload_n 2, 1), (prog_29_method_121_code, 32, .areturn, 1), (prog_12_method_9_code, 0, .aload_n 0, 1), (prog_12_method_9_code, 1, .getfield 15, 3), (prog_12_method_9_code, 4, .arraylength, 1), (prog_12_method_9_code, 5, .aload_n 0, 1), (prog_12_method_9_code, 6, .getfield 22, 3), (prog_12_method_9_code, 9, .ishr, 1), (prog_12_method_9_code, 10, .istore_n 2, 1), (prog_12_method_9_code, 11, .iload_n 1, 1), (prog_12_method_9_code, 12, .iload_n 2, 1), (prog_12_method_9_code, 13, .isub, 1), (prog_12_method_9_code, 14, .ifCond .le 24, 3), (prog_12_method_9_code, 38, .return_, 1), (prog_12_method_9_code, 17, .aload_n 0, 1), (prog_12_method_9_code, 18, .aload_n 0, 1), (prog_12_method_9_code, 19, .getfield 15, 3), (prog_12_method_9_code, 22, .aload_n 0, 1), (prog_12_method_9_code, 23, .iload_n 1, 1), (prog_12_method_9_code, 24, .invokevirtual 104, 3), (prog_12_method_9_code, 27, .aload_n 0, 1), (prog_12_method_9_code, 28, .getfield 22, 3), (prog_12_method_9_code, 31, .ishl, 1), (prog_12_method_9_code, 32, .invokestatic 108, 3), (prog_12_method_9_code, 35, .putfield 15, 3)]
theorem db_J5_newCapacity_0f7a4_16 : dl_J5_newCapacity_0f7a4_16.all (fun x => decide (decode x.1 x.2.1 = .ok x.2.2)) = true := by decide +kernel
theorem dc_J5_newCapacity_0f7a4_16 : decode prog_12_method_10_code 16 = .ok (.istore 4, 2) := ky_dc db_J5_newCapacity_0f7a4_16 0 rfl
theorem dc_J5_newCapacity_0f7a4_18 : decode prog_12_method_10_code 18 = .ok (.iload_n 2, 1) := ky_dc db_J5_newCapacity_0f7a4_16 1 rfl
theorem dc_J5_newCapacity_0f7a4_19 : decode prog_12_method_10_code 19 = .ok (.iload 4, 2) := ky_dc db_J5_newCapacity_0f7a4_16 2 rfl
theorem dc_J5_newCapacity_0f7a4_21 : decode prog_12_method_10_code 21 = .ok (.iload_n 2, 1) := ky_dc db_J5_newCapacity_0f7a4_16 3 rfl
theorem dc_J5_newCapacity_0f7a4_22 : decode prog_12_method_10_code 22 = .ok (.iconst 2, 1) := ky_dc db_J5_newCapacity_0f7a4_16 4 rfl
theorem dc_J5_newCapacity_0f7a4_23 : decode prog_12_method_10_code 23 = .ok (.aload_n 0, 1) := ky_dc db_J5_newCapacity_0f7a4_16 5 rfl
theorem dc_J5_newCapacity_0f7a4_24 : decode prog_12_method_10_code 24 = .ok (.getfield 22, 3) := ky_dc db_J5_newCapacity_0f7a4_16 6 rfl
theorem dc_J5_newCapacity_0f7a4_27 : decode prog_12_method_10_code 27 = .ok (.ishl, 1) := ky_dc db_J5_newCapacity_0f7a4_16 7 rfl
theorem dc_J5_newCapacity_0f7a4_28 : decode prog_12_method_10_code 28 = .ok (.iadd, 1) := ky_dc db_J5_newCapacity_0f7a4_16 8 rfl
theorem dc_J5_newCapacity_0f7a4_29 : decode prog_12_method_10_code 29 = .ok (.invokestatic 114, 3) := ky_dc db_J5_newCapacity_0f7a4_16 9 rfl
theorem dc_J5_newCapacity_0f7a4_32 : decode prog_12_method_10_code 32 = .ok (.istore 5, 2) := ky_dc db_J5_newCapacity_0f7a4_16 10 rfl
theorem dc_J5_newCapacity_0f7a4_34 : decode prog_12_method_10_code 34 = .ok (.iload 5, 2) := ky_dc db_J5_newCapacity_0f7a4_16 11 rfl
theorem dc_J5_newCapacity_0f7a4_36 : decode prog_12_method_10_code 36 = .ok (.ldc 39, 2) := ky_dc db_J5_newCapacity_0f7a4_16 12 rfl
theorem dc_J5_newCapacity_0f7a4_38 : decode prog_12_method_10_code 38 = .ok (.if_icmp .ne 13, 3) := ky_dc db_J5_newCapacity_0f7a4_16 13 rfl
theorem dc_J5_newCapacity_0f7a4_51 : decode prog_12_method_10_code 51 = .ok (.iload 5, 2) := ky_dc db_J5_newCapacity_0f7a4_16 14 rfl
theorem dc_J5_newCapacity_0f7a4_53 : decode prog_12_method_10_code 53 = .ok (.aload_n 0, 1) := ky_dc db_J5_newCapacity_0f7a4_16 15 rfl
theorem dc_J5_newCapacity_0f7a4_54 : decode prog_12_method_10_code 54 = .ok (.getfield 22, 3) := ky_dc db_J5_newCapacity_0f7a4_16 16 rfl
theorem dc_J5_newCapacity_0f7a4_57 : decode prog_12_method_10_code 57 = .ok (.ishr, 1) := ky_dc db_J5_newCapacity_0f7a4_16 17 rfl
theorem dc_J5_newCapacity_0f7a4_58 : decode prog_12_method_10_code 58 = .ok (.ireturn, 1) := ky_dc db_J5_newCapacity_0f7a4_16 18 rfl
theorem dc_J7_copyOf_9075b_0 : decode prog_29_method_121_code 0 = .ok (.iload_n 1, 1) := ky_dc db_J5_newCapacity_0f7a4_16 19 rfl
theorem dc_J7_copyOf_9075b_1 : decode prog_29_method_121_code 1 = .ok (.aload_n 0, 1) := ky_dc db_J5_newCapacity_0f7a4_16 20 rfl
theorem dc_J7_copyOf_9075b_2 : decode prog_29_method_121_code 2 = .ok (.arraylength, 1) := ky_dc db_J5_newCapacity_0f7a4_16 21 rfl
theorem dc_J7_copyOf_9075b_3 : decode prog_29_method_121_code 3 = .ok (.if_icmp .ne 11, 3) := ky_dc db_J5_newCapacity_0f7a4_16 22 rfl
theorem dc_J7_copyOf_9075b_14 : decode prog_29_method_121_code 14 = .ok (.iload_n 1, 1) := ky_dc db_J5_newCapacity_0f7a4_16 23 rfl
theorem dc_J7_copyOf_9075b_15 : decode prog_29_method_121_code 15 = .ok (.newarray .byte, 2) := ky_dc db_J5_newCapacity_0f7a4_16 24 rfl
theorem dc_J7_copyOf_9075b_17 : decode prog_29_method_121_code 17 = .ok (.astore_n 2, 1) := ky_dc db_J5_newCapacity_0f7a4_16 25 rfl
theorem dc_J7_copyOf_9075b_18 : decode prog_29_method_121_code 18 = .ok (.aload_n 0, 1) := ky_dc db_J5_newCapacity_0f7a4_16 26 rfl
theorem dc_J7_copyOf_9075b_19 : decode prog_29_method_121_code 19 = .ok (.iconst 0, 1) := ky_dc db_J5_newCapacity_0f7a4_16 27 rfl
theorem dc_J7_copyOf_9075b_20 : decode prog_29_method_121_code 20 = .ok (.aload_n 2, 1) := ky_dc db_J5_newCapacity_0f7a4_16 28 rfl
theorem dc_J7_copyOf_9075b_21 : decode prog_29_method_121_code 21 = .ok (.iconst 0, 1) := ky_dc db_J5_newCapacity_0f7a4_16 29 rfl
theorem dc_J7_copyOf_9075b_22 : decode prog_29_method_121_code 22 = .ok (.aload_n 0, 1) := ky_dc db_J5_newCapacity_0f7a4_16 30 rfl
theorem dc_J7_copyOf_9075b_23 : decode prog_29_method_121_code 23 = .ok (.arraylength, 1) := ky_dc db_J5_newCapacity_0f7a4_16 31 rfl
theorem dc_J7_copyOf_9075b_24 : decode prog_29_method_121_code 24 = .ok (.iload_n 1, 1) := ky_dc db_J5_newCapacity_0f7a4_16 32 rfl
theorem dc_J7_copyOf_9075b_25 : decode prog_29_method_121_code 25 = .ok (.invokestatic 304, 3) := ky_dc db_J5_newCapacity_0f7a4_16 33 rfl
theorem dc_J7_copyOf_9075b_28 : decode prog_29_method_121_code 28 = .ok (.invokestatic 150, 3) := ky_dc db_J5_newCapacity_0f7a4_16 34 rfl
theorem dc_J7_copyOf_9075b_31 : decode prog_29_method_121_code 31 = .ok (.aload_n 2, 1) := ky_dc db_J5_newCapacity_0f7a4_16 35 rfl
theorem dc_J7_copyOf_9075b_32 : decode prog_29_method_121_code 32 = .ok (.areturn, 1) := ky_dc db_J5_newCapacity_0f7a4_16 36 rfl
theorem dc_J5_ensureCapacityInternal_d00df_0 : decode prog_12_method_9_code 0 = .ok (.aload_n 0, 1) := ky_dc db_J5_newCapacity_0f7a4_16 37 rfl
theorem dc_J5_ensureCapacityInternal_d00df_1 : decode prog_12_method_9_code 1 = .ok (.getfield 15, 3) := ky_dc db_J5_newCapacity_0f7a4_16 38 rfl
theorem dc_J5_ensureCapacityInternal_d00df_4 : decode prog_12_method_9_code 4 = .ok (.arraylength, 1) := ky_dc db_J5_newCapacity_0f7a4_16 39 rfl
theorem dc_J5_ensureCapacityInternal_d00df_5 : decode prog_12_method_9_code 5 = .ok (.aload_n 0, 1) := ky_dc db_J5_newCapacity_0f7a4_16 40 rfl
theorem dc_J5_ensureCapacityInternal_d00df_6 : decode prog_12_method_9_code 6 = .ok (.getfield 22, 3) := ky_dc db_J5_newCapacity_0f7a4_16 41 rfl
theorem dc_J5_ensureCapacityInternal_d00df_9 : decode prog_12_method_9_code 9 = .ok (.ishr, 1) := ky_dc db_J5_newCapacity_0f7a4_16 42 rfl
theorem dc_J5_ensureCapacityInternal_d00df_10 : decode prog_12_method_9_code 10 = .ok (.istore_n 2, 1) := ky_dc db_J5_newCapacity_0f7a4_16 43 rfl
theorem dc_J5_ensureCapacityInternal_d00df_11 : decode prog_12_method_9_code 11 = .ok (.iload_n 1, 1) := ky_dc db_J5_newCapacity_0f7a4_16 44 rfl
theorem dc_J5_ensureCapacityInternal_d00df_12 : decode prog_12_method_9_code 12 = .ok (.iload_n 2, 1) := ky_dc db_J5_newCapacity_0f7a4_16 45 rfl
theorem dc_J5_ensureCapacityInternal_d00df_13 : decode prog_12_method_9_code 13 = .ok (.isub, 1) := ky_dc db_J5_newCapacity_0f7a4_16 46 rfl
theorem dc_J5_ensureCapacityInternal_d00df_14 : decode prog_12_method_9_code 14 = .ok (.ifCond .le 24, 3) := ky_dc db_J5_newCapacity_0f7a4_16 47 rfl
theorem dc_J5_ensureCapacityInternal_d00df_38 : decode prog_12_method_9_code 38 = .ok (.return_, 1) := ky_dc db_J5_newCapacity_0f7a4_16 48 rfl
theorem dc_J5_ensureCapacityInternal_d00df_17 : decode prog_12_method_9_code 17 = .ok (.aload_n 0, 1) := ky_dc db_J5_newCapacity_0f7a4_16 49 rfl
theorem dc_J5_ensureCapacityInternal_d00df_18 : decode prog_12_method_9_code 18 = .ok (.aload_n 0, 1) := ky_dc db_J5_newCapacity_0f7a4_16 50 rfl
theorem dc_J5_ensureCapacityInternal_d00df_19 : decode prog_12_method_9_code 19 = .ok (.getfield 15, 3) := ky_dc db_J5_newCapacity_0f7a4_16 51 rfl
theorem dc_J5_ensureCapacityInternal_d00df_22 : decode prog_12_method_9_code 22 = .ok (.aload_n 0, 1) := ky_dc db_J5_newCapacity_0f7a4_16 52 rfl
theorem dc_J5_ensureCapacityInternal_d00df_23 : decode prog_12_method_9_code 23 = .ok (.iload_n 1, 1) := ky_dc db_J5_newCapacity_0f7a4_16 53 rfl
theorem dc_J5_ensureCapacityInternal_d00df_24 : decode prog_12_method_9_code 24 = .ok (.invokevirtual 104, 3) := ky_dc db_J5_newCapacity_0f7a4_16 54 rfl
theorem dc_J5_ensureCapacityInternal_d00df_27 : decode prog_12_method_9_code 27 = .ok (.aload_n 0, 1) := ky_dc db_J5_newCapacity_0f7a4_16 55 rfl
theorem dc_J5_ensureCapacityInternal_d00df_28 : decode prog_12_method_9_code 28 = .ok (.getfield 22, 3) := ky_dc db_J5_newCapacity_0f7a4_16 56 rfl
theorem dc_J5_ensureCapacityInternal_d00df_31 : decode prog_12_method_9_code 31 = .ok (.ishl, 1) := ky_dc db_J5_newCapacity_0f7a4_16 57 rfl
theorem dc_J5_ensureCapacityInternal_d00df_32 : decode prog_12_method_9_code 32 = .ok (.invokestatic 108, 3) := ky_dc db_J5_newCapacity_0f7a4_16 58 rfl
theorem dc_J5_ensureCapacityInternal_d00df_35 : decode prog_12_method_9_code 35 = .ok (.putfield 15, 3) := ky_dc db_J5_newCapacity_0f7a4_16 59 rfl
def dl_J5_setLength_d00df_0 : List (ByteArray × Nat × Jvm.ClassFile.Instr × Nat) := [(prog_12_method_13_code, 0, .iload_n 1, 1), (prog_12_method_13_code, 1, .ifCond .ge 12, 3), (prog_12_method_13_code, 13, .aload_n 0, 1), (prog_12_method_13_code, 14, .iload_n 1, 1), (prog_12_method_13_code, 15, .invokevirtual 100, 3), (prog_12_method_13_code, 18, .aload_n 0, 1), (prog_12_method_13_code, 19, .getfield 79, 3), (prog_12_method_13_code, 22, .iload_n 1, 1), (prog_12_method_13_code, 23, .if_icmp .ge 40, 3), (prog_12_method_13_code, 63, .aload_n 0, 1), (prog_12_method_13_code, 64, .getfield 79, 3), (prog_12_method_13_code, 67, .iload_n 1, 1), (prog_12_method_13_code, 68, .if_icmp .le 8, 3), (prog_12_method_13_code, 76, .aload_n 0, 1), (prog_12_method_13_code, 77, .iload_n 1, 1), (prog_12_method_13_code, 78, .putfield 79, 3), (prog_12_method_13_code, 81, .return_, 1), (prog_12_method_13_code, 71, .aload_n 0, 1), (prog_12_method_13_code, 72, .iconst 1, 1), (prog_12_method_13_code, 73, .putfield 73, 3), (prog_23_method_89_code, 0, .aload_n 0, 1), (prog_23_method_89_code, 1, .iload_n 1, 1), (prog_23_method_89_code, 2, .invokespecial 333, 3), (prog_23_method_89_code, 5, .return_, 1), (prog_25_method_3_code, 0, .iload_n 0, 1), (prog_25_method_3_code, 1, .sipush 255, 3), (prog_25_method_3_code, 4, .if_icmp .gt 7, 3), (prog_25_method_3_code, 7, .iconst 1, 1), (prog_25_method_3_code, 8, .goto 4, 3), (prog_25_method_3_code, 12, .ireturn, 1), (prog_12_method_31_code, 0, .aload_n 0, 1), (prog_12_method_31_code, 1, .aload_n 0, 1), (prog_12_method_31_code, 2, .getfield 79, 3), (prog_12_method_31_code, 5, .iconst 1, 1), (prog_12_method_31_code, 6, .iadd, 1), (prog_12_method_31_code, 7, .invokevirtual 100, 3), (prog_12_method_31_code, 10, .aload_n 0, 1), (prog_12_method_31_code, 11, .invokevirtual 83, 3), (prog_12_method_31_code, 14, .ifCond .eq 31, 3), (prog_12_method_31_code, 17, .iload_n 1, 1), (prog_12_method_31_code, 18, .invokestatic 191, 3), (prog_12_method_31_code, 21, .ifCond .eq 24, 3), (prog_12_method_31_code, 24, .aload_n 0, 1), (prog_12_method_31_code, 25, .getfield 15, 3), (prog_12_method_31_code, 28, .aload_n 0, 1), (prog_12_method_31_code, 29, .dup, 1), (prog_12_method_31_code, 30, .getfield 79, 3), (prog_12_method_31_code, 33, .dup_x1, 1), (prog_12_method_31_code, 34, .iconst 1, 1), (prog_12_method_31_code, 35, .iadd, 1), (prog_12_method_31_code, 36, .putfield 79, 3), (prog_12_method_31_code, 39, .iload_n 1, 1), (prog_12_method_31_code, 40, .i2b, 1), (prog_12_method_31_code, 41, .bastore, 1), (prog_12_method_31_code, 42, .goto 33, 3), (prog_12_method_31_code, 75, .aload_n 0, 1), (prog_12_method_31_code, 76, .areturn, 1), (prog_23_method_14_code, 0, .aload_n 0, 1), (prog_23_method_14_code, 1, .iload_n 1, 1), (prog_23_method_14_code, 2, .invokespecial 50, 3)]
theorem db_J5_setLength_d00df_0 : dl_J5_setLength_d00df_0.all (fun x => decide (decode x.1 x.2.1 = .ok x.2.2)) = true := by decide +kernel
theorem dc_J5_setLength_d00df_0 : decode prog_12_method_13_code 0 = .ok (.iload_n 1, 1) := ky_dc db_J5_setLength_d00df_0 0 rfl
theorem dc_J5_setLength_d00df_1 : decode prog_12_method_13_code 1 = .ok (.ifCond .ge 12, 3) := ky_dc db_J5_setLength_d00df_0 1 rfl
theorem dc_J5_setLength_d00df_13 : decode prog_12_method_13_code 13 = .ok (.aload_n 0, 1) := ky_dc db_J5_setLength_d00df_0 2 rfl
theorem dc_J5_setLength_d00df_14 : decode prog_12_method_13_code 14 = .ok (.iload_n 1, 1) := ky_dc db_J5_setLength_d00df_0 3 rfl
theorem dc_J5_setLength_d00df_15 : decode prog_12_method_13_code 15 = .ok (.invokevirtual 100, 3) := ky_dc db_J5_setLength_d00df_0 4 rfl
theorem dc_J5_setLength_d00df_18 : decode prog_12_method_13_code 18 = .ok (.aload_n 0, 1) := ky_dc db_J5_setLength_d00df_0 5 rfl
theorem dc_J5_setLength_d00df_19 : decode prog_12_method_13_code 19 = .ok (.getfield 79, 3) := ky_dc db_J5_setLength_d00df_0 6 rfl
theorem dc_J5_setLength_d00df_22 : decode prog_12_method_13_code 22 = .ok (.iload_n 1, 1) := ky_dc db_J5_setLength_d00df_0 7 rfl
theorem dc_J5_setLength_d00df_23 : decode prog_12_method_13_code 23 = .ok (.if_icmp .ge 40, 3) := ky_dc db_J5_setLength_d00df_0 8 rfl
theorem dc_J5_setLength_d00df_63 : decode prog_12_method_13_code 63 = .ok (.aload_n 0, 1) := ky_dc db_J5_setLength_d00df_0 9 rfl
theorem dc_J5_setLength_d00df_64 : decode prog_12_method_13_code 64 = .ok (.getfield 79, 3) := ky_dc db_J5_setLength_d00df_0 10 rfl
theorem dc_J5_setLength_d00df_67 : decode prog_12_method_13_code 67 = .ok (.iload_n 1, 1) := ky_dc db_J5_setLength_d00df_0 11 rfl
theorem dc_J5_setLength_d00df_68 : decode prog_12_method_13_code 68 = .ok (.if_icmp .le 8, 3) := ky_dc db_J5_setLength_d00df_0 12 rfl
theorem dc_J5_setLength_d00df_76 : decode prog_12_method_13_code 76 = .ok (.aload_n 0, 1) := ky_dc db_J5_setLength_d00df_0 13 rfl
theorem dc_J5_setLength_d00df_77 : decode prog_12_method_13_code 77 = .ok (.iload_n 1, 1) := ky_dc db_J5_setLength_d00df_0 14 rfl
theorem dc_J5_setLength_d00df_78 : decode prog_12_method_13_code 78 = .ok (.putfield 79, 3) := ky_dc db_J5_setLength_d00df_0 15 rfl
theorem dc_J5_setLength_d00df_81 : decode prog_12_method_13_code 81 = .ok (.return_, 1) := ky_dc db_J5_setLength_d00df_0 16 rfl
theorem dc_J5_setLength_d00df_71 : decode prog_12_method_13_code 71 = .ok (.aload_n 0, 1) := ky_dc db_J5_setLength_d00df_0 17 rfl
theorem dc_J5_setLength_d00df_72 : decode prog_12_method_13_code 72 = .ok (.iconst 1, 1) := ky_dc db_J5_setLength_d00df_0 18 rfl
theorem dc_J5_setLength_d00df_73 : decode prog_12_method_13_code 73 = .ok (.putfield 73, 3) := ky_dc db_J5_setLength_d00df_0 19 rfl
theorem dc_J4_setLength_d00df_0 : decode prog_23_method_89_code 0 = .ok (.aload_n 0, 1) := ky_dc db_J5_setLength_d00df_0 20 rfl
theorem dc_J4_setLength_d00df_1 : decode prog_23_method_89_code 1 = .ok (.iload_n 1, 1) := ky_dc db_J5_setLength_d00df_0 21 rfl
theorem dc_J4_setLength_d00df_2 : decode prog_23_method_89_code 2 = .ok (.invokespecial 333, 3) := ky_dc db_J5_setLength_d00df_0 22 rfl
theorem dc_J4_setLength_d00df_5 : decode prog_23_method_89_code 5 = .ok (.return_, 1) := ky_dc db_J5_setLength_d00df_0 23 rfl
theorem dc_J1_canEncode_fc78d_0 : decode prog_25_method_3_code 0 = .ok (.iload_n 0, 1) := ky_dc db_J5_setLength_d00df_0 24 rfl
theorem dc_J1_canEncode_fc78d_1 : decode prog_25_method_3_code 1 = .ok (.sipush 255, 3) := ky_dc db_J5_setLength_d00df_0 25 rfl
theorem dc_J1_canEncode_fc78d_4 : decode prog_25_method_3_code 4 = .ok (.if_icmp .gt 7, 3) := ky_dc db_J5_setLength_d00df_0 26 rfl
theorem dc_J1_canEncode_fc78d_7 : decode prog_25_method_3_code 7 = .ok (.iconst 1, 1) := ky_dc db_J5_setLength_d00df_0 27 rfl
theorem dc_J1_canEncode_fc78d_8 : decode prog_25_method_3_code 8 = .ok (.goto 4, 3) := ky_dc db_J5_setLength_d00df_0 28 rfl
theorem dc_J1_canEncode_fc78d_12 : decode prog_25_method_3_code 12 = .ok (.ireturn, 1) := ky_dc db_J5_setLength_d00df_0 29 rfl
theorem dc_J5_append_3fe6f_0 : decode prog_12_method_31_code 0 = .ok (.aload_n 0, 1) := ky_dc db_J5_setLength_d00df_0 30 rfl
theorem dc_J5_append_3fe6f_1 : decode prog_12_method_31_code 1 = .ok (.aload_n 0, 1) := ky_dc db_J5_setLength_d00df_0 31 rfl
theorem dc_J5_append_3fe6f_2 : decode prog_12_method_31_code 2 = .ok (.getfield 79, 3) := ky_dc db_J5_setLength_d00df_0 32 rfl
theorem dc_J5_append_3fe6f_5 : decode prog_12_method_31_code 5 = .ok (.iconst 1, 1) := ky_dc db_J5_setLength_d00df_0 33 rfl
theorem dc_J5_append_3fe6f_6 : decode prog_12_method_31_code 6 = .ok (.iadd, 1) := ky_dc db_J5_setLength_d00df_0 34 rfl
theorem dc_J5_append_3fe6f_7 : decode prog_12_method_31_code 7 = .ok (.invokevirtual 100, 3) := ky_dc db_J5_setLength_d00df_0 35 rfl
theorem dc_J5_append_3fe6f_10 : decode prog_12_method_31_code 10 = .ok (.aload_n 0, 1) := ky_dc db_J5_setLength_d00df_0 36 rfl
theorem dc_J5_append_3fe6f_11 : decode prog_12_method_31_code 11 = .ok (.invokevirtual 83, 3) := ky_dc db_J5_setLength_d00df_0 37 rfl
theorem dc_J5_append_3fe6f_14 : decode prog_12_method_31_code 14 = .ok (.ifCond .eq 31, 3) := ky_dc db_J5_setLength_d00df_0 38 rfl
theorem dc_J5_append_3fe6f_17 : decode prog_12_method_31_code 17 = .ok (.iload_n 1, 1) := ky_dc db_J5_setLength_d00df_0 39 rfl
theorem dc_J5_append_3fe6f_18 : decode prog_12_method_31_code 18 = .ok (.invokestatic 191, 3) := ky_dc db_J5_setLength_d00df_0 40 rfl
theorem dc_J5_append_3fe6f_21 : decode prog_12_method_31_code 21 = .ok (.ifCond .eq 24, 3) := ky_dc db_J5_setLength_d00df_0 41 rfl
theorem dc_J5_append_3fe6f_24 : decode prog_12_method_31_code 24 = .ok (.aload_n 0, 1) := ky_dc db_J5_setLength_d00df_0 42 rfl
theorem dc_J5_append_3fe6f_25 : decode prog_12_method_31_code 25 = .ok (.getfield 15, 3) := ky_dc db_J5_setLength_d00df_0 43 rfl
theorem dc_J5_append_3fe6f_28 : decode prog_12_method_31_code 28 = .ok (.aload_n 0, 1) := ky_dc db_J5_setLength_d00df_0 44 rfl
theorem dc_J5_append_3fe6f_29 : decode prog_12_method_31_code 29 = .ok (.dup, 1) := ky_dc db_J5_setLength_d00df_0 45 rfl
theorem dc_J5_append_3fe6f_30 : decode prog_12_method_31_code 30 = .ok (.getfield 79, 3) := ky_dc db_J5_setLength_d00df_0 46 rfl
theorem dc_J5_append_3fe6f_33 : decode prog_12_method_31_code 33 = .ok (.dup_x1, 1) := ky_dc db_J5_setLength_d00df_0 47 rfl
theorem dc_J5_append_3fe6f_34 : decode prog_12_method_31_code 34 = .ok (.iconst 1, 1) := ky_dc db_J5_setLength_d00df_0 48 rfl
theorem dc_J5_append_3fe6f_35 : decode prog_12_method_31_code 35 = .ok (.iadd, 1) := ky_dc db_J5_setLength_d00df_0 49 rfl
theorem dc_J5_append_3fe6f_36 : decode prog_12_method_31_code 36 = .ok (.putfield 79, 3) := ky_dc db_J5_setLength_d00df_0 50 rfl
theorem dc_J5_append_3fe6f_39 : decode prog_12_method_31_code 39 = .ok (.iload_n 1, 1) := ky_dc db_J5_setLength_d00df_0 51 rfl
theorem dc_J5_append_3fe6f_40 : decode prog_12_method_31_code 40 = .ok (.i2b, 1) := ky_dc db_J5_setLength_d00df_0 52 rfl
theorem dc_J5_append_3fe6f_41 : decode prog_12_method_31_code 41 = .ok (.bastore, 1) := ky_dc db_J5_setLength_d00df_0 53 rfl
theorem dc_J5_append_3fe6f_42 : decode prog_12_method_31_code 42 = .ok (.goto 33, 3) := ky_dc db_J5_setLength_d00df_0 54 rfl
theorem dc_J5_append_3fe6f_75 : decode prog_12_method_31_code 75 = .ok (.aload_n 0, 1) := ky_dc db_J5_setLength_d00df_0 55 rfl
theorem dc_J5_append_3fe6f_76 : decode prog_12_method_31_code 76 = .ok (.areturn, 1) := ky_dc db_J5_setLength_d00df_0 56 rfl
theorem dc_J4_append_cf468_0 : decode prog_23_method_14_code 0 = .ok (.aload_n 0, 1) := ky_dc db_J5_setLength_d00df_0 57 rfl
theorem dc_J4_append_cf468_1 : decode prog_23_method_14_code 1 = .ok (.iload_n 1, 1) := ky_dc db_J5_setLength_d00df_0 58 rfl
theorem dc_J4_append_cf468_2 : decode prog_23_method_14_code 2 = .ok (.invokespecial 50, 3) := ky_dc db_J5_setLength_d00df_0 59 rfl
def dl_J4_append_cf468_5 : List (ByteArray × Nat × Jvm.ClassFile.Instr × Nat) := [(prog_23_method_14_code, 5, .pop, 1), (prog_23_method_14_code, 6, .aload_n 0, 1), (prog_23_method_14_code, 7, .areturn, 1), (prog_22_method_152_code, 0, .getstatic 38, 3), (prog_22_method_152_code, 3, .ifCond .eq 10, 3), (prog_22_method_152_code, 6, .aload_n 0, 1), (prog_22_method_152_code, 7, .getfield 15, 3), (prog_22_method_152_code, 10, .goto 4, 3), (prog_22_method_152_code, 14, .ireturn, 1), (prog_22_method_54_code, 0, .aload_n 0, 1), (prog_22_method_54_code, 1, .getfield 9, 3), (prog_22_method_54_code, 4, .arraylength, 1), (prog_22_method_54_code, 5, .aload_n 0, 1), (prog_22_method_54_code, 6, .invokevirtual 335, 3), (prog_22_method_54_code, 9, .ishr, 1), (prog_22_method_54_code, 10, .ireturn, 1), (prog_22_method_147_code, 0, .aload_n 0, 1), (prog_22_method_147_code, 1, .invokevirtual 335, 3), (prog_22_method_147_code, 4, .iload_n 3, 1), (prog_22_method_147_code, 5, .if_icmp .ne 23, 3), (prog_22_method_147_code, 8, .aload_n 0, 1), (prog_22_method_147_code, 9, .getfield 9, 3), (prog_22_method_147_code, 12, .iconst 0, 1), (prog_22_method_147_code, 13, .aload_n 1, 1), (prog_22_method_147_code, 14, .iload_n 2, 1), (prog_22_method_147_code, 15, .iload_n 3, 1), (prog_22_method_147_code, 16, .ishl, 1), (prog_22_method_147_code, 17, .aload_n 0, 1), (prog_22_method_147_code, 18, .getfield 9, 3), (prog_22_method_147_code, 21, .arraylength, 1), (prog_22_method_147_code, 22, .invokestatic 212, 3), (prog_22_method_147_code, 25, .goto 18, 3), (prog_22_method_147_code, 43, .return_, 1), (prog_12_method_71_code, 0, .getstatic 18, 3), (prog_12_method_71_code, 3, .ifCond .eq 18, 3), (prog_12_method_71_code, 6, .aload_n 0, 1), (prog_12_method_71_code, 7, .getfield 22, 3), (prog_12_method_71_code, 10, .aload_n 1, 1), (prog_12_method_71_code, 11, .invokevirtual 40, 3), (prog_12_method_71_code, 14, .if_icmp .eq 7, 3), (prog_12_method_71_code, 21, .return_, 1), (prog_12_method_73_code, 0, .aload_n 0, 1), (prog_12_method_73_code, 1, .aload_n 2, 1), (prog_12_method_73_code, 2, .invokevirtual 397, 3), (prog_12_method_73_code, 5, .aload_n 2, 1), (prog_12_method_73_code, 6, .aload_n 0, 1), (prog_12_method_73_code, 7, .getfield 15, 3), (prog_12_method_73_code, 10, .iload_n 1, 1), (prog_12_method_73_code, 11, .aload_n 0, 1), (prog_12_method_73_code, 12, .getfield 22, 3), (prog_12_method_73_code, 15, .invokevirtual 399, 3), (prog_12_method_73_code, 18, .return_, 1), (prog_12_method_22_code, 0, .aload_n 1, 1), (prog_12_method_22_code, 1, .ifnonnull 8, 3), (prog_12_method_22_code, 9, .aload_n 1, 1), (prog_12_method_22_code, 10, .invokevirtual 32, 3), (prog_12_method_22_code, 13, .istore_n 2, 1), (prog_12_method_22_code, 14, .aload_n 0, 1), (prog_12_method_22_code, 15, .aload_n 0, 1), (prog_12_method_22_code, 16, .getfield 79, 3)]
theorem db_J4_append_cf468_5 : dl_J4_append_cf468_5.all (fun x => decide (decode x.1 x.2.1 = .ok x.2.2)) = true := by decide +kernel
theorem dc_J4_append_cf468_5 : decode prog_23_method_14_code 5 = .ok (.pop, 1) := ky_dc db_J4_append_cf468_5 0 rfl
theorem dc_J4_append_cf468_6 : decode prog_23_method_14_code 6 = .ok (.aload_n 0, 1) := ky_dc db_J4_append_cf468_5 1 rfl
theorem dc_J4_append_cf468_7 : decode prog_23_method_14_code 7 = .ok (.areturn, 1) := ky_dc db_J4_append_cf468_5 2 rfl
theorem dc_J0_coder_7d493_0 : decode prog_22_method_152_code 0 = .ok (.getstatic 38, 3) := ky_dc db_J4_append_cf468_5 3 rfl
theorem dc_J0_coder_7d493_3 : decode prog_22_method_152_code 3 = .ok (.ifCond .eq 10, 3) := ky_dc db_J4_append_cf468_5 4 rfl
theorem dc_J0_coder_7d493_6 : decode prog_22_method_152_code 6 = .ok (.aload_n 0, 1) := ky_dc db_J4_append_cf468_5 5 rfl
theorem dc_J0_coder_7d493_7 : decode prog_22_method_152_code 7 = .ok (.getfield 15, 3) := ky_dc db_J4_append_cf468_5 6 rfl
theorem dc_J0_coder_7d493_10 : decode prog_22_method_152_code 10 = .ok (.goto 4, 3) := ky_dc db_J4_append_cf468_5 7 rfl
theorem dc_J0_coder_7d493_14 : decode prog_22_method_152_code 14 = .ok (.ireturn, 1) := ky_dc db_J4_append_cf468_5 8 rfl
theorem dc_J0_length_8abf5_0 : decode prog_22_method_54_code 0 = .ok (.aload_n 0, 1) := ky_dc db_J4_append_cf468_5 9 rfl
theorem dc_J0_length_8abf5_1 : decode prog_22_method_54_code 1 = .ok (.getfield 9, 3) := ky_dc db_J4_append_cf468_5 10 rfl
theorem dc_J0_length_8abf5_4 : decode prog_22_method_54_code 4 = .ok (.arraylength, 1) := ky_dc db_J4_append_cf468_5 11 rfl
theorem dc_J0_length_8abf5_5 : decode prog_22_method_54_code 5 = .ok (.aload_n 0, 1) := ky_dc db_J4_append_cf468_5 12 rfl
theorem dc_J0_length_8abf5_6 : decode prog_22_method_54_code 6 = .ok (.invokevirtual 335, 3) := ky_dc db_J4_append_cf468_5 13 rfl
theorem dc_J0_length_8abf5_9 : decode prog_22_method_54_code 9 = .ok (.ishr, 1) := ky_dc db_J4_append_cf468_5 14 rfl
theorem dc_J0_length_8abf5_10 : decode prog_22_method_54_code 10 = .ok (.ireturn, 1) := ky_dc db_J4_append_cf468_5 15 rfl
theorem dc_J0_getBytes_840e7_0 : decode prog_22_method_147_code 0 = .ok (.aload_n 0, 1) := ky_dc db_J4_append_cf468_5 16 rfl
theorem dc_J0_getBytes_840e7_1 : decode prog_22_method_147_code 1 = .ok (.invokevirtual 335, 3) := ky_dc db_J4_append_cf468_5 17 rfl
theorem dc_J0_getBytes_840e7_4 : decode prog_22_method_147_code 4 = .ok (.iload_n 3, 1) := ky_dc db_J4_append_cf468_5 18 rfl
theorem dc_J0_getBytes_840e7_5 : decode prog_22_method_147_code 5 = .ok (.if_icmp .ne 23, 3) := ky_dc db_J4_append_cf468_5 19 rfl
theorem dc_J0_getBytes_840e7_8 : decode prog_22_method_147_code 8 = .ok (.aload_n 0, 1) := ky_dc db_J4_append_cf468_5 20 rfl
theorem dc_J0_getBytes_840e7_9 : decode prog_22_method_147_code 9 = .ok (.getfield 9, 3) := ky_dc db_J4_append_cf468_5 21 rfl
theorem dc_J0_getBytes_840e7_12 : decode prog_22_method_147_code 12 = .ok (.iconst 0, 1) := ky_dc db_J4_append_cf468_5 22 rfl
theorem dc_J0_getBytes_840e7_13 : decode prog_22_method_147_code 13 = .ok (.aload_n 1, 1) := ky_dc db_J4_append_cf468_5 23 rfl
theorem dc_J0_getBytes_840e7_14 : decode prog_22_method_147_code 14 = .ok (.iload_n 2, 1) := ky_dc db_J4_append_cf468_5 24 rfl
theorem dc_J0_getBytes_840e7_15 : decode prog_22_method_147_code 15 = .ok (.iload_n 3, 1) := ky_dc db_J4_append_cf468_5 25 rfl
theorem dc_J0_getBytes_840e7_16 : decode prog_22_method_147_code 16 = .ok (.ishl, 1) := ky_dc db_J4_append_cf468_5 26 rfl
theorem dc_J0_getBytes_840e7_17 : decode prog_22_method_147_code 17 = .ok (.aload_n 0, 1) := ky_dc db_J4_append_cf468_5 27 rfl
theorem dc_J0_getBytes_840e7_18 : decode prog_22_method_147_code 18 = .ok (.getfield 9, 3) := ky_dc db_J4_append_cf468_5 28 rfl
theorem dc_J0_getBytes_840e7_21 : decode prog_22_method_147_code 21 = .ok (.arraylength, 1) := ky_dc db_J4_append_cf468_5 29 rfl
theorem dc_J0_getBytes_840e7_22 : decode prog_22_method_147_code 22 = .ok (.invokestatic 212, 3) := ky_dc db_J4_append_cf468_5 30 rfl
theorem dc_J0_getBytes_840e7_25 : decode prog_22_method_147_code 25 = .ok (.goto 18, 3) := ky_dc db_J4_append_cf468_5 31 rfl
theorem dc_J0_getBytes_840e7_43 : decode prog_22_method_147_code 43 = .ok (.return_, 1) := ky_dc db_J4_append_cf468_5 32 rfl
theorem dc_J5_inflateIfNeededFor_a7421_0 : decode prog_12_method_71_code 0 = .ok (.getstatic 18, 3) := ky_dc db_J4_append_cf468_5 33 rfl
theorem dc_J5_inflateIfNeededFor_a7421_3 : decode prog_12_method_71_code 3 = .ok (.ifCond .eq 18, 3) := ky_dc db_J4_append_cf468_5 34 rfl
theorem dc_J5_inflateIfNeededFor_a7421_6 : decode prog_12_method_71_code 6 = .ok (.aload_n 0, 1) := ky_dc db_J4_append_cf468_5 35 rfl
theorem dc_J5_inflateIfNeededFor_a7421_7 : decode prog_12_method_71_code 7 = .ok (.getfield 22, 3) := ky_dc db_J4_append_cf468_5 36 rfl
theorem dc_J5_inflateIfNeededFor_a7421_10 : decode prog_12_method_71_code 10 = .ok (.aload_n 1, 1) := ky_dc db_J4_append_cf468_5 37 rfl
theorem dc_J5_inflateIfNeededFor_a7421_11 : decode prog_12_method_71_code 11 = .ok (.invokevirtual 40, 3) := ky_dc db_J4_append_cf468_5 38 rfl
theorem dc_J5_inflateIfNeededFor_a7421_14 : decode prog_12_method_71_code 14 = .ok (.if_icmp .eq 7, 3) := ky_dc db_J4_append_cf468_5 39 rfl
theorem dc_J5_inflateIfNeededFor_a7421_21 : decode prog_12_method_71_code 21 = .ok (.return_, 1) := ky_dc db_J4_append_cf468_5 40 rfl
theorem dc_J5_putStringAt_47b60_0 : decode prog_12_method_73_code 0 = .ok (.aload_n 0, 1) := ky_dc db_J4_append_cf468_5 41 rfl
theorem dc_J5_putStringAt_47b60_1 : decode prog_12_method_73_code 1 = .ok (.aload_n 2, 1) := ky_dc db_J4_append_cf468_5 42 rfl
theorem dc_J5_putStringAt_47b60_2 : decode prog_12_method_73_code 2 = .ok (.invokevirtual 397, 3) := ky_dc db_J4_append_cf468_5 43 rfl
theorem dc_J5_putStringAt_47b60_5 : decode prog_12_method_73_code 5 = .ok (.aload_n 2, 1) := ky_dc db_J4_append_cf468_5 44 rfl
theorem dc_J5_putStringAt_47b60_6 : decode prog_12_method_73_code 6 = .ok (.aload_n 0, 1) := ky_dc db_J4_append_cf468_5 45 rfl
theorem dc_J5_putStringAt_47b60_7 : decode prog_12_method_73_code 7 = .ok (.getfield 15, 3) := ky_dc db_J4_append_cf468_5 46 rfl
theorem dc_J5_putStringAt_47b60_10 : decode prog_12_method_73_code 10 = .ok (.iload_n 1, 1) := ky_dc db_J4_append_cf468_5 47 rfl
theorem dc_J5_putStringAt_47b60_11 : decode prog_12_method_73_code 11 = .ok (.aload_n 0, 1) := ky_dc db_J4_append_cf468_5 48 rfl
theorem dc_J5_putStringAt_47b60_12 : decode prog_12_method_73_code 12 = .ok (.getfield 22, 3) := ky_dc db_J4_append_cf468_5 49 rfl
theorem dc_J5_putStringAt_47b60_15 : decode prog_12_method_73_code 15 = .ok (.invokevirtual 399, 3) := ky_dc db_J4_append_cf468_5 50 rfl
theorem dc_J5_putStringAt_47b60_18 : decode prog_12_method_73_code 18 = .ok (.return_, 1) := ky_dc db_J4_append_cf468_5 51 rfl
theorem dc_J5_append_cf1ce_0 : decode prog_12_method_22_code 0 = .ok (.aload_n 1, 1) := ky_dc db_J4_append_cf468_5 52 rfl
theorem dc_J5_append_cf1ce_1 : decode prog_12_method_22_code 1 = .ok (.ifnonnull 8, 3) := ky_dc db_J4_append_cf468_5 53 rfl
theorem dc_J5_append_cf1ce_9 : decode prog_12_method_22_code 9 = .ok (.aload_n 1, 1) := ky_dc db_J4_append_cf468_5 54 rfl
theorem dc_J5_append_cf1ce_10 : decode prog_12_method_22_code 10 = .ok (.invokevirtual 32, 3) := ky_dc db_J4_append_cf468_5 55 rfl
theorem dc_J5_append_cf1ce_13 : decode prog_12_method_22_code 13 = .ok (.istore_n 2, 1) := ky_dc db_J4_append_cf468_5 56 rfl
theorem dc_J5_append_cf1ce_14 : decode prog_12_method_22_code 14 = .ok (.aload_n 0, 1) := ky_dc db_J4_append_cf468_5 57 rfl
theorem dc_J5_append_cf1ce_15 : decode prog_12_method_22_code 15 = .ok (.aload_n 0, 1) := ky_dc db_J4_append_cf468_5 58 rfl
theorem dc_J5_append_cf1ce_16 : decode prog_12_method_22_code 16 = .ok (.getfield 79, 3) := ky_dc db_J4_append_cf468_5 59 rfl
def dl_J5_append_cf1ce_19 : List (ByteArray × Nat × Jvm.ClassFile.Instr × Nat) := [(prog_12_method_22_code, 19, .iload_n 2, 1), (prog_12_method_22_code, 20, .iadd, 1), (prog_12_method_22_code, 21, .invokevirtual 100, 3), (prog_12_method_22_code, 24, .aload_n 0, 1), (prog_12_method_22_code, 25, .aload_n 0, 1), (prog_12_method_22_code, 26, .getfield 79, 3), (prog_12_method_22_code, 29, .aload_n 1, 1), (prog_12_method_22_code, 30, .invokevirtual 208, 3), (prog_12_method_22_code, 33, .aload_n 0, 1), (prog_12_method_22_code, 34, .dup, 1), (prog_12_method_22_code, 35, .getfield 79, 3), (prog_12_method_22_code, 38, .iload_n 2, 1), (prog_12_method_22_code, 39, .iadd, 1), (prog_12_method_22_code, 40, .putfield 79, 3), (prog_12_method_22_code, 43, .aload_n 0, 1), (prog_12_method_22_code, 44, .areturn, 1), (prog_23_method_7_code, 0, .aload_n 0, 1), (prog_23_method_7_code, 1, .aload_n 1, 1), (prog_23_method_7_code, 2, .invokespecial 29, 3), (prog_23_method_7_code, 5, .pop, 1), (prog_23_method_7_code, 6, .aload_n 0, 1), (prog_23_method_7_code, 7, .areturn, 1)]
theorem db_J5_append_cf1ce_19 : dl_J5_append_cf1ce_19.all (fun x => decide (decode x.1 x.2.1 = .ok x.2.2)) = true := by decide +kernel
theorem dc_J5_append_cf1ce_19 : decode prog_12_method_22_code 19 = .ok (.iload_n 2, 1) := ky_dc db_J5_append_cf1ce_19 0 rfl
theorem dc_J5_append_cf1ce_20 : decode prog_12_method_22_code 20 = .ok (.iadd, 1) := ky_dc db_J5_append_cf1ce_19 1 rfl
theorem dc_J5_append_cf1ce_21 : decode prog_12_method_22_code 21 = .ok (.invokevirtual 100, 3) := ky_dc db_J5_append_cf1ce_19 2 rfl
theorem dc_J5_append_cf1ce_24 : decode prog_12_method_22_code 24 = .ok (.aload_n 0, 1) := ky_dc db_J5_append_cf1ce_19 3 rfl
theorem dc_J5_append_cf1ce_25 : decode prog_12_method_22_code 25 = .ok (.aload_n 0, 1) := ky_dc db_J5_append_cf1ce_19 4 rfl
theorem dc_J5_append_cf1ce_26 : decode prog_12_method_22_code 26 = .ok (.getfield 79, 3) := ky_dc db_J5_append_cf1ce_19 5 rfl
theorem dc_J5_append_cf1ce_29 : decode prog_12_method_22_code 29 = .ok (.aload_n 1, 1) := ky_dc db_J5_append_cf1ce_19 6 rfl
theorem dc_J5_append_cf1ce_30 : decode prog_12_method_22_code 30 = .ok (.invokevirtual 208, 3) := ky_dc db_J5_append_cf1ce_19 7 rfl
theorem dc_J5_append_cf1ce_33 : decode prog_12_method_22_code 33 = .ok (.aload_n 0, 1) := ky_dc db_J5_append_cf1ce_19 8 rfl
theorem dc_J5_append_cf1ce_34 : decode prog_12_method_22_code 34 = .ok (.dup, 1) := ky_dc db_J5_append_cf1ce_19 9 rfl
theorem dc_J5_append_cf1ce_35 : decode prog_12_method_22_code 35 = .ok (.getfield 79, 3) := ky_dc db_J5_append_cf1ce_19 10 rfl
theorem dc_J5_append_cf1ce_38 : decode prog_12_method_22_code 38 = .ok (.iload_n 2, 1) := ky_dc db_J5_append_cf1ce_19 11 rfl
theorem dc_J5_append_cf1ce_39 : decode prog_12_method_22_code 39 = .ok (.iadd, 1) := ky_dc db_J5_append_cf1ce_19 12 rfl
theorem dc_J5_append_cf1ce_40 : decode prog_12_method_22_code 40 = .ok (.putfield 79, 3) := ky_dc db_J5_append_cf1ce_19 13 rfl
theorem dc_J5_append_cf1ce_43 : decode prog_12_method_22_code 43 = .ok (.aload_n 0, 1) := ky_dc db_J5_append_cf1ce_19 14 rfl
theorem dc_J5_append_cf1ce_44 : decode prog_12_method_22_code 44 = .ok (.areturn, 1) := ky_dc db_J5_append_cf1ce_19 15 rfl
theorem dc_J4_append_15ec4_0 : decode prog_23_method_7_code 0 = .ok (.aload_n 0, 1) := ky_dc db_J5_append_cf1ce_19 16 rfl
theorem dc_J4_append_15ec4_1 : decode prog_23_method_7_code 1 = .ok (.aload_n 1, 1) := ky_dc db_J5_append_cf1ce_19 17 rfl
theorem dc_J4_append_15ec4_2 : decode prog_23_method_7_code 2 = .ok (.invokespecial 29, 3) := ky_dc db_J5_append_cf1ce_19 18 rfl
theorem dc_J4_append_15ec4_5 : decode prog_23_method_7_code 5 = .ok (.pop, 1) := ky_dc db_J5_append_cf1ce_19 19 rfl
theorem dc_J4_append_15ec4_6 : decode prog_23_method_7_code 6 = .ok (.aload_n 0, 1) := ky_dc db_J5_append_cf1ce_19 20 rfl
theorem dc_J4_append_15ec4_7 : decode prog_23_method_7_code 7 = .ok (.areturn, 1) := ky_dc db_J5_append_cf1ce_19 21 rfl
