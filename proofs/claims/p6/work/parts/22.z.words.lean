abbrev my_X9_areNo : MethodName := ⟨"ExactdoublesModel", "areNo", "(II)Z"⟩
abbrev my_X9_thrown : MethodName := ⟨"ExactdoublesModel", "thrown", "()I"⟩
abbrev my_X9_refuse : MethodName := ⟨"ExactdoublesModel", "refuse", "(ZI)Z"⟩
abbrev my_X9_start : MethodName := ⟨"ExactdoublesModel", "start", "(Z)Z"⟩
abbrev my_X9_give : MethodName := ⟨"ExactdoublesModel", "give", "(ILExactdoublesModel$Its;)I"⟩
abbrev my_X9_zero : MethodName := ⟨"ExactdoublesModel", "zero", "(IZ)I"⟩
abbrev my_X9_endless : MethodName := ⟨"ExactdoublesModel", "endless", "(IZ)I"⟩
abbrev my_X9_bits : MethodName := ⟨"ExactdoublesModel", "bits", "(III)I"⟩
abbrev my_X9_copy : MethodName := ⟨"ExactdoublesModel", "copy", "(II)I"⟩
abbrev my_X9_swap : MethodName := ⟨"ExactdoublesModel", "swap", "(II)I"⟩
abbrev my_X9_size : MethodName := ⟨"ExactdoublesModel", "size", "(II)I"⟩
abbrev my_X9_turn : MethodName := ⟨"ExactdoublesModel", "turn", "(II)I"⟩
abbrev my_X9_up : MethodName := ⟨"ExactdoublesModel", "up", "(II)I"⟩
abbrev my_X9_down : MethodName := ⟨"ExactdoublesModel", "down", "(II)I"⟩
abbrev my_X9_side : MethodName := ⟨"ExactdoublesModel", "side", "(III)I"⟩
abbrev my_X9_kind : MethodName := ⟨"ExactdoublesModel", "kind", "(I)I"⟩
abbrev my_X9_exponent : MethodName := ⟨"ExactdoublesModel", "exponent", "(I)I"⟩
abbrev my_X9_signed : MethodName := ⟨"ExactdoublesModel", "signed", "(I)I"⟩
abbrev my_X9_isWhole : MethodName := ⟨"ExactdoublesModel", "isWhole", "(I)Z"⟩
abbrev my_X9_areLike : MethodName := ⟨"ExactdoublesModel", "areLike", "(II)Z"⟩
abbrev my_X9_isBelow : MethodName := ⟨"ExactdoublesModel", "isBelow", "(II)Z"⟩
abbrev my_X9_areSame : MethodName := ⟨"ExactdoublesModel", "areSame", "(II)Z"⟩
abbrev my_X9_isNext : MethodName := ⟨"ExactdoublesModel", "isNext", "(II)Z"⟩
theorem kw_6_43 : (Jvm.Cond.methodLink "ExactdoublesModel" (51 : Nat) ({ cls := "ExactdoublesModel", name := "isNo", desc := "(I)Z" } : Jvm.MethodName)) ∈ ky_B := ky_mem (kc_6 _ (List.mem_of_getElem? (i := 43) rfl)) (by decide +kernel)
theorem kw_6_44 : (Jvm.Cond.static ({ cls := "ExactdoublesModel", name := "isNo", desc := "(I)Z" } : Jvm.MethodName)) ∈ ky_B := ky_mem (kc_6 _ (List.mem_of_getElem? (i := 44) rfl)) (by decide +kernel)
theorem kw_6_45 : (Jvm.Cond.code ({ cls := "ExactdoublesModel", name := "isNo", desc := "(I)Z" } : Jvm.MethodName) prog_10_method_10_code (1 : Nat) (Option.some Jvm.ClassFile.FieldType.boolean)) ∈ ky_B := ky_mem (kc_6 _ (List.mem_of_getElem? (i := 45) rfl)) (by decide +kernel)
theorem kw_6_19 : (Jvm.Cond.fieldLink "ExactdoublesModel" (32 : Nat) "ExactdoublesModel" "thrown" "I") ∈ ky_B := ky_mem (kc_6 _ (List.mem_of_getElem? (i := 19) rfl)) (by decide +kernel)
theorem kw_6_53 : (Jvm.Cond.methodLink "ExactdoublesModel" (36 : Nat) ({ cls := "ExactdoublesModel", name := "refuse", desc := "(ZI)Z" } : Jvm.MethodName)) ∈ ky_B := ky_mem (kc_6 _ (List.mem_of_getElem? (i := 53) rfl)) (by decide +kernel)
theorem kw_6_55 : (Jvm.Cond.instanceMethod ({ cls := "ExactdoublesModel", name := "refuse", desc := "(ZI)Z" } : Jvm.MethodName)) ∈ ky_B := ky_mem (kc_6 _ (List.mem_of_getElem? (i := 55) rfl)) (by decide +kernel)
theorem kp_X9_refuse : (Jvm.Cond.selects "ExactdoublesModel" ({ cls := "ExactdoublesModel", name := "refuse", desc := "(ZI)Z" } : Jvm.MethodName) ({ cls := "ExactdoublesModel", name := "refuse", desc := "(ZI)Z" } : Jvm.MethodName)) ∈ ky_B := ky_mem (List.mem_append_left _ (List.mem_of_getElem? (i := 17) (by decide +kernel))) (by decide +kernel)
theorem kw_6_56 : (Jvm.Cond.code ({ cls := "ExactdoublesModel", name := "refuse", desc := "(ZI)Z" } : Jvm.MethodName) prog_10_method_8_code (3 : Nat) (Option.some Jvm.ClassFile.FieldType.boolean)) ∈ ky_B := ky_mem (kc_6 _ (List.mem_of_getElem? (i := 56) rfl)) (by decide +kernel)
theorem kw_6_20 : (Jvm.Cond.fieldLink "ExactdoublesModel" (25 : Nat) "ExactdoublesModel" "cells" "[LExactdoublesModel$Its;") ∈ ky_B := ky_mem (kc_6 _ (List.mem_of_getElem? (i := 20) rfl)) (by decide +kernel)
theorem kw_6_21 : (Jvm.Cond.fieldLink "ExactdoublesModel" (44 : Nat) "ExactdoublesModel" "given" "I") ∈ ky_B := ky_mem (kc_6 _ (List.mem_of_getElem? (i := 21) rfl)) (by decide +kernel)
theorem kw_6_64 : (Jvm.Cond.methodLink "ExactdoublesModel" (47 : Nat) ({ cls := "ExactdoublesModel$Its", name := "kind", desc := "()I" } : Jvm.MethodName)) ∈ ky_B := ky_mem (kc_6 _ (List.mem_of_getElem? (i := 64) rfl)) (by decide +kernel)
theorem kw_6_49 : (Jvm.Cond.methodLink "ExactdoublesModel" (55 : Nat) ({ cls := "ExactdoublesModel", name := "start", desc := "(Z)Z" } : Jvm.MethodName)) ∈ ky_B := ky_mem (kc_6 _ (List.mem_of_getElem? (i := 49) rfl)) (by decide +kernel)
theorem kw_6_51 : (Jvm.Cond.instanceMethod ({ cls := "ExactdoublesModel", name := "start", desc := "(Z)Z" } : Jvm.MethodName)) ∈ ky_B := ky_mem (kc_6 _ (List.mem_of_getElem? (i := 51) rfl)) (by decide +kernel)
theorem kp_X9_start : (Jvm.Cond.selects "ExactdoublesModel" ({ cls := "ExactdoublesModel", name := "start", desc := "(Z)Z" } : Jvm.MethodName) ({ cls := "ExactdoublesModel", name := "start", desc := "(Z)Z" } : Jvm.MethodName)) ∈ ky_B := ky_mem (List.mem_append_left _ (List.mem_of_getElem? (i := 16) (by decide +kernel))) (by decide +kernel)
theorem kw_6_52 : (Jvm.Cond.code ({ cls := "ExactdoublesModel", name := "start", desc := "(Z)Z" } : Jvm.MethodName) prog_10_method_9_code (2 : Nat) (Option.some Jvm.ClassFile.FieldType.boolean)) ∈ ky_B := ky_mem (kc_6 _ (List.mem_of_getElem? (i := 52) rfl)) (by decide +kernel)
theorem kw_6_3 : (Jvm.Cond.classLink "ExactdoublesModel" (23 : Nat) "ExactdoublesModel$Its") ∈ ky_B := ky_mem (kc_6 _ (List.mem_of_getElem? (i := 3) rfl)) (by decide +kernel)
theorem kw_6_57 : (Jvm.Cond.methodLink "ExactdoublesModel" (59 : Nat) ({ cls := "ExactdoublesModel", name := "one", desc := "(Z)I" } : Jvm.MethodName)) ∈ ky_B := ky_mem (kc_6 _ (List.mem_of_getElem? (i := 57) rfl)) (by decide +kernel)
theorem kw_6_58 : (Jvm.Cond.static ({ cls := "ExactdoublesModel", name := "one", desc := "(Z)I" } : Jvm.MethodName)) ∈ ky_B := ky_mem (kc_6 _ (List.mem_of_getElem? (i := 58) rfl)) (by decide +kernel)
theorem kw_6_59 : (Jvm.Cond.code ({ cls := "ExactdoublesModel", name := "one", desc := "(Z)I" } : Jvm.MethodName) prog_10_method_2_code (1 : Nat) (Option.some Jvm.ClassFile.FieldType.int)) ∈ ky_B := ky_mem (kc_6 _ (List.mem_of_getElem? (i := 59) rfl)) (by decide +kernel)
theorem kw_6_6 : (Jvm.Cond.methodLink "ExactdoublesModel" (29 : Nat) ({ cls := "ExactdoublesModel$Its", name := "<init>", desc := "(IJ)V" } : Jvm.MethodName)) ∈ ky_B := ky_mem (kc_6 _ (List.mem_of_getElem? (i := 6) rfl)) (by decide +kernel)
theorem kw_6_60 : (Jvm.Cond.methodLink "ExactdoublesModel" (63 : Nat) ({ cls := "ExactdoublesModel", name := "give", desc := "(ILExactdoublesModel$Its;)I" } : Jvm.MethodName)) ∈ ky_B := ky_mem (kc_6 _ (List.mem_of_getElem? (i := 60) rfl)) (by decide +kernel)
theorem kw_6_62 : (Jvm.Cond.instanceMethod ({ cls := "ExactdoublesModel", name := "give", desc := "(ILExactdoublesModel$Its;)I" } : Jvm.MethodName)) ∈ ky_B := ky_mem (kc_6 _ (List.mem_of_getElem? (i := 62) rfl)) (by decide +kernel)
theorem kp_X9_give : (Jvm.Cond.selects "ExactdoublesModel" ({ cls := "ExactdoublesModel", name := "give", desc := "(ILExactdoublesModel$Its;)I" } : Jvm.MethodName) ({ cls := "ExactdoublesModel", name := "give", desc := "(ILExactdoublesModel$Its;)I" } : Jvm.MethodName)) ∈ ky_B := ky_mem (List.mem_append_left _ (List.mem_of_getElem? (i := 18) (by decide +kernel))) (by decide +kernel)
theorem kw_6_63 : (Jvm.Cond.code ({ cls := "ExactdoublesModel", name := "give", desc := "(ILExactdoublesModel$Its;)I" } : Jvm.MethodName) prog_10_method_11_code (3 : Nat) (Option.some Jvm.ClassFile.FieldType.int)) ∈ ky_B := ky_mem (kc_6 _ (List.mem_of_getElem? (i := 63) rfl)) (by decide +kernel)
theorem kw_6_126 : (Jvm.Cond.constantLong "ExactdoublesModel" (73 : Nat) (4294967295 : Int64)) ∈ ky_B := ky_mem (kc_6 _ (List.mem_of_getElem? (i := 126) rfl)) (by decide +kernel)
theorem kw_6_127 : (Jvm.Cond.constantLong "ExactdoublesModel" (77 : Nat) (9223372036854775807 : Int64)) ∈ ky_B := ky_mem (kc_6 _ (List.mem_of_getElem? (i := 127) rfl)) (by decide +kernel)
theorem kw_6_22 : (Jvm.Cond.fieldLink "ExactdoublesModel" (79 : Nat) "ExactdoublesModel" "refused" "I") ∈ ky_B := ky_mem (kc_6 _ (List.mem_of_getElem? (i := 22) rfl)) (by decide +kernel)
theorem kw_6_148 : (Jvm.Cond.methodLink "ExactdoublesModel" (104 : Nat) ({ cls := "ExactdoublesModel", name := "areNo", desc := "(II)Z" } : Jvm.MethodName)) ∈ ky_B := ky_mem (kc_6 _ (List.mem_of_getElem? (i := 148) rfl)) (by decide +kernel)
theorem kw_6_150 : (Jvm.Cond.instanceMethod ({ cls := "ExactdoublesModel", name := "areNo", desc := "(II)Z" } : Jvm.MethodName)) ∈ ky_B := ky_mem (kc_6 _ (List.mem_of_getElem? (i := 150) rfl)) (by decide +kernel)
theorem kp_X9_areNo : (Jvm.Cond.selects "ExactdoublesModel" ({ cls := "ExactdoublesModel", name := "areNo", desc := "(II)Z" } : Jvm.MethodName) ({ cls := "ExactdoublesModel", name := "areNo", desc := "(II)Z" } : Jvm.MethodName)) ∈ ky_B := ky_mem (List.mem_append_left _ (List.mem_of_getElem? (i := 19) (by decide +kernel))) (by decide +kernel)
theorem kw_6_151 : (Jvm.Cond.code ({ cls := "ExactdoublesModel", name := "areNo", desc := "(II)Z" } : Jvm.MethodName) prog_10_method_19_code (3 : Nat) (Option.some Jvm.ClassFile.FieldType.boolean)) ∈ ky_B := ky_mem (kc_6 _ (List.mem_of_getElem? (i := 151) rfl)) (by decide +kernel)
theorem kw_6_13 : (Jvm.Cond.fieldLink "ExactdoublesModel" (116 : Nat) "ExactdoublesModel$Its" "size" "J") ∈ ky_B := ky_mem (kc_6 _ (List.mem_of_getElem? (i := 13) rfl)) (by decide +kernel)
theorem kw_6_188 : (Jvm.Cond.methodLink "ExactdoublesModel" (120 : Nat) ({ cls := "ExactdoublesModel$Its", name := "turned", desc := "()LExactdoublesModel$Its;" } : Jvm.MethodName)) ∈ ky_B := ky_mem (kc_6 _ (List.mem_of_getElem? (i := 188) rfl)) (by decide +kernel)
theorem kw_6_204 : (Jvm.Cond.methodLink "ExactdoublesModel" (127 : Nat) ({ cls := "ExactdoublesModel$Its", name := "up", desc := "()LExactdoublesModel$Its;" } : Jvm.MethodName)) ∈ ky_B := ky_mem (kc_6 _ (List.mem_of_getElem? (i := 204) rfl)) (by decide +kernel)
theorem kw_6_212 : (Jvm.Cond.methodLink "ExactdoublesModel" (130 : Nat) ({ cls := "ExactdoublesModel$Its", name := "next", desc := "(Z)LExactdoublesModel$Its;" } : Jvm.MethodName)) ∈ ky_B := ky_mem (kc_6 _ (List.mem_of_getElem? (i := 212) rfl)) (by decide +kernel)
theorem kw_6_213 : (Jvm.Cond.instanceMethod ({ cls := "ExactdoublesModel$Its", name := "next", desc := "(Z)LExactdoublesModel$Its;" } : Jvm.MethodName)) ∈ ky_B := ky_mem (kc_6 _ (List.mem_of_getElem? (i := 213) rfl)) (by decide +kernel)
theorem kw_6_214 : (Jvm.Cond.selects "ExactdoublesModel$Its" ({ cls := "ExactdoublesModel$Its", name := "next", desc := "(Z)LExactdoublesModel$Its;" } : Jvm.MethodName) ({ cls := "ExactdoublesModel$Its", name := "next", desc := "(Z)LExactdoublesModel$Its;" } : Jvm.MethodName)) ∈ ky_B := ky_mem (kc_6 _ (List.mem_of_getElem? (i := 214) rfl)) (by decide +kernel)
theorem kw_6_215 : (Jvm.Cond.code ({ cls := "ExactdoublesModel$Its", name := "next", desc := "(Z)LExactdoublesModel$Its;" } : Jvm.MethodName) prog_11_method_18_code (2 : Nat) (Option.some (Jvm.ClassFile.FieldType.object "ExactdoublesModel$Its"))) ∈ ky_B := ky_mem (kc_6 _ (List.mem_of_getElem? (i := 215) rfl)) (by decide +kernel)
theorem kw_6_11 : (Jvm.Cond.fieldLink "ExactdoublesModel" (144 : Nat) "ExactdoublesModel$Its" "side" "I") ∈ ky_B := ky_mem (kc_6 _ (List.mem_of_getElem? (i := 11) rfl)) (by decide +kernel)
theorem kw_6_231 : (Jvm.Cond.methodLink "ExactdoublesModel" (137 : Nat) ({ cls := "ExactdoublesModel$Its", name := "exponent", desc := "()I" } : Jvm.MethodName)) ∈ ky_B := ky_mem (kc_6 _ (List.mem_of_getElem? (i := 231) rfl)) (by decide +kernel)
theorem kw_6_232 : (Jvm.Cond.instanceMethod ({ cls := "ExactdoublesModel$Its", name := "exponent", desc := "()I" } : Jvm.MethodName)) ∈ ky_B := ky_mem (kc_6 _ (List.mem_of_getElem? (i := 232) rfl)) (by decide +kernel)
theorem kw_6_233 : (Jvm.Cond.selects "ExactdoublesModel$Its" ({ cls := "ExactdoublesModel$Its", name := "exponent", desc := "()I" } : Jvm.MethodName) ({ cls := "ExactdoublesModel$Its", name := "exponent", desc := "()I" } : Jvm.MethodName)) ∈ ky_B := ky_mem (kc_6 _ (List.mem_of_getElem? (i := 233) rfl)) (by decide +kernel)
theorem kw_6_234 : (Jvm.Cond.code ({ cls := "ExactdoublesModel$Its", name := "exponent", desc := "()I" } : Jvm.MethodName) prog_11_method_20_code (1 : Nat) (Option.some Jvm.ClassFile.FieldType.int)) ∈ ky_B := ky_mem (kc_6 _ (List.mem_of_getElem? (i := 234) rfl)) (by decide +kernel)
theorem kw_7_141 : (Jvm.Cond.methodLink "ExactdoublesModel" (217 : Nat) ({ cls := "ExactdoublesModel$Its", name := "rung", desc := "()J" } : Jvm.MethodName)) ∈ ky_B := ky_mem (kc_7 _ (List.mem_of_getElem? (i := 141) rfl)) (by decide +kernel)
theorem kw_7_142 : (Jvm.Cond.instanceMethod ({ cls := "ExactdoublesModel$Its", name := "rung", desc := "()J" } : Jvm.MethodName)) ∈ ky_B := ky_mem (kc_7 _ (List.mem_of_getElem? (i := 142) rfl)) (by decide +kernel)
theorem kw_7_143 : (Jvm.Cond.selects "ExactdoublesModel$Its" ({ cls := "ExactdoublesModel$Its", name := "rung", desc := "()J" } : Jvm.MethodName) ({ cls := "ExactdoublesModel$Its", name := "rung", desc := "()J" } : Jvm.MethodName)) ∈ ky_B := ky_mem (kc_7 _ (List.mem_of_getElem? (i := 143) rfl)) (by decide +kernel)
theorem kw_7_144 : (Jvm.Cond.code ({ cls := "ExactdoublesModel$Its", name := "rung", desc := "()J" } : Jvm.MethodName) prog_11_method_7_code (1 : Nat) (Option.some Jvm.ClassFile.FieldType.long)) ∈ ky_B := ky_mem (kc_7 _ (List.mem_of_getElem? (i := 144) rfl)) (by decide +kernel)
theorem kw_7_145 : (Jvm.Cond.methodLink "ExactdoublesModel" (220 : Nat) ({ cls := "ExactdoublesModel", name := "signOf", desc := "(J)I" } : Jvm.MethodName)) ∈ ky_B := ky_mem (kc_7 _ (List.mem_of_getElem? (i := 145) rfl)) (by decide +kernel)
theorem kw_7_146 : (Jvm.Cond.static ({ cls := "ExactdoublesModel", name := "signOf", desc := "(J)I" } : Jvm.MethodName)) ∈ ky_B := ky_mem (kc_7 _ (List.mem_of_getElem? (i := 146) rfl)) (by decide +kernel)
theorem kw_7_147 : (Jvm.Cond.code ({ cls := "ExactdoublesModel", name := "signOf", desc := "(J)I" } : Jvm.MethodName) prog_10_method_3_code (2 : Nat) (Option.some Jvm.ClassFile.FieldType.int)) ∈ ky_B := ky_mem (kc_7 _ (List.mem_of_getElem? (i := 147) rfl)) (by decide +kernel)
theorem kw_7_152 : (Jvm.Cond.methodLink "ExactdoublesModel" (224 : Nat) ({ cls := "ExactdoublesModel$Its", name := "isWhole", desc := "()Z" } : Jvm.MethodName)) ∈ ky_B := ky_mem (kc_7 _ (List.mem_of_getElem? (i := 152) rfl)) (by decide +kernel)
theorem kw_7_153 : (Jvm.Cond.instanceMethod ({ cls := "ExactdoublesModel$Its", name := "isWhole", desc := "()Z" } : Jvm.MethodName)) ∈ ky_B := ky_mem (kc_7 _ (List.mem_of_getElem? (i := 153) rfl)) (by decide +kernel)
theorem kw_7_154 : (Jvm.Cond.selects "ExactdoublesModel$Its" ({ cls := "ExactdoublesModel$Its", name := "isWhole", desc := "()Z" } : Jvm.MethodName) ({ cls := "ExactdoublesModel$Its", name := "isWhole", desc := "()Z" } : Jvm.MethodName)) ∈ ky_B := ky_mem (kc_7 _ (List.mem_of_getElem? (i := 154) rfl)) (by decide +kernel)
theorem kw_7_155 : (Jvm.Cond.code ({ cls := "ExactdoublesModel$Its", name := "isWhole", desc := "()Z" } : Jvm.MethodName) prog_11_method_14_code (1 : Nat) (Option.some Jvm.ClassFile.FieldType.boolean)) ∈ ky_B := ky_mem (kc_7 _ (List.mem_of_getElem? (i := 155) rfl)) (by decide +kernel)
theorem kw_7_180 : (Jvm.Cond.methodLink "ExactdoublesModel" (235 : Nat) ({ cls := "ExactdoublesModel$Its", name := "isSame", desc := "(LExactdoublesModel$Its;)Z" } : Jvm.MethodName)) ∈ ky_B := ky_mem (kc_7 _ (List.mem_of_getElem? (i := 180) rfl)) (by decide +kernel)
theorem kw_7_181 : (Jvm.Cond.instanceMethod ({ cls := "ExactdoublesModel$Its", name := "isSame", desc := "(LExactdoublesModel$Its;)Z" } : Jvm.MethodName)) ∈ ky_B := ky_mem (kc_7 _ (List.mem_of_getElem? (i := 181) rfl)) (by decide +kernel)
theorem kw_7_182 : (Jvm.Cond.selects "ExactdoublesModel$Its" ({ cls := "ExactdoublesModel$Its", name := "isSame", desc := "(LExactdoublesModel$Its;)Z" } : Jvm.MethodName) ({ cls := "ExactdoublesModel$Its", name := "isSame", desc := "(LExactdoublesModel$Its;)Z" } : Jvm.MethodName)) ∈ ky_B := ky_mem (kc_7 _ (List.mem_of_getElem? (i := 182) rfl)) (by decide +kernel)
theorem kw_7_183 : (Jvm.Cond.code ({ cls := "ExactdoublesModel$Its", name := "isSame", desc := "(LExactdoublesModel$Its;)Z" } : Jvm.MethodName) prog_11_method_9_code (2 : Nat) (Option.some Jvm.ClassFile.FieldType.boolean)) ∈ ky_B := ky_mem (kc_7 _ (List.mem_of_getElem? (i := 183) rfl)) (by decide +kernel)
theorem ks_X9_51 : ky_wS "ExactdoublesModel" 51 my_X9_isNo prog_10_method_10_code 1 (Option.some Jvm.ClassFile.FieldType.boolean) 1 := ⟨kw_6_43, kw_6_44, kw_1_8, kw_6_45, by decide, by decide, by decide +kernel⟩
theorem kv_X9_36 : ky_wV "ExactdoublesModel" 36 my_X9_refuse prog_10_method_8_code 3 (Option.some Jvm.ClassFile.FieldType.boolean) 2 := ⟨kw_6_53, kw_6_55, kp_X9_refuse, kw_1_8, kw_6_56, by decide, by decide, by decide +kernel⟩
theorem kv_X9_47 : ky_wV "ExactdoublesModel" 47 my_X8_kind prog_11_method_13_code 1 (Option.some Jvm.ClassFile.FieldType.int) 0 := ⟨kw_6_64, kw_6_65, kw_6_66, kw_1_9, kw_6_67, by decide, by decide, by decide +kernel⟩
theorem kv_X9_55 : ky_wV "ExactdoublesModel" 55 my_X9_start prog_10_method_9_code 2 (Option.some Jvm.ClassFile.FieldType.boolean) 1 := ⟨kw_6_49, kw_6_51, kp_X9_start, kw_1_8, kw_6_52, by decide, by decide, by decide +kernel⟩
theorem ks_X9_59 : ky_wS "ExactdoublesModel" 59 my_X9_one prog_10_method_2_code 1 (Option.some Jvm.ClassFile.FieldType.int) 1 := ⟨kw_6_57, kw_6_58, kw_1_8, kw_6_59, by decide, by decide, by decide +kernel⟩
theorem kI_X9_29 : ky_wI "ExactdoublesModel" 29 my_X8_init prog_11_method_1_code 4 2 := ⟨kw_6_6, kw_6_7, kw_1_9, kw_6_8, rfl, by decide, by decide, by decide +kernel⟩
theorem kv_X9_63 : ky_wV "ExactdoublesModel" 63 my_X9_give prog_10_method_11_code 3 (Option.some Jvm.ClassFile.FieldType.int) 2 := ⟨kw_6_60, kw_6_62, kp_X9_give, kw_1_8, kw_6_63, by decide, by decide, by decide +kernel⟩
theorem kv_X9_104 : ky_wV "ExactdoublesModel" 104 my_X9_areNo prog_10_method_19_code 3 (Option.some Jvm.ClassFile.FieldType.boolean) 2 := ⟨kw_6_148, kw_6_150, kp_X9_areNo, kw_1_8, kw_6_151, by decide, by decide, by decide +kernel⟩
theorem kv_X9_120 : ky_wV "ExactdoublesModel" 120 my_X8_turned prog_11_method_10_code 1 (Option.some (Jvm.ClassFile.FieldType.object "ExactdoublesModel$Its")) 0 := ⟨kw_6_188, kw_6_189, kw_6_190, kw_1_9, kw_6_191, by decide, by decide, by decide +kernel⟩
theorem kv_X9_127 : ky_wV "ExactdoublesModel" 127 my_X8_up prog_11_method_17_code 1 (Option.some (Jvm.ClassFile.FieldType.object "ExactdoublesModel$Its")) 0 := ⟨kw_6_204, kw_6_205, kw_6_206, kw_1_9, kw_6_207, by decide, by decide, by decide +kernel⟩
theorem kv_X9_130 : ky_wV "ExactdoublesModel" 130 my_X8_next prog_11_method_18_code 2 (Option.some (Jvm.ClassFile.FieldType.object "ExactdoublesModel$Its")) 1 := ⟨kw_6_212, kw_6_213, kw_6_214, kw_1_9, kw_6_215, by decide, by decide, by decide +kernel⟩
theorem kv_X9_137 : ky_wV "ExactdoublesModel" 137 my_X8_exponent prog_11_method_20_code 1 (Option.some Jvm.ClassFile.FieldType.int) 0 := ⟨kw_6_231, kw_6_232, kw_6_233, kw_1_9, kw_6_234, by decide, by decide, by decide +kernel⟩
theorem kv_X9_217 : ky_wV "ExactdoublesModel" 217 my_X8_rung prog_11_method_7_code 1 (Option.some Jvm.ClassFile.FieldType.long) 0 := ⟨kw_7_141, kw_7_142, kw_7_143, kw_1_9, kw_7_144, by decide, by decide, by decide +kernel⟩
theorem ks_X9_220 : ky_wS "ExactdoublesModel" 220 my_X9_signOf prog_10_method_3_code 2 (Option.some Jvm.ClassFile.FieldType.int) 1 := ⟨kw_7_145, kw_7_146, kw_1_8, kw_7_147, by decide, by decide, by decide +kernel⟩
theorem kv_X9_224 : ky_wV "ExactdoublesModel" 224 my_X8_isWhole prog_11_method_14_code 1 (Option.some Jvm.ClassFile.FieldType.boolean) 0 := ⟨kw_7_152, kw_7_153, kw_7_154, kw_1_9, kw_7_155, by decide, by decide, by decide +kernel⟩
theorem kv_X9_235 : ky_wV "ExactdoublesModel" 235 my_X8_isSame prog_11_method_9_code 2 (Option.some Jvm.ClassFile.FieldType.boolean) 1 := ⟨kw_7_180, kw_7_181, kw_7_182, kw_1_9, kw_7_183, by decide, by decide, by decide +kernel⟩
def dl_X9_areNo_0 : List (ByteArray × Nat × Jvm.ClassFile.Instr × Nat) := [(prog_10_method_19_code, 0, .iload_n 1, 1), (prog_10_method_19_code, 1, .invokestatic 51, 3), (prog_10_method_19_code, 4, .ifCond .ne 10, 3), (prog_10_method_19_code, 14, .iconst 1, 1), (prog_10_method_19_code, 15, .goto 4, 3), (prog_10_method_19_code, 19, .ireturn, 1), (prog_10_method_19_code, 7, .iload_n 2, 1), (prog_10_method_19_code, 8, .invokestatic 51, 3), (prog_10_method_19_code, 11, .ifCond .eq 7, 3), (prog_10_method_19_code, 18, .iconst 0, 1), (prog_10_method_7_code, 0, .aload_n 0, 1), (prog_10_method_7_code, 1, .getfield 32, 3), (prog_10_method_7_code, 4, .ireturn, 1), (prog_10_method_8_code, 0, .iload_n 1, 1), (prog_10_method_8_code, 1, .ifCond .eq 15, 3), (prog_10_method_8_code, 16, .aload_n 0, 1), (prog_10_method_8_code, 17, .getfield 32, 3), (prog_10_method_8_code, 20, .ifCond .le 7, 3), (prog_10_method_8_code, 27, .iconst 0, 1), (prog_10_method_8_code, 28, .ireturn, 1), (prog_10_method_8_code, 23, .iconst 1, 1), (prog_10_method_8_code, 24, .goto 4, 3), (prog_10_method_8_code, 4, .aload_n 0, 1), (prog_10_method_8_code, 5, .getfield 32, 3), (prog_10_method_8_code, 8, .ifCond .ne 8, 3), (prog_10_method_8_code, 11, .aload_n 0, 1), (prog_10_method_8_code, 12, .iload_n 2, 1), (prog_10_method_8_code, 13, .putfield 32, 3), (prog_10_method_9_code, 0, .aload_n 0, 1), (prog_10_method_9_code, 1, .iconst 0, 1), (prog_10_method_9_code, 2, .putfield 32, 3), (prog_10_method_9_code, 5, .aload_n 0, 1), (prog_10_method_9_code, 6, .iload_n 1, 1), (prog_10_method_9_code, 7, .iconst 1, 1), (prog_10_method_9_code, 8, .invokevirtual 36, 3), (prog_10_method_9_code, 11, .ireturn, 1), (prog_10_method_11_code, 0, .aload_n 0, 1), (prog_10_method_11_code, 1, .getfield 25, 3), (prog_10_method_11_code, 4, .iload_n 1, 1), (prog_10_method_11_code, 5, .aload_n 2, 1), (prog_10_method_11_code, 6, .aastore, 1), (prog_10_method_11_code, 7, .aload_n 0, 1), (prog_10_method_11_code, 8, .dup, 1), (prog_10_method_11_code, 9, .getfield 44, 3), (prog_10_method_11_code, 12, .iconst 1, 1), (prog_10_method_11_code, 13, .iadd, 1), (prog_10_method_11_code, 14, .putfield 44, 3), (prog_10_method_11_code, 17, .aload_n 2, 1), (prog_10_method_11_code, 18, .invokevirtual 47, 3), (prog_10_method_11_code, 21, .ireturn, 1), (prog_10_method_12_code, 0, .aload_n 0, 1), (prog_10_method_12_code, 1, .iload_n 1, 1), (prog_10_method_12_code, 2, .invokestatic 51, 3), (prog_10_method_12_code, 5, .invokevirtual 55, 3), (prog_10_method_12_code, 8, .ifCond .eq 7, 3), (prog_10_method_12_code, 15, .aload_n 0, 1), (prog_10_method_12_code, 16, .iload_n 1, 1), (prog_10_method_12_code, 17, .new 23, 3), (prog_10_method_12_code, 20, .dup, 1), (prog_10_method_12_code, 21, .iload_n 2, 1)]
theorem db_X9_areNo_0 : dl_X9_areNo_0.all (fun x => decide (decode x.1 x.2.1 = .ok x.2.2)) = true := by decide +kernel
theorem dc_X9_areNo_0 : decode prog_10_method_19_code 0 = .ok (.iload_n 1, 1) := ky_dc db_X9_areNo_0 0 rfl
theorem dc_X9_areNo_1 : decode prog_10_method_19_code 1 = .ok (.invokestatic 51, 3) := ky_dc db_X9_areNo_0 1 rfl
theorem dc_X9_areNo_4 : decode prog_10_method_19_code 4 = .ok (.ifCond .ne 10, 3) := ky_dc db_X9_areNo_0 2 rfl
theorem dc_X9_areNo_14 : decode prog_10_method_19_code 14 = .ok (.iconst 1, 1) := ky_dc db_X9_areNo_0 3 rfl
theorem dc_X9_areNo_15 : decode prog_10_method_19_code 15 = .ok (.goto 4, 3) := ky_dc db_X9_areNo_0 4 rfl
theorem dc_X9_areNo_19 : decode prog_10_method_19_code 19 = .ok (.ireturn, 1) := ky_dc db_X9_areNo_0 5 rfl
theorem dc_X9_areNo_7 : decode prog_10_method_19_code 7 = .ok (.iload_n 2, 1) := ky_dc db_X9_areNo_0 6 rfl
theorem dc_X9_areNo_8 : decode prog_10_method_19_code 8 = .ok (.invokestatic 51, 3) := ky_dc db_X9_areNo_0 7 rfl
theorem dc_X9_areNo_11 : decode prog_10_method_19_code 11 = .ok (.ifCond .eq 7, 3) := ky_dc db_X9_areNo_0 8 rfl
theorem dc_X9_areNo_18 : decode prog_10_method_19_code 18 = .ok (.iconst 0, 1) := ky_dc db_X9_areNo_0 9 rfl
theorem dc_X9_thrown_0 : decode prog_10_method_7_code 0 = .ok (.aload_n 0, 1) := ky_dc db_X9_areNo_0 10 rfl
theorem dc_X9_thrown_1 : decode prog_10_method_7_code 1 = .ok (.getfield 32, 3) := ky_dc db_X9_areNo_0 11 rfl
theorem dc_X9_thrown_4 : decode prog_10_method_7_code 4 = .ok (.ireturn, 1) := ky_dc db_X9_areNo_0 12 rfl
theorem dc_X9_refuse_0 : decode prog_10_method_8_code 0 = .ok (.iload_n 1, 1) := ky_dc db_X9_areNo_0 13 rfl
theorem dc_X9_refuse_1 : decode prog_10_method_8_code 1 = .ok (.ifCond .eq 15, 3) := ky_dc db_X9_areNo_0 14 rfl
theorem dc_X9_refuse_16 : decode prog_10_method_8_code 16 = .ok (.aload_n 0, 1) := ky_dc db_X9_areNo_0 15 rfl
theorem dc_X9_refuse_17 : decode prog_10_method_8_code 17 = .ok (.getfield 32, 3) := ky_dc db_X9_areNo_0 16 rfl
theorem dc_X9_refuse_20 : decode prog_10_method_8_code 20 = .ok (.ifCond .le 7, 3) := ky_dc db_X9_areNo_0 17 rfl
theorem dc_X9_refuse_27 : decode prog_10_method_8_code 27 = .ok (.iconst 0, 1) := ky_dc db_X9_areNo_0 18 rfl
theorem dc_X9_refuse_28 : decode prog_10_method_8_code 28 = .ok (.ireturn, 1) := ky_dc db_X9_areNo_0 19 rfl
theorem dc_X9_refuse_23 : decode prog_10_method_8_code 23 = .ok (.iconst 1, 1) := ky_dc db_X9_areNo_0 20 rfl
theorem dc_X9_refuse_24 : decode prog_10_method_8_code 24 = .ok (.goto 4, 3) := ky_dc db_X9_areNo_0 21 rfl
theorem dc_X9_refuse_4 : decode prog_10_method_8_code 4 = .ok (.aload_n 0, 1) := ky_dc db_X9_areNo_0 22 rfl
theorem dc_X9_refuse_5 : decode prog_10_method_8_code 5 = .ok (.getfield 32, 3) := ky_dc db_X9_areNo_0 23 rfl
theorem dc_X9_refuse_8 : decode prog_10_method_8_code 8 = .ok (.ifCond .ne 8, 3) := ky_dc db_X9_areNo_0 24 rfl
theorem dc_X9_refuse_11 : decode prog_10_method_8_code 11 = .ok (.aload_n 0, 1) := ky_dc db_X9_areNo_0 25 rfl
theorem dc_X9_refuse_12 : decode prog_10_method_8_code 12 = .ok (.iload_n 2, 1) := ky_dc db_X9_areNo_0 26 rfl
theorem dc_X9_refuse_13 : decode prog_10_method_8_code 13 = .ok (.putfield 32, 3) := ky_dc db_X9_areNo_0 27 rfl
theorem dc_X9_start_0 : decode prog_10_method_9_code 0 = .ok (.aload_n 0, 1) := ky_dc db_X9_areNo_0 28 rfl
theorem dc_X9_start_1 : decode prog_10_method_9_code 1 = .ok (.iconst 0, 1) := ky_dc db_X9_areNo_0 29 rfl
theorem dc_X9_start_2 : decode prog_10_method_9_code 2 = .ok (.putfield 32, 3) := ky_dc db_X9_areNo_0 30 rfl
theorem dc_X9_start_5 : decode prog_10_method_9_code 5 = .ok (.aload_n 0, 1) := ky_dc db_X9_areNo_0 31 rfl
theorem dc_X9_start_6 : decode prog_10_method_9_code 6 = .ok (.iload_n 1, 1) := ky_dc db_X9_areNo_0 32 rfl
theorem dc_X9_start_7 : decode prog_10_method_9_code 7 = .ok (.iconst 1, 1) := ky_dc db_X9_areNo_0 33 rfl
theorem dc_X9_start_8 : decode prog_10_method_9_code 8 = .ok (.invokevirtual 36, 3) := ky_dc db_X9_areNo_0 34 rfl
theorem dc_X9_start_11 : decode prog_10_method_9_code 11 = .ok (.ireturn, 1) := ky_dc db_X9_areNo_0 35 rfl
theorem dc_X9_give_0 : decode prog_10_method_11_code 0 = .ok (.aload_n 0, 1) := ky_dc db_X9_areNo_0 36 rfl
theorem dc_X9_give_1 : decode prog_10_method_11_code 1 = .ok (.getfield 25, 3) := ky_dc db_X9_areNo_0 37 rfl
theorem dc_X9_give_4 : decode prog_10_method_11_code 4 = .ok (.iload_n 1, 1) := ky_dc db_X9_areNo_0 38 rfl
theorem dc_X9_give_5 : decode prog_10_method_11_code 5 = .ok (.aload_n 2, 1) := ky_dc db_X9_areNo_0 39 rfl
theorem dc_X9_give_6 : decode prog_10_method_11_code 6 = .ok (.aastore, 1) := ky_dc db_X9_areNo_0 40 rfl
theorem dc_X9_give_7 : decode prog_10_method_11_code 7 = .ok (.aload_n 0, 1) := ky_dc db_X9_areNo_0 41 rfl
theorem dc_X9_give_8 : decode prog_10_method_11_code 8 = .ok (.dup, 1) := ky_dc db_X9_areNo_0 42 rfl
theorem dc_X9_give_9 : decode prog_10_method_11_code 9 = .ok (.getfield 44, 3) := ky_dc db_X9_areNo_0 43 rfl
theorem dc_X9_give_12 : decode prog_10_method_11_code 12 = .ok (.iconst 1, 1) := ky_dc db_X9_areNo_0 44 rfl
theorem dc_X9_give_13 : decode prog_10_method_11_code 13 = .ok (.iadd, 1) := ky_dc db_X9_areNo_0 45 rfl
theorem dc_X9_give_14 : decode prog_10_method_11_code 14 = .ok (.putfield 44, 3) := ky_dc db_X9_areNo_0 46 rfl
theorem dc_X9_give_17 : decode prog_10_method_11_code 17 = .ok (.aload_n 2, 1) := ky_dc db_X9_areNo_0 47 rfl
theorem dc_X9_give_18 : decode prog_10_method_11_code 18 = .ok (.invokevirtual 47, 3) := ky_dc db_X9_areNo_0 48 rfl
theorem dc_X9_give_21 : decode prog_10_method_11_code 21 = .ok (.ireturn, 1) := ky_dc db_X9_areNo_0 49 rfl
theorem dc_X9_zero_0 : decode prog_10_method_12_code 0 = .ok (.aload_n 0, 1) := ky_dc db_X9_areNo_0 50 rfl
theorem dc_X9_zero_1 : decode prog_10_method_12_code 1 = .ok (.iload_n 1, 1) := ky_dc db_X9_areNo_0 51 rfl
theorem dc_X9_zero_2 : decode prog_10_method_12_code 2 = .ok (.invokestatic 51, 3) := ky_dc db_X9_areNo_0 52 rfl
theorem dc_X9_zero_5 : decode prog_10_method_12_code 5 = .ok (.invokevirtual 55, 3) := ky_dc db_X9_areNo_0 53 rfl
theorem dc_X9_zero_8 : decode prog_10_method_12_code 8 = .ok (.ifCond .eq 7, 3) := ky_dc db_X9_areNo_0 54 rfl
theorem dc_X9_zero_15 : decode prog_10_method_12_code 15 = .ok (.aload_n 0, 1) := ky_dc db_X9_areNo_0 55 rfl
theorem dc_X9_zero_16 : decode prog_10_method_12_code 16 = .ok (.iload_n 1, 1) := ky_dc db_X9_areNo_0 56 rfl
theorem dc_X9_zero_17 : decode prog_10_method_12_code 17 = .ok (.new 23, 3) := ky_dc db_X9_areNo_0 57 rfl
theorem dc_X9_zero_20 : decode prog_10_method_12_code 20 = .ok (.dup, 1) := ky_dc db_X9_areNo_0 58 rfl
theorem dc_X9_zero_21 : decode prog_10_method_12_code 21 = .ok (.iload_n 2, 1) := ky_dc db_X9_areNo_0 59 rfl
def dl_X9_zero_22 : List (ByteArray × Nat × Jvm.ClassFile.Instr × Nat) := [(prog_10_method_12_code, 22, .invokestatic 59, 3), (prog_10_method_12_code, 25, .lconst 0, 1), (prog_10_method_12_code, 26, .invokespecial 29, 3), (prog_10_method_12_code, 29, .invokevirtual 63, 3), (prog_10_method_12_code, 32, .ireturn, 1), (prog_10_method_12_code, 11, .iconst 0, 1), (prog_10_method_12_code, 12, .goto 20, 3), (prog_10_method_13_code, 0, .aload_n 0, 1), (prog_10_method_13_code, 1, .iload_n 1, 1), (prog_10_method_13_code, 2, .invokestatic 51, 3), (prog_10_method_13_code, 5, .invokevirtual 55, 3), (prog_10_method_13_code, 8, .ifCond .eq 7, 3), (prog_10_method_13_code, 15, .aload_n 0, 1), (prog_10_method_13_code, 16, .iload_n 1, 1), (prog_10_method_13_code, 17, .new 23, 3), (prog_10_method_13_code, 20, .dup, 1), (prog_10_method_13_code, 21, .iload_n 2, 1), (prog_10_method_13_code, 22, .invokestatic 59, 3), (prog_10_method_13_code, 25, .ldc2_w 9, 3), (prog_10_method_13_code, 28, .invokespecial 29, 3), (prog_10_method_13_code, 31, .invokevirtual 63, 3), (prog_10_method_13_code, 34, .ireturn, 1), (prog_10_method_13_code, 11, .iconst 0, 1), (prog_10_method_13_code, 12, .goto 22, 3), (prog_10_method_16_code, 0, .aload_n 0, 1), (prog_10_method_16_code, 1, .iload_n 1, 1), (prog_10_method_16_code, 2, .invokestatic 51, 3), (prog_10_method_16_code, 5, .invokevirtual 55, 3), (prog_10_method_16_code, 8, .ifCond .eq 5, 3), (prog_10_method_16_code, 13, .iload_n 2, 1), (prog_10_method_16_code, 14, .i2l, 1), (prog_10_method_16_code, 15, .bipush 32, 2), (prog_10_method_16_code, 17, .lshl, 1), (prog_10_method_16_code, 18, .iload_n 3, 1), (prog_10_method_16_code, 19, .i2l, 1), (prog_10_method_16_code, 20, .ldc2_w 73, 3), (prog_10_method_16_code, 23, .land, 1), (prog_10_method_16_code, 24, .ladd, 1), (prog_10_method_16_code, 25, .lstore 4, 2), (prog_10_method_16_code, 27, .lload 4, 2), (prog_10_method_16_code, 29, .ldc2_w 77, 3), (prog_10_method_16_code, 32, .land, 1), (prog_10_method_16_code, 33, .lstore 6, 2), (prog_10_method_16_code, 35, .lload 6, 2), (prog_10_method_16_code, 37, .ldc2_w 9, 3), (prog_10_method_16_code, 40, .lcmp, 1), (prog_10_method_16_code, 41, .ifCond .le 16, 3), (prog_10_method_16_code, 57, .aload_n 0, 1), (prog_10_method_16_code, 58, .iload_n 1, 1), (prog_10_method_16_code, 59, .new 23, 3), (prog_10_method_16_code, 62, .dup, 1), (prog_10_method_16_code, 63, .iload_n 2, 1), (prog_10_method_16_code, 64, .ifCond .ge 7, 3), (prog_10_method_16_code, 71, .iconst 0, 1), (prog_10_method_16_code, 72, .invokestatic 59, 3), (prog_10_method_16_code, 75, .lload 6, 2), (prog_10_method_16_code, 77, .invokespecial 29, 3), (prog_10_method_16_code, 80, .invokevirtual 63, 3), (prog_10_method_16_code, 83, .ireturn, 1), (prog_10_method_16_code, 67, .iconst 1, 1)]
theorem db_X9_zero_22 : dl_X9_zero_22.all (fun x => decide (decode x.1 x.2.1 = .ok x.2.2)) = true := by decide +kernel
theorem dc_X9_zero_22 : decode prog_10_method_12_code 22 = .ok (.invokestatic 59, 3) := ky_dc db_X9_zero_22 0 rfl
theorem dc_X9_zero_25 : decode prog_10_method_12_code 25 = .ok (.lconst 0, 1) := ky_dc db_X9_zero_22 1 rfl
theorem dc_X9_zero_26 : decode prog_10_method_12_code 26 = .ok (.invokespecial 29, 3) := ky_dc db_X9_zero_22 2 rfl
theorem dc_X9_zero_29 : decode prog_10_method_12_code 29 = .ok (.invokevirtual 63, 3) := ky_dc db_X9_zero_22 3 rfl
theorem dc_X9_zero_32 : decode prog_10_method_12_code 32 = .ok (.ireturn, 1) := ky_dc db_X9_zero_22 4 rfl
theorem dc_X9_zero_11 : decode prog_10_method_12_code 11 = .ok (.iconst 0, 1) := ky_dc db_X9_zero_22 5 rfl
theorem dc_X9_zero_12 : decode prog_10_method_12_code 12 = .ok (.goto 20, 3) := ky_dc db_X9_zero_22 6 rfl
theorem dc_X9_endless_0 : decode prog_10_method_13_code 0 = .ok (.aload_n 0, 1) := ky_dc db_X9_zero_22 7 rfl
theorem dc_X9_endless_1 : decode prog_10_method_13_code 1 = .ok (.iload_n 1, 1) := ky_dc db_X9_zero_22 8 rfl
theorem dc_X9_endless_2 : decode prog_10_method_13_code 2 = .ok (.invokestatic 51, 3) := ky_dc db_X9_zero_22 9 rfl
theorem dc_X9_endless_5 : decode prog_10_method_13_code 5 = .ok (.invokevirtual 55, 3) := ky_dc db_X9_zero_22 10 rfl
theorem dc_X9_endless_8 : decode prog_10_method_13_code 8 = .ok (.ifCond .eq 7, 3) := ky_dc db_X9_zero_22 11 rfl
theorem dc_X9_endless_15 : decode prog_10_method_13_code 15 = .ok (.aload_n 0, 1) := ky_dc db_X9_zero_22 12 rfl
theorem dc_X9_endless_16 : decode prog_10_method_13_code 16 = .ok (.iload_n 1, 1) := ky_dc db_X9_zero_22 13 rfl
theorem dc_X9_endless_17 : decode prog_10_method_13_code 17 = .ok (.new 23, 3) := ky_dc db_X9_zero_22 14 rfl
theorem dc_X9_endless_20 : decode prog_10_method_13_code 20 = .ok (.dup, 1) := ky_dc db_X9_zero_22 15 rfl
theorem dc_X9_endless_21 : decode prog_10_method_13_code 21 = .ok (.iload_n 2, 1) := ky_dc db_X9_zero_22 16 rfl
theorem dc_X9_endless_22 : decode prog_10_method_13_code 22 = .ok (.invokestatic 59, 3) := ky_dc db_X9_zero_22 17 rfl
theorem dc_X9_endless_25 : decode prog_10_method_13_code 25 = .ok (.ldc2_w 9, 3) := ky_dc db_X9_zero_22 18 rfl
theorem dc_X9_endless_28 : decode prog_10_method_13_code 28 = .ok (.invokespecial 29, 3) := ky_dc db_X9_zero_22 19 rfl
theorem dc_X9_endless_31 : decode prog_10_method_13_code 31 = .ok (.invokevirtual 63, 3) := ky_dc db_X9_zero_22 20 rfl
theorem dc_X9_endless_34 : decode prog_10_method_13_code 34 = .ok (.ireturn, 1) := ky_dc db_X9_zero_22 21 rfl
theorem dc_X9_endless_11 : decode prog_10_method_13_code 11 = .ok (.iconst 0, 1) := ky_dc db_X9_zero_22 22 rfl
theorem dc_X9_endless_12 : decode prog_10_method_13_code 12 = .ok (.goto 22, 3) := ky_dc db_X9_zero_22 23 rfl
theorem dc_X9_bits_0 : decode prog_10_method_16_code 0 = .ok (.aload_n 0, 1) := ky_dc db_X9_zero_22 24 rfl
theorem dc_X9_bits_1 : decode prog_10_method_16_code 1 = .ok (.iload_n 1, 1) := ky_dc db_X9_zero_22 25 rfl
theorem dc_X9_bits_2 : decode prog_10_method_16_code 2 = .ok (.invokestatic 51, 3) := ky_dc db_X9_zero_22 26 rfl
theorem dc_X9_bits_5 : decode prog_10_method_16_code 5 = .ok (.invokevirtual 55, 3) := ky_dc db_X9_zero_22 27 rfl
theorem dc_X9_bits_8 : decode prog_10_method_16_code 8 = .ok (.ifCond .eq 5, 3) := ky_dc db_X9_zero_22 28 rfl
theorem dc_X9_bits_13 : decode prog_10_method_16_code 13 = .ok (.iload_n 2, 1) := ky_dc db_X9_zero_22 29 rfl
theorem dc_X9_bits_14 : decode prog_10_method_16_code 14 = .ok (.i2l, 1) := ky_dc db_X9_zero_22 30 rfl
theorem dc_X9_bits_15 : decode prog_10_method_16_code 15 = .ok (.bipush 32, 2) := ky_dc db_X9_zero_22 31 rfl
theorem dc_X9_bits_17 : decode prog_10_method_16_code 17 = .ok (.lshl, 1) := ky_dc db_X9_zero_22 32 rfl
theorem dc_X9_bits_18 : decode prog_10_method_16_code 18 = .ok (.iload_n 3, 1) := ky_dc db_X9_zero_22 33 rfl
theorem dc_X9_bits_19 : decode prog_10_method_16_code 19 = .ok (.i2l, 1) := ky_dc db_X9_zero_22 34 rfl
theorem dc_X9_bits_20 : decode prog_10_method_16_code 20 = .ok (.ldc2_w 73, 3) := ky_dc db_X9_zero_22 35 rfl
theorem dc_X9_bits_23 : decode prog_10_method_16_code 23 = .ok (.land, 1) := ky_dc db_X9_zero_22 36 rfl
theorem dc_X9_bits_24 : decode prog_10_method_16_code 24 = .ok (.ladd, 1) := ky_dc db_X9_zero_22 37 rfl
theorem dc_X9_bits_25 : decode prog_10_method_16_code 25 = .ok (.lstore 4, 2) := ky_dc db_X9_zero_22 38 rfl
theorem dc_X9_bits_27 : decode prog_10_method_16_code 27 = .ok (.lload 4, 2) := ky_dc db_X9_zero_22 39 rfl
theorem dc_X9_bits_29 : decode prog_10_method_16_code 29 = .ok (.ldc2_w 77, 3) := ky_dc db_X9_zero_22 40 rfl
theorem dc_X9_bits_32 : decode prog_10_method_16_code 32 = .ok (.land, 1) := ky_dc db_X9_zero_22 41 rfl
theorem dc_X9_bits_33 : decode prog_10_method_16_code 33 = .ok (.lstore 6, 2) := ky_dc db_X9_zero_22 42 rfl
theorem dc_X9_bits_35 : decode prog_10_method_16_code 35 = .ok (.lload 6, 2) := ky_dc db_X9_zero_22 43 rfl
theorem dc_X9_bits_37 : decode prog_10_method_16_code 37 = .ok (.ldc2_w 9, 3) := ky_dc db_X9_zero_22 44 rfl
theorem dc_X9_bits_40 : decode prog_10_method_16_code 40 = .ok (.lcmp, 1) := ky_dc db_X9_zero_22 45 rfl
theorem dc_X9_bits_41 : decode prog_10_method_16_code 41 = .ok (.ifCond .le 16, 3) := ky_dc db_X9_zero_22 46 rfl
theorem dc_X9_bits_57 : decode prog_10_method_16_code 57 = .ok (.aload_n 0, 1) := ky_dc db_X9_zero_22 47 rfl
theorem dc_X9_bits_58 : decode prog_10_method_16_code 58 = .ok (.iload_n 1, 1) := ky_dc db_X9_zero_22 48 rfl
theorem dc_X9_bits_59 : decode prog_10_method_16_code 59 = .ok (.new 23, 3) := ky_dc db_X9_zero_22 49 rfl
theorem dc_X9_bits_62 : decode prog_10_method_16_code 62 = .ok (.dup, 1) := ky_dc db_X9_zero_22 50 rfl
theorem dc_X9_bits_63 : decode prog_10_method_16_code 63 = .ok (.iload_n 2, 1) := ky_dc db_X9_zero_22 51 rfl
theorem dc_X9_bits_64 : decode prog_10_method_16_code 64 = .ok (.ifCond .ge 7, 3) := ky_dc db_X9_zero_22 52 rfl
theorem dc_X9_bits_71 : decode prog_10_method_16_code 71 = .ok (.iconst 0, 1) := ky_dc db_X9_zero_22 53 rfl
theorem dc_X9_bits_72 : decode prog_10_method_16_code 72 = .ok (.invokestatic 59, 3) := ky_dc db_X9_zero_22 54 rfl
theorem dc_X9_bits_75 : decode prog_10_method_16_code 75 = .ok (.lload 6, 2) := ky_dc db_X9_zero_22 55 rfl
theorem dc_X9_bits_77 : decode prog_10_method_16_code 77 = .ok (.invokespecial 29, 3) := ky_dc db_X9_zero_22 56 rfl
theorem dc_X9_bits_80 : decode prog_10_method_16_code 80 = .ok (.invokevirtual 63, 3) := ky_dc db_X9_zero_22 57 rfl
theorem dc_X9_bits_83 : decode prog_10_method_16_code 83 = .ok (.ireturn, 1) := ky_dc db_X9_zero_22 58 rfl
theorem dc_X9_bits_67 : decode prog_10_method_16_code 67 = .ok (.iconst 1, 1) := ky_dc db_X9_zero_22 59 rfl
def dl_X9_bits_68 : List (ByteArray × Nat × Jvm.ClassFile.Instr × Nat) := [(prog_10_method_16_code, 68, .goto 4, 3), (prog_10_method_16_code, 44, .aload_n 0, 1), (prog_10_method_16_code, 45, .dup, 1), (prog_10_method_16_code, 46, .getfield 79, 3), (prog_10_method_16_code, 49, .iconst 1, 1), (prog_10_method_16_code, 50, .iadd, 1), (prog_10_method_16_code, 51, .putfield 79, 3), (prog_10_method_16_code, 54, .bipush (-9), 2), (prog_10_method_16_code, 56, .ireturn, 1), (prog_10_method_16_code, 11, .iconst 0, 1), (prog_10_method_16_code, 12, .ireturn, 1), (prog_10_method_20_code, 0, .aload_n 0, 1), (prog_10_method_20_code, 1, .aload_n 0, 1), (prog_10_method_20_code, 2, .iload_n 1, 1), (prog_10_method_20_code, 3, .iload_n 2, 1), (prog_10_method_20_code, 4, .invokevirtual 104, 3), (prog_10_method_20_code, 7, .invokevirtual 55, 3), (prog_10_method_20_code, 10, .ifCond .eq 7, 3), (prog_10_method_20_code, 17, .aload_n 0, 1), (prog_10_method_20_code, 18, .iload_n 2, 1), (prog_10_method_20_code, 19, .aload_n 0, 1), (prog_10_method_20_code, 20, .getfield 25, 3), (prog_10_method_20_code, 23, .iload_n 1, 1), (prog_10_method_20_code, 24, .aaload, 1), (prog_10_method_20_code, 25, .invokevirtual 63, 3), (prog_10_method_20_code, 28, .ireturn, 1), (prog_10_method_20_code, 13, .iconst 0, 1), (prog_10_method_20_code, 14, .goto 14, 3), (prog_10_method_21_code, 0, .aload_n 0, 1), (prog_10_method_21_code, 1, .aload_n 0, 1), (prog_10_method_21_code, 2, .iload_n 1, 1), (prog_10_method_21_code, 3, .iload_n 2, 1), (prog_10_method_21_code, 4, .invokevirtual 104, 3), (prog_10_method_21_code, 7, .invokevirtual 55, 3), (prog_10_method_21_code, 10, .ifCond .eq 5, 3), (prog_10_method_21_code, 15, .aload_n 0, 1), (prog_10_method_21_code, 16, .getfield 25, 3), (prog_10_method_21_code, 19, .iload_n 1, 1), (prog_10_method_21_code, 20, .aaload, 1), (prog_10_method_21_code, 21, .astore_n 3, 1), (prog_10_method_21_code, 22, .aload_n 0, 1), (prog_10_method_21_code, 23, .iload_n 1, 1), (prog_10_method_21_code, 24, .aload_n 0, 1), (prog_10_method_21_code, 25, .getfield 25, 3), (prog_10_method_21_code, 28, .iload_n 2, 1), (prog_10_method_21_code, 29, .aaload, 1), (prog_10_method_21_code, 30, .invokevirtual 63, 3), (prog_10_method_21_code, 33, .pop, 1), (prog_10_method_21_code, 34, .aload_n 0, 1), (prog_10_method_21_code, 35, .iload_n 2, 1), (prog_10_method_21_code, 36, .aload_n 3, 1), (prog_10_method_21_code, 37, .invokevirtual 63, 3), (prog_10_method_21_code, 40, .pop, 1), (prog_10_method_21_code, 41, .aload_n 0, 1), (prog_10_method_21_code, 42, .getfield 25, 3), (prog_10_method_21_code, 45, .iload_n 1, 1), (prog_10_method_21_code, 46, .aaload, 1), (prog_10_method_21_code, 47, .invokevirtual 47, 3), (prog_10_method_21_code, 50, .ireturn, 1), (prog_10_method_21_code, 13, .iconst 0, 1)]
theorem db_X9_bits_68 : dl_X9_bits_68.all (fun x => decide (decode x.1 x.2.1 = .ok x.2.2)) = true := by decide +kernel
theorem dc_X9_bits_68 : decode prog_10_method_16_code 68 = .ok (.goto 4, 3) := ky_dc db_X9_bits_68 0 rfl
theorem dc_X9_bits_44 : decode prog_10_method_16_code 44 = .ok (.aload_n 0, 1) := ky_dc db_X9_bits_68 1 rfl
theorem dc_X9_bits_45 : decode prog_10_method_16_code 45 = .ok (.dup, 1) := ky_dc db_X9_bits_68 2 rfl
theorem dc_X9_bits_46 : decode prog_10_method_16_code 46 = .ok (.getfield 79, 3) := ky_dc db_X9_bits_68 3 rfl
theorem dc_X9_bits_49 : decode prog_10_method_16_code 49 = .ok (.iconst 1, 1) := ky_dc db_X9_bits_68 4 rfl
theorem dc_X9_bits_50 : decode prog_10_method_16_code 50 = .ok (.iadd, 1) := ky_dc db_X9_bits_68 5 rfl
theorem dc_X9_bits_51 : decode prog_10_method_16_code 51 = .ok (.putfield 79, 3) := ky_dc db_X9_bits_68 6 rfl
theorem dc_X9_bits_54 : decode prog_10_method_16_code 54 = .ok (.bipush (-9), 2) := ky_dc db_X9_bits_68 7 rfl
theorem dc_X9_bits_56 : decode prog_10_method_16_code 56 = .ok (.ireturn, 1) := ky_dc db_X9_bits_68 8 rfl
theorem dc_X9_bits_11 : decode prog_10_method_16_code 11 = .ok (.iconst 0, 1) := ky_dc db_X9_bits_68 9 rfl
theorem dc_X9_bits_12 : decode prog_10_method_16_code 12 = .ok (.ireturn, 1) := ky_dc db_X9_bits_68 10 rfl
theorem dc_X9_copy_0 : decode prog_10_method_20_code 0 = .ok (.aload_n 0, 1) := ky_dc db_X9_bits_68 11 rfl
theorem dc_X9_copy_1 : decode prog_10_method_20_code 1 = .ok (.aload_n 0, 1) := ky_dc db_X9_bits_68 12 rfl
theorem dc_X9_copy_2 : decode prog_10_method_20_code 2 = .ok (.iload_n 1, 1) := ky_dc db_X9_bits_68 13 rfl
theorem dc_X9_copy_3 : decode prog_10_method_20_code 3 = .ok (.iload_n 2, 1) := ky_dc db_X9_bits_68 14 rfl
theorem dc_X9_copy_4 : decode prog_10_method_20_code 4 = .ok (.invokevirtual 104, 3) := ky_dc db_X9_bits_68 15 rfl
theorem dc_X9_copy_7 : decode prog_10_method_20_code 7 = .ok (.invokevirtual 55, 3) := ky_dc db_X9_bits_68 16 rfl
theorem dc_X9_copy_10 : decode prog_10_method_20_code 10 = .ok (.ifCond .eq 7, 3) := ky_dc db_X9_bits_68 17 rfl
theorem dc_X9_copy_17 : decode prog_10_method_20_code 17 = .ok (.aload_n 0, 1) := ky_dc db_X9_bits_68 18 rfl
theorem dc_X9_copy_18 : decode prog_10_method_20_code 18 = .ok (.iload_n 2, 1) := ky_dc db_X9_bits_68 19 rfl
theorem dc_X9_copy_19 : decode prog_10_method_20_code 19 = .ok (.aload_n 0, 1) := ky_dc db_X9_bits_68 20 rfl
theorem dc_X9_copy_20 : decode prog_10_method_20_code 20 = .ok (.getfield 25, 3) := ky_dc db_X9_bits_68 21 rfl
theorem dc_X9_copy_23 : decode prog_10_method_20_code 23 = .ok (.iload_n 1, 1) := ky_dc db_X9_bits_68 22 rfl
theorem dc_X9_copy_24 : decode prog_10_method_20_code 24 = .ok (.aaload, 1) := ky_dc db_X9_bits_68 23 rfl
theorem dc_X9_copy_25 : decode prog_10_method_20_code 25 = .ok (.invokevirtual 63, 3) := ky_dc db_X9_bits_68 24 rfl
theorem dc_X9_copy_28 : decode prog_10_method_20_code 28 = .ok (.ireturn, 1) := ky_dc db_X9_bits_68 25 rfl
theorem dc_X9_copy_13 : decode prog_10_method_20_code 13 = .ok (.iconst 0, 1) := ky_dc db_X9_bits_68 26 rfl
theorem dc_X9_copy_14 : decode prog_10_method_20_code 14 = .ok (.goto 14, 3) := ky_dc db_X9_bits_68 27 rfl
theorem dc_X9_swap_0 : decode prog_10_method_21_code 0 = .ok (.aload_n 0, 1) := ky_dc db_X9_bits_68 28 rfl
theorem dc_X9_swap_1 : decode prog_10_method_21_code 1 = .ok (.aload_n 0, 1) := ky_dc db_X9_bits_68 29 rfl
theorem dc_X9_swap_2 : decode prog_10_method_21_code 2 = .ok (.iload_n 1, 1) := ky_dc db_X9_bits_68 30 rfl
theorem dc_X9_swap_3 : decode prog_10_method_21_code 3 = .ok (.iload_n 2, 1) := ky_dc db_X9_bits_68 31 rfl
theorem dc_X9_swap_4 : decode prog_10_method_21_code 4 = .ok (.invokevirtual 104, 3) := ky_dc db_X9_bits_68 32 rfl
theorem dc_X9_swap_7 : decode prog_10_method_21_code 7 = .ok (.invokevirtual 55, 3) := ky_dc db_X9_bits_68 33 rfl
theorem dc_X9_swap_10 : decode prog_10_method_21_code 10 = .ok (.ifCond .eq 5, 3) := ky_dc db_X9_bits_68 34 rfl
theorem dc_X9_swap_15 : decode prog_10_method_21_code 15 = .ok (.aload_n 0, 1) := ky_dc db_X9_bits_68 35 rfl
theorem dc_X9_swap_16 : decode prog_10_method_21_code 16 = .ok (.getfield 25, 3) := ky_dc db_X9_bits_68 36 rfl
theorem dc_X9_swap_19 : decode prog_10_method_21_code 19 = .ok (.iload_n 1, 1) := ky_dc db_X9_bits_68 37 rfl
theorem dc_X9_swap_20 : decode prog_10_method_21_code 20 = .ok (.aaload, 1) := ky_dc db_X9_bits_68 38 rfl
theorem dc_X9_swap_21 : decode prog_10_method_21_code 21 = .ok (.astore_n 3, 1) := ky_dc db_X9_bits_68 39 rfl
theorem dc_X9_swap_22 : decode prog_10_method_21_code 22 = .ok (.aload_n 0, 1) := ky_dc db_X9_bits_68 40 rfl
theorem dc_X9_swap_23 : decode prog_10_method_21_code 23 = .ok (.iload_n 1, 1) := ky_dc db_X9_bits_68 41 rfl
theorem dc_X9_swap_24 : decode prog_10_method_21_code 24 = .ok (.aload_n 0, 1) := ky_dc db_X9_bits_68 42 rfl
theorem dc_X9_swap_25 : decode prog_10_method_21_code 25 = .ok (.getfield 25, 3) := ky_dc db_X9_bits_68 43 rfl
theorem dc_X9_swap_28 : decode prog_10_method_21_code 28 = .ok (.iload_n 2, 1) := ky_dc db_X9_bits_68 44 rfl
theorem dc_X9_swap_29 : decode prog_10_method_21_code 29 = .ok (.aaload, 1) := ky_dc db_X9_bits_68 45 rfl
theorem dc_X9_swap_30 : decode prog_10_method_21_code 30 = .ok (.invokevirtual 63, 3) := ky_dc db_X9_bits_68 46 rfl
theorem dc_X9_swap_33 : decode prog_10_method_21_code 33 = .ok (.pop, 1) := ky_dc db_X9_bits_68 47 rfl
theorem dc_X9_swap_34 : decode prog_10_method_21_code 34 = .ok (.aload_n 0, 1) := ky_dc db_X9_bits_68 48 rfl
theorem dc_X9_swap_35 : decode prog_10_method_21_code 35 = .ok (.iload_n 2, 1) := ky_dc db_X9_bits_68 49 rfl
theorem dc_X9_swap_36 : decode prog_10_method_21_code 36 = .ok (.aload_n 3, 1) := ky_dc db_X9_bits_68 50 rfl
theorem dc_X9_swap_37 : decode prog_10_method_21_code 37 = .ok (.invokevirtual 63, 3) := ky_dc db_X9_bits_68 51 rfl
theorem dc_X9_swap_40 : decode prog_10_method_21_code 40 = .ok (.pop, 1) := ky_dc db_X9_bits_68 52 rfl
theorem dc_X9_swap_41 : decode prog_10_method_21_code 41 = .ok (.aload_n 0, 1) := ky_dc db_X9_bits_68 53 rfl
theorem dc_X9_swap_42 : decode prog_10_method_21_code 42 = .ok (.getfield 25, 3) := ky_dc db_X9_bits_68 54 rfl
theorem dc_X9_swap_45 : decode prog_10_method_21_code 45 = .ok (.iload_n 1, 1) := ky_dc db_X9_bits_68 55 rfl
theorem dc_X9_swap_46 : decode prog_10_method_21_code 46 = .ok (.aaload, 1) := ky_dc db_X9_bits_68 56 rfl
theorem dc_X9_swap_47 : decode prog_10_method_21_code 47 = .ok (.invokevirtual 47, 3) := ky_dc db_X9_bits_68 57 rfl
theorem dc_X9_swap_50 : decode prog_10_method_21_code 50 = .ok (.ireturn, 1) := ky_dc db_X9_bits_68 58 rfl
theorem dc_X9_swap_13 : decode prog_10_method_21_code 13 = .ok (.iconst 0, 1) := ky_dc db_X9_bits_68 59 rfl
def dl_X9_swap_14 : List (ByteArray × Nat × Jvm.ClassFile.Instr × Nat) := [(prog_10_method_21_code, 14, .ireturn, 1), (prog_10_method_26_code, 0, .aload_n 0, 1), (prog_10_method_26_code, 1, .aload_n 0, 1), (prog_10_method_26_code, 2, .iload_n 1, 1), (prog_10_method_26_code, 3, .iload_n 2, 1), (prog_10_method_26_code, 4, .invokevirtual 104, 3), (prog_10_method_26_code, 7, .invokevirtual 55, 3), (prog_10_method_26_code, 10, .ifCond .eq 7, 3), (prog_10_method_26_code, 17, .aload_n 0, 1), (prog_10_method_26_code, 18, .iload_n 2, 1), (prog_10_method_26_code, 19, .new 23, 3), (prog_10_method_26_code, 22, .dup, 1), (prog_10_method_26_code, 23, .iconst 0, 1), (prog_10_method_26_code, 24, .aload_n 0, 1), (prog_10_method_26_code, 25, .getfield 25, 3), (prog_10_method_26_code, 28, .iload_n 1, 1), (prog_10_method_26_code, 29, .aaload, 1), (prog_10_method_26_code, 30, .getfield 116, 3), (prog_10_method_26_code, 33, .invokespecial 29, 3), (prog_10_method_26_code, 36, .invokevirtual 63, 3), (prog_10_method_26_code, 39, .ireturn, 1), (prog_10_method_26_code, 13, .iconst 0, 1), (prog_10_method_26_code, 14, .goto 25, 3), (prog_10_method_27_code, 0, .aload_n 0, 1), (prog_10_method_27_code, 1, .aload_n 0, 1), (prog_10_method_27_code, 2, .iload_n 1, 1), (prog_10_method_27_code, 3, .iload_n 2, 1), (prog_10_method_27_code, 4, .invokevirtual 104, 3), (prog_10_method_27_code, 7, .invokevirtual 55, 3), (prog_10_method_27_code, 10, .ifCond .eq 7, 3), (prog_10_method_27_code, 17, .aload_n 0, 1), (prog_10_method_27_code, 18, .iload_n 2, 1), (prog_10_method_27_code, 19, .aload_n 0, 1), (prog_10_method_27_code, 20, .getfield 25, 3), (prog_10_method_27_code, 23, .iload_n 1, 1), (prog_10_method_27_code, 24, .aaload, 1), (prog_10_method_27_code, 25, .invokevirtual 120, 3), (prog_10_method_27_code, 28, .invokevirtual 63, 3), (prog_10_method_27_code, 31, .ireturn, 1), (prog_10_method_27_code, 13, .iconst 0, 1), (prog_10_method_27_code, 14, .goto 17, 3), (prog_10_method_29_code, 0, .aload_n 0, 1), (prog_10_method_29_code, 1, .aload_n 0, 1), (prog_10_method_29_code, 2, .iload_n 1, 1), (prog_10_method_29_code, 3, .iload_n 2, 1), (prog_10_method_29_code, 4, .invokevirtual 104, 3), (prog_10_method_29_code, 7, .invokevirtual 55, 3), (prog_10_method_29_code, 10, .ifCond .eq 7, 3), (prog_10_method_29_code, 17, .aload_n 0, 1), (prog_10_method_29_code, 18, .iload_n 2, 1), (prog_10_method_29_code, 19, .aload_n 0, 1), (prog_10_method_29_code, 20, .getfield 25, 3), (prog_10_method_29_code, 23, .iload_n 1, 1), (prog_10_method_29_code, 24, .aaload, 1), (prog_10_method_29_code, 25, .invokevirtual 127, 3), (prog_10_method_29_code, 28, .invokevirtual 63, 3), (prog_10_method_29_code, 31, .ireturn, 1), (prog_10_method_29_code, 13, .iconst 0, 1), (prog_10_method_29_code, 14, .goto 17, 3), (prog_10_method_30_code, 0, .aload_n 0, 1)]
theorem db_X9_swap_14 : dl_X9_swap_14.all (fun x => decide (decode x.1 x.2.1 = .ok x.2.2)) = true := by decide +kernel
theorem dc_X9_swap_14 : decode prog_10_method_21_code 14 = .ok (.ireturn, 1) := ky_dc db_X9_swap_14 0 rfl
theorem dc_X9_size_0 : decode prog_10_method_26_code 0 = .ok (.aload_n 0, 1) := ky_dc db_X9_swap_14 1 rfl
theorem dc_X9_size_1 : decode prog_10_method_26_code 1 = .ok (.aload_n 0, 1) := ky_dc db_X9_swap_14 2 rfl
theorem dc_X9_size_2 : decode prog_10_method_26_code 2 = .ok (.iload_n 1, 1) := ky_dc db_X9_swap_14 3 rfl
theorem dc_X9_size_3 : decode prog_10_method_26_code 3 = .ok (.iload_n 2, 1) := ky_dc db_X9_swap_14 4 rfl
theorem dc_X9_size_4 : decode prog_10_method_26_code 4 = .ok (.invokevirtual 104, 3) := ky_dc db_X9_swap_14 5 rfl
theorem dc_X9_size_7 : decode prog_10_method_26_code 7 = .ok (.invokevirtual 55, 3) := ky_dc db_X9_swap_14 6 rfl
theorem dc_X9_size_10 : decode prog_10_method_26_code 10 = .ok (.ifCond .eq 7, 3) := ky_dc db_X9_swap_14 7 rfl
theorem dc_X9_size_17 : decode prog_10_method_26_code 17 = .ok (.aload_n 0, 1) := ky_dc db_X9_swap_14 8 rfl
theorem dc_X9_size_18 : decode prog_10_method_26_code 18 = .ok (.iload_n 2, 1) := ky_dc db_X9_swap_14 9 rfl
theorem dc_X9_size_19 : decode prog_10_method_26_code 19 = .ok (.new 23, 3) := ky_dc db_X9_swap_14 10 rfl
theorem dc_X9_size_22 : decode prog_10_method_26_code 22 = .ok (.dup, 1) := ky_dc db_X9_swap_14 11 rfl
theorem dc_X9_size_23 : decode prog_10_method_26_code 23 = .ok (.iconst 0, 1) := ky_dc db_X9_swap_14 12 rfl
theorem dc_X9_size_24 : decode prog_10_method_26_code 24 = .ok (.aload_n 0, 1) := ky_dc db_X9_swap_14 13 rfl
theorem dc_X9_size_25 : decode prog_10_method_26_code 25 = .ok (.getfield 25, 3) := ky_dc db_X9_swap_14 14 rfl
theorem dc_X9_size_28 : decode prog_10_method_26_code 28 = .ok (.iload_n 1, 1) := ky_dc db_X9_swap_14 15 rfl
theorem dc_X9_size_29 : decode prog_10_method_26_code 29 = .ok (.aaload, 1) := ky_dc db_X9_swap_14 16 rfl
theorem dc_X9_size_30 : decode prog_10_method_26_code 30 = .ok (.getfield 116, 3) := ky_dc db_X9_swap_14 17 rfl
theorem dc_X9_size_33 : decode prog_10_method_26_code 33 = .ok (.invokespecial 29, 3) := ky_dc db_X9_swap_14 18 rfl
theorem dc_X9_size_36 : decode prog_10_method_26_code 36 = .ok (.invokevirtual 63, 3) := ky_dc db_X9_swap_14 19 rfl
theorem dc_X9_size_39 : decode prog_10_method_26_code 39 = .ok (.ireturn, 1) := ky_dc db_X9_swap_14 20 rfl
theorem dc_X9_size_13 : decode prog_10_method_26_code 13 = .ok (.iconst 0, 1) := ky_dc db_X9_swap_14 21 rfl
theorem dc_X9_size_14 : decode prog_10_method_26_code 14 = .ok (.goto 25, 3) := ky_dc db_X9_swap_14 22 rfl
theorem dc_X9_turn_0 : decode prog_10_method_27_code 0 = .ok (.aload_n 0, 1) := ky_dc db_X9_swap_14 23 rfl
theorem dc_X9_turn_1 : decode prog_10_method_27_code 1 = .ok (.aload_n 0, 1) := ky_dc db_X9_swap_14 24 rfl
theorem dc_X9_turn_2 : decode prog_10_method_27_code 2 = .ok (.iload_n 1, 1) := ky_dc db_X9_swap_14 25 rfl
theorem dc_X9_turn_3 : decode prog_10_method_27_code 3 = .ok (.iload_n 2, 1) := ky_dc db_X9_swap_14 26 rfl
theorem dc_X9_turn_4 : decode prog_10_method_27_code 4 = .ok (.invokevirtual 104, 3) := ky_dc db_X9_swap_14 27 rfl
theorem dc_X9_turn_7 : decode prog_10_method_27_code 7 = .ok (.invokevirtual 55, 3) := ky_dc db_X9_swap_14 28 rfl
theorem dc_X9_turn_10 : decode prog_10_method_27_code 10 = .ok (.ifCond .eq 7, 3) := ky_dc db_X9_swap_14 29 rfl
theorem dc_X9_turn_17 : decode prog_10_method_27_code 17 = .ok (.aload_n 0, 1) := ky_dc db_X9_swap_14 30 rfl
theorem dc_X9_turn_18 : decode prog_10_method_27_code 18 = .ok (.iload_n 2, 1) := ky_dc db_X9_swap_14 31 rfl
theorem dc_X9_turn_19 : decode prog_10_method_27_code 19 = .ok (.aload_n 0, 1) := ky_dc db_X9_swap_14 32 rfl
theorem dc_X9_turn_20 : decode prog_10_method_27_code 20 = .ok (.getfield 25, 3) := ky_dc db_X9_swap_14 33 rfl
theorem dc_X9_turn_23 : decode prog_10_method_27_code 23 = .ok (.iload_n 1, 1) := ky_dc db_X9_swap_14 34 rfl
theorem dc_X9_turn_24 : decode prog_10_method_27_code 24 = .ok (.aaload, 1) := ky_dc db_X9_swap_14 35 rfl
theorem dc_X9_turn_25 : decode prog_10_method_27_code 25 = .ok (.invokevirtual 120, 3) := ky_dc db_X9_swap_14 36 rfl
theorem dc_X9_turn_28 : decode prog_10_method_27_code 28 = .ok (.invokevirtual 63, 3) := ky_dc db_X9_swap_14 37 rfl
theorem dc_X9_turn_31 : decode prog_10_method_27_code 31 = .ok (.ireturn, 1) := ky_dc db_X9_swap_14 38 rfl
theorem dc_X9_turn_13 : decode prog_10_method_27_code 13 = .ok (.iconst 0, 1) := ky_dc db_X9_swap_14 39 rfl
theorem dc_X9_turn_14 : decode prog_10_method_27_code 14 = .ok (.goto 17, 3) := ky_dc db_X9_swap_14 40 rfl
theorem dc_X9_up_0 : decode prog_10_method_29_code 0 = .ok (.aload_n 0, 1) := ky_dc db_X9_swap_14 41 rfl
theorem dc_X9_up_1 : decode prog_10_method_29_code 1 = .ok (.aload_n 0, 1) := ky_dc db_X9_swap_14 42 rfl
theorem dc_X9_up_2 : decode prog_10_method_29_code 2 = .ok (.iload_n 1, 1) := ky_dc db_X9_swap_14 43 rfl
theorem dc_X9_up_3 : decode prog_10_method_29_code 3 = .ok (.iload_n 2, 1) := ky_dc db_X9_swap_14 44 rfl
theorem dc_X9_up_4 : decode prog_10_method_29_code 4 = .ok (.invokevirtual 104, 3) := ky_dc db_X9_swap_14 45 rfl
theorem dc_X9_up_7 : decode prog_10_method_29_code 7 = .ok (.invokevirtual 55, 3) := ky_dc db_X9_swap_14 46 rfl
theorem dc_X9_up_10 : decode prog_10_method_29_code 10 = .ok (.ifCond .eq 7, 3) := ky_dc db_X9_swap_14 47 rfl
theorem dc_X9_up_17 : decode prog_10_method_29_code 17 = .ok (.aload_n 0, 1) := ky_dc db_X9_swap_14 48 rfl
theorem dc_X9_up_18 : decode prog_10_method_29_code 18 = .ok (.iload_n 2, 1) := ky_dc db_X9_swap_14 49 rfl
theorem dc_X9_up_19 : decode prog_10_method_29_code 19 = .ok (.aload_n 0, 1) := ky_dc db_X9_swap_14 50 rfl
theorem dc_X9_up_20 : decode prog_10_method_29_code 20 = .ok (.getfield 25, 3) := ky_dc db_X9_swap_14 51 rfl
theorem dc_X9_up_23 : decode prog_10_method_29_code 23 = .ok (.iload_n 1, 1) := ky_dc db_X9_swap_14 52 rfl
theorem dc_X9_up_24 : decode prog_10_method_29_code 24 = .ok (.aaload, 1) := ky_dc db_X9_swap_14 53 rfl
theorem dc_X9_up_25 : decode prog_10_method_29_code 25 = .ok (.invokevirtual 127, 3) := ky_dc db_X9_swap_14 54 rfl
theorem dc_X9_up_28 : decode prog_10_method_29_code 28 = .ok (.invokevirtual 63, 3) := ky_dc db_X9_swap_14 55 rfl
theorem dc_X9_up_31 : decode prog_10_method_29_code 31 = .ok (.ireturn, 1) := ky_dc db_X9_swap_14 56 rfl
theorem dc_X9_up_13 : decode prog_10_method_29_code 13 = .ok (.iconst 0, 1) := ky_dc db_X9_swap_14 57 rfl
theorem dc_X9_up_14 : decode prog_10_method_29_code 14 = .ok (.goto 17, 3) := ky_dc db_X9_swap_14 58 rfl
theorem dc_X9_down_0 : decode prog_10_method_30_code 0 = .ok (.aload_n 0, 1) := ky_dc db_X9_swap_14 59 rfl
def dl_X9_down_1 : List (ByteArray × Nat × Jvm.ClassFile.Instr × Nat) := [(prog_10_method_30_code, 1, .aload_n 0, 1), (prog_10_method_30_code, 2, .iload_n 1, 1), (prog_10_method_30_code, 3, .iload_n 2, 1), (prog_10_method_30_code, 4, .invokevirtual 104, 3), (prog_10_method_30_code, 7, .invokevirtual 55, 3), (prog_10_method_30_code, 10, .ifCond .eq 7, 3), (prog_10_method_30_code, 17, .aload_n 0, 1), (prog_10_method_30_code, 18, .iload_n 2, 1), (prog_10_method_30_code, 19, .aload_n 0, 1), (prog_10_method_30_code, 20, .getfield 25, 3), (prog_10_method_30_code, 23, .iload_n 1, 1), (prog_10_method_30_code, 24, .aaload, 1), (prog_10_method_30_code, 25, .iconst 1, 1), (prog_10_method_30_code, 26, .invokevirtual 130, 3), (prog_10_method_30_code, 29, .invokevirtual 63, 3), (prog_10_method_30_code, 32, .ireturn, 1), (prog_10_method_30_code, 13, .iconst 0, 1), (prog_10_method_30_code, 14, .goto 18, 3), (prog_10_method_34_code, 0, .aload_n 0, 1), (prog_10_method_34_code, 1, .aload_n 0, 1), (prog_10_method_34_code, 2, .iload_n 1, 1), (prog_10_method_34_code, 3, .iload_n 2, 1), (prog_10_method_34_code, 4, .invokevirtual 104, 3), (prog_10_method_34_code, 7, .ifCond .ne 10, 3), (prog_10_method_34_code, 17, .iconst 1, 1), (prog_10_method_34_code, 18, .goto 4, 3), (prog_10_method_34_code, 22, .invokevirtual 55, 3), (prog_10_method_34_code, 25, .ifCond .eq 7, 3), (prog_10_method_34_code, 28, .iconst 0, 1), (prog_10_method_34_code, 29, .goto 33, 3), (prog_10_method_34_code, 62, .ireturn, 1), (prog_10_method_34_code, 10, .iload_n 3, 1), (prog_10_method_34_code, 11, .invokestatic 51, 3), (prog_10_method_34_code, 14, .ifCond .eq 7, 3), (prog_10_method_34_code, 21, .iconst 0, 1), (prog_10_method_34_code, 32, .aload_n 0, 1), (prog_10_method_34_code, 33, .iload_n 3, 1), (prog_10_method_34_code, 34, .new 23, 3), (prog_10_method_34_code, 37, .dup, 1), (prog_10_method_34_code, 38, .aload_n 0, 1), (prog_10_method_34_code, 39, .getfield 25, 3), (prog_10_method_34_code, 42, .iload_n 2, 1), (prog_10_method_34_code, 43, .aaload, 1), (prog_10_method_34_code, 44, .getfield 144, 3), (prog_10_method_34_code, 47, .aload_n 0, 1), (prog_10_method_34_code, 48, .getfield 25, 3), (prog_10_method_34_code, 51, .iload_n 1, 1), (prog_10_method_34_code, 52, .aaload, 1), (prog_10_method_34_code, 53, .getfield 116, 3), (prog_10_method_34_code, 56, .invokespecial 29, 3), (prog_10_method_34_code, 59, .invokevirtual 63, 3), (prog_10_method_39_code, 0, .aload_n 0, 1), (prog_10_method_39_code, 1, .iload_n 1, 1), (prog_10_method_39_code, 2, .invokestatic 51, 3), (prog_10_method_39_code, 5, .invokevirtual 55, 3), (prog_10_method_39_code, 8, .ifCond .eq 7, 3), (prog_10_method_39_code, 15, .aload_n 0, 1), (prog_10_method_39_code, 16, .getfield 25, 3), (prog_10_method_39_code, 19, .iload_n 1, 1), (prog_10_method_39_code, 20, .aaload, 1)]
theorem db_X9_down_1 : dl_X9_down_1.all (fun x => decide (decode x.1 x.2.1 = .ok x.2.2)) = true := by decide +kernel
theorem dc_X9_down_1 : decode prog_10_method_30_code 1 = .ok (.aload_n 0, 1) := ky_dc db_X9_down_1 0 rfl
theorem dc_X9_down_2 : decode prog_10_method_30_code 2 = .ok (.iload_n 1, 1) := ky_dc db_X9_down_1 1 rfl
theorem dc_X9_down_3 : decode prog_10_method_30_code 3 = .ok (.iload_n 2, 1) := ky_dc db_X9_down_1 2 rfl
theorem dc_X9_down_4 : decode prog_10_method_30_code 4 = .ok (.invokevirtual 104, 3) := ky_dc db_X9_down_1 3 rfl
theorem dc_X9_down_7 : decode prog_10_method_30_code 7 = .ok (.invokevirtual 55, 3) := ky_dc db_X9_down_1 4 rfl
theorem dc_X9_down_10 : decode prog_10_method_30_code 10 = .ok (.ifCond .eq 7, 3) := ky_dc db_X9_down_1 5 rfl
theorem dc_X9_down_17 : decode prog_10_method_30_code 17 = .ok (.aload_n 0, 1) := ky_dc db_X9_down_1 6 rfl
theorem dc_X9_down_18 : decode prog_10_method_30_code 18 = .ok (.iload_n 2, 1) := ky_dc db_X9_down_1 7 rfl
theorem dc_X9_down_19 : decode prog_10_method_30_code 19 = .ok (.aload_n 0, 1) := ky_dc db_X9_down_1 8 rfl
theorem dc_X9_down_20 : decode prog_10_method_30_code 20 = .ok (.getfield 25, 3) := ky_dc db_X9_down_1 9 rfl
theorem dc_X9_down_23 : decode prog_10_method_30_code 23 = .ok (.iload_n 1, 1) := ky_dc db_X9_down_1 10 rfl
theorem dc_X9_down_24 : decode prog_10_method_30_code 24 = .ok (.aaload, 1) := ky_dc db_X9_down_1 11 rfl
theorem dc_X9_down_25 : decode prog_10_method_30_code 25 = .ok (.iconst 1, 1) := ky_dc db_X9_down_1 12 rfl
theorem dc_X9_down_26 : decode prog_10_method_30_code 26 = .ok (.invokevirtual 130, 3) := ky_dc db_X9_down_1 13 rfl
theorem dc_X9_down_29 : decode prog_10_method_30_code 29 = .ok (.invokevirtual 63, 3) := ky_dc db_X9_down_1 14 rfl
theorem dc_X9_down_32 : decode prog_10_method_30_code 32 = .ok (.ireturn, 1) := ky_dc db_X9_down_1 15 rfl
theorem dc_X9_down_13 : decode prog_10_method_30_code 13 = .ok (.iconst 0, 1) := ky_dc db_X9_down_1 16 rfl
theorem dc_X9_down_14 : decode prog_10_method_30_code 14 = .ok (.goto 18, 3) := ky_dc db_X9_down_1 17 rfl
theorem dc_X9_side_0 : decode prog_10_method_34_code 0 = .ok (.aload_n 0, 1) := ky_dc db_X9_down_1 18 rfl
theorem dc_X9_side_1 : decode prog_10_method_34_code 1 = .ok (.aload_n 0, 1) := ky_dc db_X9_down_1 19 rfl
theorem dc_X9_side_2 : decode prog_10_method_34_code 2 = .ok (.iload_n 1, 1) := ky_dc db_X9_down_1 20 rfl
theorem dc_X9_side_3 : decode prog_10_method_34_code 3 = .ok (.iload_n 2, 1) := ky_dc db_X9_down_1 21 rfl
theorem dc_X9_side_4 : decode prog_10_method_34_code 4 = .ok (.invokevirtual 104, 3) := ky_dc db_X9_down_1 22 rfl
theorem dc_X9_side_7 : decode prog_10_method_34_code 7 = .ok (.ifCond .ne 10, 3) := ky_dc db_X9_down_1 23 rfl
theorem dc_X9_side_17 : decode prog_10_method_34_code 17 = .ok (.iconst 1, 1) := ky_dc db_X9_down_1 24 rfl
theorem dc_X9_side_18 : decode prog_10_method_34_code 18 = .ok (.goto 4, 3) := ky_dc db_X9_down_1 25 rfl
theorem dc_X9_side_22 : decode prog_10_method_34_code 22 = .ok (.invokevirtual 55, 3) := ky_dc db_X9_down_1 26 rfl
theorem dc_X9_side_25 : decode prog_10_method_34_code 25 = .ok (.ifCond .eq 7, 3) := ky_dc db_X9_down_1 27 rfl
theorem dc_X9_side_28 : decode prog_10_method_34_code 28 = .ok (.iconst 0, 1) := ky_dc db_X9_down_1 28 rfl
theorem dc_X9_side_29 : decode prog_10_method_34_code 29 = .ok (.goto 33, 3) := ky_dc db_X9_down_1 29 rfl
theorem dc_X9_side_62 : decode prog_10_method_34_code 62 = .ok (.ireturn, 1) := ky_dc db_X9_down_1 30 rfl
theorem dc_X9_side_10 : decode prog_10_method_34_code 10 = .ok (.iload_n 3, 1) := ky_dc db_X9_down_1 31 rfl
theorem dc_X9_side_11 : decode prog_10_method_34_code 11 = .ok (.invokestatic 51, 3) := ky_dc db_X9_down_1 32 rfl
theorem dc_X9_side_14 : decode prog_10_method_34_code 14 = .ok (.ifCond .eq 7, 3) := ky_dc db_X9_down_1 33 rfl
theorem dc_X9_side_21 : decode prog_10_method_34_code 21 = .ok (.iconst 0, 1) := ky_dc db_X9_down_1 34 rfl
theorem dc_X9_side_32 : decode prog_10_method_34_code 32 = .ok (.aload_n 0, 1) := ky_dc db_X9_down_1 35 rfl
theorem dc_X9_side_33 : decode prog_10_method_34_code 33 = .ok (.iload_n 3, 1) := ky_dc db_X9_down_1 36 rfl
theorem dc_X9_side_34 : decode prog_10_method_34_code 34 = .ok (.new 23, 3) := ky_dc db_X9_down_1 37 rfl
theorem dc_X9_side_37 : decode prog_10_method_34_code 37 = .ok (.dup, 1) := ky_dc db_X9_down_1 38 rfl
theorem dc_X9_side_38 : decode prog_10_method_34_code 38 = .ok (.aload_n 0, 1) := ky_dc db_X9_down_1 39 rfl
theorem dc_X9_side_39 : decode prog_10_method_34_code 39 = .ok (.getfield 25, 3) := ky_dc db_X9_down_1 40 rfl
theorem dc_X9_side_42 : decode prog_10_method_34_code 42 = .ok (.iload_n 2, 1) := ky_dc db_X9_down_1 41 rfl
theorem dc_X9_side_43 : decode prog_10_method_34_code 43 = .ok (.aaload, 1) := ky_dc db_X9_down_1 42 rfl
theorem dc_X9_side_44 : decode prog_10_method_34_code 44 = .ok (.getfield 144, 3) := ky_dc db_X9_down_1 43 rfl
theorem dc_X9_side_47 : decode prog_10_method_34_code 47 = .ok (.aload_n 0, 1) := ky_dc db_X9_down_1 44 rfl
theorem dc_X9_side_48 : decode prog_10_method_34_code 48 = .ok (.getfield 25, 3) := ky_dc db_X9_down_1 45 rfl
theorem dc_X9_side_51 : decode prog_10_method_34_code 51 = .ok (.iload_n 1, 1) := ky_dc db_X9_down_1 46 rfl
theorem dc_X9_side_52 : decode prog_10_method_34_code 52 = .ok (.aaload, 1) := ky_dc db_X9_down_1 47 rfl
theorem dc_X9_side_53 : decode prog_10_method_34_code 53 = .ok (.getfield 116, 3) := ky_dc db_X9_down_1 48 rfl
theorem dc_X9_side_56 : decode prog_10_method_34_code 56 = .ok (.invokespecial 29, 3) := ky_dc db_X9_down_1 49 rfl
theorem dc_X9_side_59 : decode prog_10_method_34_code 59 = .ok (.invokevirtual 63, 3) := ky_dc db_X9_down_1 50 rfl
theorem dc_X9_kind_0 : decode prog_10_method_39_code 0 = .ok (.aload_n 0, 1) := ky_dc db_X9_down_1 51 rfl
theorem dc_X9_kind_1 : decode prog_10_method_39_code 1 = .ok (.iload_n 1, 1) := ky_dc db_X9_down_1 52 rfl
theorem dc_X9_kind_2 : decode prog_10_method_39_code 2 = .ok (.invokestatic 51, 3) := ky_dc db_X9_down_1 53 rfl
theorem dc_X9_kind_5 : decode prog_10_method_39_code 5 = .ok (.invokevirtual 55, 3) := ky_dc db_X9_down_1 54 rfl
theorem dc_X9_kind_8 : decode prog_10_method_39_code 8 = .ok (.ifCond .eq 7, 3) := ky_dc db_X9_down_1 55 rfl
theorem dc_X9_kind_15 : decode prog_10_method_39_code 15 = .ok (.aload_n 0, 1) := ky_dc db_X9_down_1 56 rfl
theorem dc_X9_kind_16 : decode prog_10_method_39_code 16 = .ok (.getfield 25, 3) := ky_dc db_X9_down_1 57 rfl
theorem dc_X9_kind_19 : decode prog_10_method_39_code 19 = .ok (.iload_n 1, 1) := ky_dc db_X9_down_1 58 rfl
theorem dc_X9_kind_20 : decode prog_10_method_39_code 20 = .ok (.aaload, 1) := ky_dc db_X9_down_1 59 rfl
def dl_X9_kind_21 : List (ByteArray × Nat × Jvm.ClassFile.Instr × Nat) := [(prog_10_method_39_code, 21, .invokevirtual 47, 3), (prog_10_method_39_code, 24, .ireturn, 1), (prog_10_method_39_code, 11, .iconst 0, 1), (prog_10_method_39_code, 12, .goto 12, 3), (prog_10_method_43_code, 0, .aload_n 0, 1), (prog_10_method_43_code, 1, .iload_n 1, 1), (prog_10_method_43_code, 2, .invokestatic 51, 3), (prog_10_method_43_code, 5, .invokevirtual 55, 3), (prog_10_method_43_code, 8, .ifCond .eq 7, 3), (prog_10_method_43_code, 15, .aload_n 0, 1), (prog_10_method_43_code, 16, .getfield 25, 3), (prog_10_method_43_code, 19, .iload_n 1, 1), (prog_10_method_43_code, 20, .aaload, 1), (prog_10_method_43_code, 21, .invokevirtual 137, 3), (prog_10_method_43_code, 24, .ireturn, 1), (prog_10_method_43_code, 11, .iconst 0, 1), (prog_10_method_43_code, 12, .goto 12, 3), (prog_10_method_51_code, 0, .aload_n 0, 1), (prog_10_method_51_code, 1, .iload_n 1, 1), (prog_10_method_51_code, 2, .invokestatic 51, 3), (prog_10_method_51_code, 5, .invokevirtual 55, 3), (prog_10_method_51_code, 8, .ifCond .eq 7, 3), (prog_10_method_51_code, 15, .aload_n 0, 1), (prog_10_method_51_code, 16, .getfield 25, 3), (prog_10_method_51_code, 19, .iload_n 1, 1), (prog_10_method_51_code, 20, .aaload, 1), (prog_10_method_51_code, 21, .invokevirtual 217, 3), (prog_10_method_51_code, 24, .invokestatic 220, 3), (prog_10_method_51_code, 27, .ireturn, 1), (prog_10_method_51_code, 11, .iconst 0, 1), (prog_10_method_51_code, 12, .goto 15, 3), (prog_10_method_52_code, 0, .aload_n 0, 1), (prog_10_method_52_code, 1, .iload_n 1, 1), (prog_10_method_52_code, 2, .invokestatic 51, 3), (prog_10_method_52_code, 5, .invokevirtual 55, 3), (prog_10_method_52_code, 8, .ifCond .ne 19, 3), (prog_10_method_52_code, 27, .iconst 0, 1), (prog_10_method_52_code, 28, .ireturn, 1), (prog_10_method_52_code, 11, .aload_n 0, 1), (prog_10_method_52_code, 12, .getfield 25, 3), (prog_10_method_52_code, 15, .iload_n 1, 1), (prog_10_method_52_code, 16, .aaload, 1), (prog_10_method_52_code, 17, .invokevirtual 224, 3), (prog_10_method_52_code, 20, .ifCond .eq 7, 3), (prog_10_method_52_code, 23, .iconst 1, 1), (prog_10_method_52_code, 24, .goto 4, 3), (prog_10_method_55_code, 0, .aload_n 0, 1), (prog_10_method_55_code, 1, .aload_n 0, 1), (prog_10_method_55_code, 2, .iload_n 1, 1), (prog_10_method_55_code, 3, .iload_n 2, 1), (prog_10_method_55_code, 4, .invokevirtual 104, 3), (prog_10_method_55_code, 7, .invokevirtual 55, 3), (prog_10_method_55_code, 10, .ifCond .ne 29, 3), (prog_10_method_55_code, 39, .iconst 0, 1), (prog_10_method_55_code, 40, .ireturn, 1), (prog_10_method_55_code, 13, .aload_n 0, 1), (prog_10_method_55_code, 14, .getfield 25, 3), (prog_10_method_55_code, 17, .iload_n 1, 1), (prog_10_method_55_code, 18, .aaload, 1), (prog_10_method_55_code, 19, .invokevirtual 217, 3)]
theorem db_X9_kind_21 : dl_X9_kind_21.all (fun x => decide (decode x.1 x.2.1 = .ok x.2.2)) = true := by decide +kernel
theorem dc_X9_kind_21 : decode prog_10_method_39_code 21 = .ok (.invokevirtual 47, 3) := ky_dc db_X9_kind_21 0 rfl
theorem dc_X9_kind_24 : decode prog_10_method_39_code 24 = .ok (.ireturn, 1) := ky_dc db_X9_kind_21 1 rfl
theorem dc_X9_kind_11 : decode prog_10_method_39_code 11 = .ok (.iconst 0, 1) := ky_dc db_X9_kind_21 2 rfl
theorem dc_X9_kind_12 : decode prog_10_method_39_code 12 = .ok (.goto 12, 3) := ky_dc db_X9_kind_21 3 rfl
theorem dc_X9_exponent_0 : decode prog_10_method_43_code 0 = .ok (.aload_n 0, 1) := ky_dc db_X9_kind_21 4 rfl
theorem dc_X9_exponent_1 : decode prog_10_method_43_code 1 = .ok (.iload_n 1, 1) := ky_dc db_X9_kind_21 5 rfl
theorem dc_X9_exponent_2 : decode prog_10_method_43_code 2 = .ok (.invokestatic 51, 3) := ky_dc db_X9_kind_21 6 rfl
theorem dc_X9_exponent_5 : decode prog_10_method_43_code 5 = .ok (.invokevirtual 55, 3) := ky_dc db_X9_kind_21 7 rfl
theorem dc_X9_exponent_8 : decode prog_10_method_43_code 8 = .ok (.ifCond .eq 7, 3) := ky_dc db_X9_kind_21 8 rfl
theorem dc_X9_exponent_15 : decode prog_10_method_43_code 15 = .ok (.aload_n 0, 1) := ky_dc db_X9_kind_21 9 rfl
theorem dc_X9_exponent_16 : decode prog_10_method_43_code 16 = .ok (.getfield 25, 3) := ky_dc db_X9_kind_21 10 rfl
theorem dc_X9_exponent_19 : decode prog_10_method_43_code 19 = .ok (.iload_n 1, 1) := ky_dc db_X9_kind_21 11 rfl
theorem dc_X9_exponent_20 : decode prog_10_method_43_code 20 = .ok (.aaload, 1) := ky_dc db_X9_kind_21 12 rfl
theorem dc_X9_exponent_21 : decode prog_10_method_43_code 21 = .ok (.invokevirtual 137, 3) := ky_dc db_X9_kind_21 13 rfl
theorem dc_X9_exponent_24 : decode prog_10_method_43_code 24 = .ok (.ireturn, 1) := ky_dc db_X9_kind_21 14 rfl
theorem dc_X9_exponent_11 : decode prog_10_method_43_code 11 = .ok (.iconst 0, 1) := ky_dc db_X9_kind_21 15 rfl
theorem dc_X9_exponent_12 : decode prog_10_method_43_code 12 = .ok (.goto 12, 3) := ky_dc db_X9_kind_21 16 rfl
theorem dc_X9_signed_0 : decode prog_10_method_51_code 0 = .ok (.aload_n 0, 1) := ky_dc db_X9_kind_21 17 rfl
theorem dc_X9_signed_1 : decode prog_10_method_51_code 1 = .ok (.iload_n 1, 1) := ky_dc db_X9_kind_21 18 rfl
theorem dc_X9_signed_2 : decode prog_10_method_51_code 2 = .ok (.invokestatic 51, 3) := ky_dc db_X9_kind_21 19 rfl
theorem dc_X9_signed_5 : decode prog_10_method_51_code 5 = .ok (.invokevirtual 55, 3) := ky_dc db_X9_kind_21 20 rfl
theorem dc_X9_signed_8 : decode prog_10_method_51_code 8 = .ok (.ifCond .eq 7, 3) := ky_dc db_X9_kind_21 21 rfl
theorem dc_X9_signed_15 : decode prog_10_method_51_code 15 = .ok (.aload_n 0, 1) := ky_dc db_X9_kind_21 22 rfl
theorem dc_X9_signed_16 : decode prog_10_method_51_code 16 = .ok (.getfield 25, 3) := ky_dc db_X9_kind_21 23 rfl
theorem dc_X9_signed_19 : decode prog_10_method_51_code 19 = .ok (.iload_n 1, 1) := ky_dc db_X9_kind_21 24 rfl
theorem dc_X9_signed_20 : decode prog_10_method_51_code 20 = .ok (.aaload, 1) := ky_dc db_X9_kind_21 25 rfl
theorem dc_X9_signed_21 : decode prog_10_method_51_code 21 = .ok (.invokevirtual 217, 3) := ky_dc db_X9_kind_21 26 rfl
theorem dc_X9_signed_24 : decode prog_10_method_51_code 24 = .ok (.invokestatic 220, 3) := ky_dc db_X9_kind_21 27 rfl
theorem dc_X9_signed_27 : decode prog_10_method_51_code 27 = .ok (.ireturn, 1) := ky_dc db_X9_kind_21 28 rfl
theorem dc_X9_signed_11 : decode prog_10_method_51_code 11 = .ok (.iconst 0, 1) := ky_dc db_X9_kind_21 29 rfl
theorem dc_X9_signed_12 : decode prog_10_method_51_code 12 = .ok (.goto 15, 3) := ky_dc db_X9_kind_21 30 rfl
theorem dc_X9_isWhole_0 : decode prog_10_method_52_code 0 = .ok (.aload_n 0, 1) := ky_dc db_X9_kind_21 31 rfl
theorem dc_X9_isWhole_1 : decode prog_10_method_52_code 1 = .ok (.iload_n 1, 1) := ky_dc db_X9_kind_21 32 rfl
theorem dc_X9_isWhole_2 : decode prog_10_method_52_code 2 = .ok (.invokestatic 51, 3) := ky_dc db_X9_kind_21 33 rfl
theorem dc_X9_isWhole_5 : decode prog_10_method_52_code 5 = .ok (.invokevirtual 55, 3) := ky_dc db_X9_kind_21 34 rfl
theorem dc_X9_isWhole_8 : decode prog_10_method_52_code 8 = .ok (.ifCond .ne 19, 3) := ky_dc db_X9_kind_21 35 rfl
theorem dc_X9_isWhole_27 : decode prog_10_method_52_code 27 = .ok (.iconst 0, 1) := ky_dc db_X9_kind_21 36 rfl
theorem dc_X9_isWhole_28 : decode prog_10_method_52_code 28 = .ok (.ireturn, 1) := ky_dc db_X9_kind_21 37 rfl
theorem dc_X9_isWhole_11 : decode prog_10_method_52_code 11 = .ok (.aload_n 0, 1) := ky_dc db_X9_kind_21 38 rfl
theorem dc_X9_isWhole_12 : decode prog_10_method_52_code 12 = .ok (.getfield 25, 3) := ky_dc db_X9_kind_21 39 rfl
theorem dc_X9_isWhole_15 : decode prog_10_method_52_code 15 = .ok (.iload_n 1, 1) := ky_dc db_X9_kind_21 40 rfl
theorem dc_X9_isWhole_16 : decode prog_10_method_52_code 16 = .ok (.aaload, 1) := ky_dc db_X9_kind_21 41 rfl
theorem dc_X9_isWhole_17 : decode prog_10_method_52_code 17 = .ok (.invokevirtual 224, 3) := ky_dc db_X9_kind_21 42 rfl
theorem dc_X9_isWhole_20 : decode prog_10_method_52_code 20 = .ok (.ifCond .eq 7, 3) := ky_dc db_X9_kind_21 43 rfl
theorem dc_X9_isWhole_23 : decode prog_10_method_52_code 23 = .ok (.iconst 1, 1) := ky_dc db_X9_kind_21 44 rfl
theorem dc_X9_isWhole_24 : decode prog_10_method_52_code 24 = .ok (.goto 4, 3) := ky_dc db_X9_kind_21 45 rfl
theorem dc_X9_areLike_0 : decode prog_10_method_55_code 0 = .ok (.aload_n 0, 1) := ky_dc db_X9_kind_21 46 rfl
theorem dc_X9_areLike_1 : decode prog_10_method_55_code 1 = .ok (.aload_n 0, 1) := ky_dc db_X9_kind_21 47 rfl
theorem dc_X9_areLike_2 : decode prog_10_method_55_code 2 = .ok (.iload_n 1, 1) := ky_dc db_X9_kind_21 48 rfl
theorem dc_X9_areLike_3 : decode prog_10_method_55_code 3 = .ok (.iload_n 2, 1) := ky_dc db_X9_kind_21 49 rfl
theorem dc_X9_areLike_4 : decode prog_10_method_55_code 4 = .ok (.invokevirtual 104, 3) := ky_dc db_X9_kind_21 50 rfl
theorem dc_X9_areLike_7 : decode prog_10_method_55_code 7 = .ok (.invokevirtual 55, 3) := ky_dc db_X9_kind_21 51 rfl
theorem dc_X9_areLike_10 : decode prog_10_method_55_code 10 = .ok (.ifCond .ne 29, 3) := ky_dc db_X9_kind_21 52 rfl
theorem dc_X9_areLike_39 : decode prog_10_method_55_code 39 = .ok (.iconst 0, 1) := ky_dc db_X9_kind_21 53 rfl
theorem dc_X9_areLike_40 : decode prog_10_method_55_code 40 = .ok (.ireturn, 1) := ky_dc db_X9_kind_21 54 rfl
theorem dc_X9_areLike_13 : decode prog_10_method_55_code 13 = .ok (.aload_n 0, 1) := ky_dc db_X9_kind_21 55 rfl
theorem dc_X9_areLike_14 : decode prog_10_method_55_code 14 = .ok (.getfield 25, 3) := ky_dc db_X9_kind_21 56 rfl
theorem dc_X9_areLike_17 : decode prog_10_method_55_code 17 = .ok (.iload_n 1, 1) := ky_dc db_X9_kind_21 57 rfl
theorem dc_X9_areLike_18 : decode prog_10_method_55_code 18 = .ok (.aaload, 1) := ky_dc db_X9_kind_21 58 rfl
theorem dc_X9_areLike_19 : decode prog_10_method_55_code 19 = .ok (.invokevirtual 217, 3) := ky_dc db_X9_kind_21 59 rfl
def dl_X9_areLike_22 : List (ByteArray × Nat × Jvm.ClassFile.Instr × Nat) := [(prog_10_method_55_code, 22, .aload_n 0, 1), (prog_10_method_55_code, 23, .getfield 25, 3), (prog_10_method_55_code, 26, .iload_n 2, 1), (prog_10_method_55_code, 27, .aaload, 1), (prog_10_method_55_code, 28, .invokevirtual 217, 3), (prog_10_method_55_code, 31, .lcmp, 1), (prog_10_method_55_code, 32, .ifCond .ne 7, 3), (prog_10_method_55_code, 35, .iconst 1, 1), (prog_10_method_55_code, 36, .goto 4, 3), (prog_10_method_56_code, 0, .aload_n 0, 1), (prog_10_method_56_code, 1, .aload_n 0, 1), (prog_10_method_56_code, 2, .iload_n 1, 1), (prog_10_method_56_code, 3, .iload_n 2, 1), (prog_10_method_56_code, 4, .invokevirtual 104, 3), (prog_10_method_56_code, 7, .invokevirtual 55, 3), (prog_10_method_56_code, 10, .ifCond .ne 29, 3), (prog_10_method_56_code, 39, .iconst 0, 1), (prog_10_method_56_code, 40, .ireturn, 1), (prog_10_method_56_code, 13, .aload_n 0, 1), (prog_10_method_56_code, 14, .getfield 25, 3), (prog_10_method_56_code, 17, .iload_n 1, 1), (prog_10_method_56_code, 18, .aaload, 1), (prog_10_method_56_code, 19, .invokevirtual 217, 3), (prog_10_method_56_code, 22, .aload_n 0, 1), (prog_10_method_56_code, 23, .getfield 25, 3), (prog_10_method_56_code, 26, .iload_n 2, 1), (prog_10_method_56_code, 27, .aaload, 1), (prog_10_method_56_code, 28, .invokevirtual 217, 3), (prog_10_method_56_code, 31, .lcmp, 1), (prog_10_method_56_code, 32, .ifCond .ge 7, 3), (prog_10_method_56_code, 35, .iconst 1, 1), (prog_10_method_56_code, 36, .goto 4, 3), (prog_10_method_57_code, 0, .aload_n 0, 1), (prog_10_method_57_code, 1, .aload_n 0, 1), (prog_10_method_57_code, 2, .iload_n 1, 1), (prog_10_method_57_code, 3, .iload_n 2, 1), (prog_10_method_57_code, 4, .invokevirtual 104, 3), (prog_10_method_57_code, 7, .invokevirtual 55, 3), (prog_10_method_57_code, 10, .ifCond .ne 25, 3), (prog_10_method_57_code, 35, .iconst 0, 1), (prog_10_method_57_code, 36, .ireturn, 1), (prog_10_method_57_code, 13, .aload_n 0, 1), (prog_10_method_57_code, 14, .getfield 25, 3), (prog_10_method_57_code, 17, .iload_n 1, 1), (prog_10_method_57_code, 18, .aaload, 1), (prog_10_method_57_code, 19, .aload_n 0, 1), (prog_10_method_57_code, 20, .getfield 25, 3), (prog_10_method_57_code, 23, .iload_n 2, 1), (prog_10_method_57_code, 24, .aaload, 1), (prog_10_method_57_code, 25, .invokevirtual 235, 3), (prog_10_method_57_code, 28, .ifCond .eq 7, 3), (prog_10_method_57_code, 31, .iconst 1, 1), (prog_10_method_57_code, 32, .goto 4, 3), (prog_10_method_58_code, 0, .aload_n 0, 1), (prog_10_method_58_code, 1, .aload_n 0, 1), (prog_10_method_58_code, 2, .iload_n 1, 1), (prog_10_method_58_code, 3, .iload_n 2, 1), (prog_10_method_58_code, 4, .invokevirtual 104, 3), (prog_10_method_58_code, 7, .invokevirtual 55, 3), (prog_10_method_58_code, 10, .ifCond .ne 28, 3)]
theorem db_X9_areLike_22 : dl_X9_areLike_22.all (fun x => decide (decode x.1 x.2.1 = .ok x.2.2)) = true := by decide +kernel
theorem dc_X9_areLike_22 : decode prog_10_method_55_code 22 = .ok (.aload_n 0, 1) := ky_dc db_X9_areLike_22 0 rfl
theorem dc_X9_areLike_23 : decode prog_10_method_55_code 23 = .ok (.getfield 25, 3) := ky_dc db_X9_areLike_22 1 rfl
theorem dc_X9_areLike_26 : decode prog_10_method_55_code 26 = .ok (.iload_n 2, 1) := ky_dc db_X9_areLike_22 2 rfl
theorem dc_X9_areLike_27 : decode prog_10_method_55_code 27 = .ok (.aaload, 1) := ky_dc db_X9_areLike_22 3 rfl
theorem dc_X9_areLike_28 : decode prog_10_method_55_code 28 = .ok (.invokevirtual 217, 3) := ky_dc db_X9_areLike_22 4 rfl
theorem dc_X9_areLike_31 : decode prog_10_method_55_code 31 = .ok (.lcmp, 1) := ky_dc db_X9_areLike_22 5 rfl
theorem dc_X9_areLike_32 : decode prog_10_method_55_code 32 = .ok (.ifCond .ne 7, 3) := ky_dc db_X9_areLike_22 6 rfl
theorem dc_X9_areLike_35 : decode prog_10_method_55_code 35 = .ok (.iconst 1, 1) := ky_dc db_X9_areLike_22 7 rfl
theorem dc_X9_areLike_36 : decode prog_10_method_55_code 36 = .ok (.goto 4, 3) := ky_dc db_X9_areLike_22 8 rfl
theorem dc_X9_isBelow_0 : decode prog_10_method_56_code 0 = .ok (.aload_n 0, 1) := ky_dc db_X9_areLike_22 9 rfl
theorem dc_X9_isBelow_1 : decode prog_10_method_56_code 1 = .ok (.aload_n 0, 1) := ky_dc db_X9_areLike_22 10 rfl
theorem dc_X9_isBelow_2 : decode prog_10_method_56_code 2 = .ok (.iload_n 1, 1) := ky_dc db_X9_areLike_22 11 rfl
theorem dc_X9_isBelow_3 : decode prog_10_method_56_code 3 = .ok (.iload_n 2, 1) := ky_dc db_X9_areLike_22 12 rfl
theorem dc_X9_isBelow_4 : decode prog_10_method_56_code 4 = .ok (.invokevirtual 104, 3) := ky_dc db_X9_areLike_22 13 rfl
theorem dc_X9_isBelow_7 : decode prog_10_method_56_code 7 = .ok (.invokevirtual 55, 3) := ky_dc db_X9_areLike_22 14 rfl
theorem dc_X9_isBelow_10 : decode prog_10_method_56_code 10 = .ok (.ifCond .ne 29, 3) := ky_dc db_X9_areLike_22 15 rfl
theorem dc_X9_isBelow_39 : decode prog_10_method_56_code 39 = .ok (.iconst 0, 1) := ky_dc db_X9_areLike_22 16 rfl
theorem dc_X9_isBelow_40 : decode prog_10_method_56_code 40 = .ok (.ireturn, 1) := ky_dc db_X9_areLike_22 17 rfl
theorem dc_X9_isBelow_13 : decode prog_10_method_56_code 13 = .ok (.aload_n 0, 1) := ky_dc db_X9_areLike_22 18 rfl
theorem dc_X9_isBelow_14 : decode prog_10_method_56_code 14 = .ok (.getfield 25, 3) := ky_dc db_X9_areLike_22 19 rfl
theorem dc_X9_isBelow_17 : decode prog_10_method_56_code 17 = .ok (.iload_n 1, 1) := ky_dc db_X9_areLike_22 20 rfl
theorem dc_X9_isBelow_18 : decode prog_10_method_56_code 18 = .ok (.aaload, 1) := ky_dc db_X9_areLike_22 21 rfl
theorem dc_X9_isBelow_19 : decode prog_10_method_56_code 19 = .ok (.invokevirtual 217, 3) := ky_dc db_X9_areLike_22 22 rfl
theorem dc_X9_isBelow_22 : decode prog_10_method_56_code 22 = .ok (.aload_n 0, 1) := ky_dc db_X9_areLike_22 23 rfl
theorem dc_X9_isBelow_23 : decode prog_10_method_56_code 23 = .ok (.getfield 25, 3) := ky_dc db_X9_areLike_22 24 rfl
theorem dc_X9_isBelow_26 : decode prog_10_method_56_code 26 = .ok (.iload_n 2, 1) := ky_dc db_X9_areLike_22 25 rfl
theorem dc_X9_isBelow_27 : decode prog_10_method_56_code 27 = .ok (.aaload, 1) := ky_dc db_X9_areLike_22 26 rfl
theorem dc_X9_isBelow_28 : decode prog_10_method_56_code 28 = .ok (.invokevirtual 217, 3) := ky_dc db_X9_areLike_22 27 rfl
theorem dc_X9_isBelow_31 : decode prog_10_method_56_code 31 = .ok (.lcmp, 1) := ky_dc db_X9_areLike_22 28 rfl
theorem dc_X9_isBelow_32 : decode prog_10_method_56_code 32 = .ok (.ifCond .ge 7, 3) := ky_dc db_X9_areLike_22 29 rfl
theorem dc_X9_isBelow_35 : decode prog_10_method_56_code 35 = .ok (.iconst 1, 1) := ky_dc db_X9_areLike_22 30 rfl
theorem dc_X9_isBelow_36 : decode prog_10_method_56_code 36 = .ok (.goto 4, 3) := ky_dc db_X9_areLike_22 31 rfl
theorem dc_X9_areSame_0 : decode prog_10_method_57_code 0 = .ok (.aload_n 0, 1) := ky_dc db_X9_areLike_22 32 rfl
theorem dc_X9_areSame_1 : decode prog_10_method_57_code 1 = .ok (.aload_n 0, 1) := ky_dc db_X9_areLike_22 33 rfl
theorem dc_X9_areSame_2 : decode prog_10_method_57_code 2 = .ok (.iload_n 1, 1) := ky_dc db_X9_areLike_22 34 rfl
theorem dc_X9_areSame_3 : decode prog_10_method_57_code 3 = .ok (.iload_n 2, 1) := ky_dc db_X9_areLike_22 35 rfl
theorem dc_X9_areSame_4 : decode prog_10_method_57_code 4 = .ok (.invokevirtual 104, 3) := ky_dc db_X9_areLike_22 36 rfl
theorem dc_X9_areSame_7 : decode prog_10_method_57_code 7 = .ok (.invokevirtual 55, 3) := ky_dc db_X9_areLike_22 37 rfl
theorem dc_X9_areSame_10 : decode prog_10_method_57_code 10 = .ok (.ifCond .ne 25, 3) := ky_dc db_X9_areLike_22 38 rfl
theorem dc_X9_areSame_35 : decode prog_10_method_57_code 35 = .ok (.iconst 0, 1) := ky_dc db_X9_areLike_22 39 rfl
theorem dc_X9_areSame_36 : decode prog_10_method_57_code 36 = .ok (.ireturn, 1) := ky_dc db_X9_areLike_22 40 rfl
theorem dc_X9_areSame_13 : decode prog_10_method_57_code 13 = .ok (.aload_n 0, 1) := ky_dc db_X9_areLike_22 41 rfl
theorem dc_X9_areSame_14 : decode prog_10_method_57_code 14 = .ok (.getfield 25, 3) := ky_dc db_X9_areLike_22 42 rfl
theorem dc_X9_areSame_17 : decode prog_10_method_57_code 17 = .ok (.iload_n 1, 1) := ky_dc db_X9_areLike_22 43 rfl
theorem dc_X9_areSame_18 : decode prog_10_method_57_code 18 = .ok (.aaload, 1) := ky_dc db_X9_areLike_22 44 rfl
theorem dc_X9_areSame_19 : decode prog_10_method_57_code 19 = .ok (.aload_n 0, 1) := ky_dc db_X9_areLike_22 45 rfl
theorem dc_X9_areSame_20 : decode prog_10_method_57_code 20 = .ok (.getfield 25, 3) := ky_dc db_X9_areLike_22 46 rfl
theorem dc_X9_areSame_23 : decode prog_10_method_57_code 23 = .ok (.iload_n 2, 1) := ky_dc db_X9_areLike_22 47 rfl
theorem dc_X9_areSame_24 : decode prog_10_method_57_code 24 = .ok (.aaload, 1) := ky_dc db_X9_areLike_22 48 rfl
theorem dc_X9_areSame_25 : decode prog_10_method_57_code 25 = .ok (.invokevirtual 235, 3) := ky_dc db_X9_areLike_22 49 rfl
theorem dc_X9_areSame_28 : decode prog_10_method_57_code 28 = .ok (.ifCond .eq 7, 3) := ky_dc db_X9_areLike_22 50 rfl
theorem dc_X9_areSame_31 : decode prog_10_method_57_code 31 = .ok (.iconst 1, 1) := ky_dc db_X9_areLike_22 51 rfl
theorem dc_X9_areSame_32 : decode prog_10_method_57_code 32 = .ok (.goto 4, 3) := ky_dc db_X9_areLike_22 52 rfl
theorem dc_X9_isNext_0 : decode prog_10_method_58_code 0 = .ok (.aload_n 0, 1) := ky_dc db_X9_areLike_22 53 rfl
theorem dc_X9_isNext_1 : decode prog_10_method_58_code 1 = .ok (.aload_n 0, 1) := ky_dc db_X9_areLike_22 54 rfl
theorem dc_X9_isNext_2 : decode prog_10_method_58_code 2 = .ok (.iload_n 1, 1) := ky_dc db_X9_areLike_22 55 rfl
theorem dc_X9_isNext_3 : decode prog_10_method_58_code 3 = .ok (.iload_n 2, 1) := ky_dc db_X9_areLike_22 56 rfl
theorem dc_X9_isNext_4 : decode prog_10_method_58_code 4 = .ok (.invokevirtual 104, 3) := ky_dc db_X9_areLike_22 57 rfl
theorem dc_X9_isNext_7 : decode prog_10_method_58_code 7 = .ok (.invokevirtual 55, 3) := ky_dc db_X9_areLike_22 58 rfl
theorem dc_X9_isNext_10 : decode prog_10_method_58_code 10 = .ok (.ifCond .ne 28, 3) := ky_dc db_X9_areLike_22 59 rfl
def dl_X9_isNext_38 : List (ByteArray × Nat × Jvm.ClassFile.Instr × Nat) := [(prog_10_method_58_code, 38, .iconst 0, 1), (prog_10_method_58_code, 39, .ireturn, 1), (prog_10_method_58_code, 13, .aload_n 0, 1), (prog_10_method_58_code, 14, .getfield 25, 3), (prog_10_method_58_code, 17, .iload_n 1, 1), (prog_10_method_58_code, 18, .aaload, 1), (prog_10_method_58_code, 19, .invokevirtual 127, 3), (prog_10_method_58_code, 22, .aload_n 0, 1), (prog_10_method_58_code, 23, .getfield 25, 3), (prog_10_method_58_code, 26, .iload_n 2, 1), (prog_10_method_58_code, 27, .aaload, 1), (prog_10_method_58_code, 28, .invokevirtual 235, 3), (prog_10_method_58_code, 31, .ifCond .eq 7, 3), (prog_10_method_58_code, 34, .iconst 1, 1), (prog_10_method_58_code, 35, .goto 4, 3)]
theorem db_X9_isNext_38 : dl_X9_isNext_38.all (fun x => decide (decode x.1 x.2.1 = .ok x.2.2)) = true := by decide +kernel
theorem dc_X9_isNext_38 : decode prog_10_method_58_code 38 = .ok (.iconst 0, 1) := ky_dc db_X9_isNext_38 0 rfl
theorem dc_X9_isNext_39 : decode prog_10_method_58_code 39 = .ok (.ireturn, 1) := ky_dc db_X9_isNext_38 1 rfl
theorem dc_X9_isNext_13 : decode prog_10_method_58_code 13 = .ok (.aload_n 0, 1) := ky_dc db_X9_isNext_38 2 rfl
theorem dc_X9_isNext_14 : decode prog_10_method_58_code 14 = .ok (.getfield 25, 3) := ky_dc db_X9_isNext_38 3 rfl
theorem dc_X9_isNext_17 : decode prog_10_method_58_code 17 = .ok (.iload_n 1, 1) := ky_dc db_X9_isNext_38 4 rfl
theorem dc_X9_isNext_18 : decode prog_10_method_58_code 18 = .ok (.aaload, 1) := ky_dc db_X9_isNext_38 5 rfl
theorem dc_X9_isNext_19 : decode prog_10_method_58_code 19 = .ok (.invokevirtual 127, 3) := ky_dc db_X9_isNext_38 6 rfl
theorem dc_X9_isNext_22 : decode prog_10_method_58_code 22 = .ok (.aload_n 0, 1) := ky_dc db_X9_isNext_38 7 rfl
theorem dc_X9_isNext_23 : decode prog_10_method_58_code 23 = .ok (.getfield 25, 3) := ky_dc db_X9_isNext_38 8 rfl
theorem dc_X9_isNext_26 : decode prog_10_method_58_code 26 = .ok (.iload_n 2, 1) := ky_dc db_X9_isNext_38 9 rfl
theorem dc_X9_isNext_27 : decode prog_10_method_58_code 27 = .ok (.aaload, 1) := ky_dc db_X9_isNext_38 10 rfl
theorem dc_X9_isNext_28 : decode prog_10_method_58_code 28 = .ok (.invokevirtual 235, 3) := ky_dc db_X9_isNext_38 11 rfl
theorem dc_X9_isNext_31 : decode prog_10_method_58_code 31 = .ok (.ifCond .eq 7, 3) := ky_dc db_X9_isNext_38 12 rfl
theorem dc_X9_isNext_34 : decode prog_10_method_58_code 34 = .ok (.iconst 1, 1) := ky_dc db_X9_isNext_38 13 rfl
theorem dc_X9_isNext_35 : decode prog_10_method_58_code 35 = .ok (.goto 4, 3) := ky_dc db_X9_isNext_38 14 rfl
