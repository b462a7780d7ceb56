abbrev my_X9_sampled : MethodName := ⟨"ExactdoublesModel", "sampled", "(I)J"⟩
abbrev my_X9_last : MethodName := ⟨"ExactdoublesModel", "last", "(IIZ)LExactdoublesModel$Its;"⟩
abbrev my_X9_quarters : MethodName := ⟨"ExactdoublesModel", "quarters", "(II)I"⟩
abbrev my_X9_power : MethodName := ⟨"ExactdoublesModel", "power", "(IIZ)I"⟩
abbrev my_X9_take : MethodName := ⟨"ExactdoublesModel", "take", "(III)I"⟩
abbrev my_X9_floor : MethodName := ⟨"ExactdoublesModel", "floor", "(II)I"⟩
abbrev my_X9_ceil : MethodName := ⟨"ExactdoublesModel", "ceil", "(II)I"⟩
abbrev my_X9_rint : MethodName := ⟨"ExactdoublesModel", "rint", "(II)I"⟩
abbrev my_X9_sign : MethodName := ⟨"ExactdoublesModel", "sign", "(II)I"⟩
abbrev my_X9_step : MethodName := ⟨"ExactdoublesModel", "step", "(II)I"⟩
abbrev my_X9_unit : MethodName := ⟨"ExactdoublesModel", "unit", "(II)I"⟩
abbrev my_X9_times : MethodName := ⟨"ExactdoublesModel", "times", "(III)I"⟩
abbrev my_X9_max : MethodName := ⟨"ExactdoublesModel", "max", "(III)I"⟩
abbrev my_X9_min : MethodName := ⟨"ExactdoublesModel", "min", "(III)I"⟩
abbrev my_X9_digit : MethodName := ⟨"ExactdoublesModel", "digit", "(II)I"⟩
abbrev my_X9_digits : MethodName := ⟨"ExactdoublesModel", "digits", "(II)I"⟩
abbrev my_X9_part : MethodName := ⟨"ExactdoublesModel", "part", "(IZ)I"⟩
abbrev my_X9_round : MethodName := ⟨"ExactdoublesModel", "round", "(IZ)I"⟩
abbrev my_X9_shortNow : MethodName := ⟨"ExactdoublesModel", "shortNow", "(I)I"⟩
abbrev my_X9_shortened : MethodName := ⟨"ExactdoublesModel", "shortened", "(I)I"⟩
abbrev my_X9_comparedNow : MethodName := ⟨"ExactdoublesModel", "comparedNow", "(II)I"⟩
abbrev my_X9_compare : MethodName := ⟨"ExactdoublesModel", "compare", "(II)I"⟩
abbrev my_X9_apartNow : MethodName := ⟨"ExactdoublesModel", "apartNow", "(II)I"⟩
abbrev my_X9_apart : MethodName := ⟨"ExactdoublesModel", "apart", "(II)I"⟩
abbrev my_X9_isBack : MethodName := ⟨"ExactdoublesModel", "isBack", "(II)Z"⟩
abbrev my_X9_knock : MethodName := ⟨"ExactdoublesModel", "knock", "()I"⟩
abbrev my_X9_isSound : MethodName := ⟨"ExactdoublesModel", "isSound", "()Z"⟩
abbrev my_X9_sample : MethodName := ⟨"ExactdoublesModel", "sample", "(IIZ)I"⟩
theorem kw_6_135 : (Jvm.Cond.constantLong "ExactdoublesModel" (82 : Nat) (4503599627370495 : Int64)) ∈ ky_B := ky_mem (kc_6 _ (List.mem_of_getElem? (i := 135) rfl)) (by decide +kernel)
theorem kw_6_136 : (Jvm.Cond.constantLong "ExactdoublesModel" (84 : Nat) (9218868437227405311 : Int64)) ∈ ky_B := ky_mem (kc_6 _ (List.mem_of_getElem? (i := 136) rfl)) (by decide +kernel)
theorem kw_6_137 : (Jvm.Cond.constantLong "ExactdoublesModel" (86 : Nat) (9007199254740991 : Int64)) ∈ ky_B := ky_mem (kc_6 _ (List.mem_of_getElem? (i := 137) rfl)) (by decide +kernel)
theorem kw_6_138 : (Jvm.Cond.constantLong "ExactdoublesModel" (88 : Nat) (-53 : Int64)) ∈ ky_B := ky_mem (kc_6 _ (List.mem_of_getElem? (i := 138) rfl)) (by decide +kernel)
theorem kw_6_109 : (Jvm.Cond.methodLink "ExactdoublesModel" (69 : Nat) ({ cls := "ExactdoublesModel", name := "nearest", desc := "(JJ)J" } : Jvm.MethodName)) ∈ ky_B := ky_mem (kc_6 _ (List.mem_of_getElem? (i := 109) rfl)) (by decide +kernel)
theorem kw_6_139 : (Jvm.Cond.constantLong "ExactdoublesModel" (90 : Nat) (-54 : Int64)) ∈ ky_B := ky_mem (kc_6 _ (List.mem_of_getElem? (i := 139) rfl)) (by decide +kernel)
theorem kw_6_140 : (Jvm.Cond.constantLong "ExactdoublesModel" (92 : Nat) (-1 : Int64)) ∈ ky_B := ky_mem (kc_6 _ (List.mem_of_getElem? (i := 140) rfl)) (by decide +kernel)
theorem kw_6_141 : (Jvm.Cond.constantLong "ExactdoublesModel" (94 : Nat) (10 : Int64)) ∈ ky_B := ky_mem (kc_6 _ (List.mem_of_getElem? (i := 141) rfl)) (by decide +kernel)
theorem kw_6_142 : (Jvm.Cond.constantLong "ExactdoublesModel" (96 : Nat) (5 : Int64)) ∈ ky_B := ky_mem (kc_6 _ (List.mem_of_getElem? (i := 142) rfl)) (by decide +kernel)
theorem kw_6_143 : (Jvm.Cond.constantLong "ExactdoublesModel" (98 : Nat) (4503599627370497 : Int64)) ∈ ky_B := ky_mem (kc_6 _ (List.mem_of_getElem? (i := 143) rfl)) (by decide +kernel)
theorem kw_7_15 : (Jvm.Cond.methodLink "ExactdoublesModel" (147 : Nat) ({ cls := "ExactdoublesModel$Its", name := "place", desc := "()J" } : Jvm.MethodName)) ∈ ky_B := ky_mem (kc_7 _ (List.mem_of_getElem? (i := 15) rfl)) (by decide +kernel)
theorem kw_7_16 : (Jvm.Cond.instanceMethod ({ cls := "ExactdoublesModel$Its", name := "place", desc := "()J" } : Jvm.MethodName)) ∈ ky_B := ky_mem (kc_7 _ (List.mem_of_getElem? (i := 16) rfl)) (by decide +kernel)
theorem kw_7_17 : (Jvm.Cond.selects "ExactdoublesModel$Its" ({ cls := "ExactdoublesModel$Its", name := "place", desc := "()J" } : Jvm.MethodName) ({ cls := "ExactdoublesModel$Its", name := "place", desc := "()J" } : Jvm.MethodName)) ∈ ky_B := ky_mem (kc_7 _ (List.mem_of_getElem? (i := 17) rfl)) (by decide +kernel)
theorem kw_7_18 : (Jvm.Cond.code ({ cls := "ExactdoublesModel$Its", name := "place", desc := "()J" } : Jvm.MethodName) prog_11_method_8_code (1 : Nat) (Option.some Jvm.ClassFile.FieldType.long)) ∈ ky_B := ky_mem (kc_7 _ (List.mem_of_getElem? (i := 18) rfl)) (by decide +kernel)
theorem kw_6_108 : (Jvm.Cond.constantLong "ExactdoublesModel" (67 : Nat) (-2 : Int64)) ∈ ky_B := ky_mem (kc_6 _ (List.mem_of_getElem? (i := 108) rfl)) (by decide +kernel)
theorem kw_6_164 : (Jvm.Cond.methodLink "ExactdoublesModel" (108 : Nat) ({ cls := "ExactdoublesModel$Its", name := "taken", desc := "(I)LExactdoublesModel$Its;" } : Jvm.MethodName)) ∈ ky_B := ky_mem (kc_6 _ (List.mem_of_getElem? (i := 164) rfl)) (by decide +kernel)
theorem kw_6_165 : (Jvm.Cond.instanceMethod ({ cls := "ExactdoublesModel$Its", name := "taken", desc := "(I)LExactdoublesModel$Its;" } : Jvm.MethodName)) ∈ ky_B := ky_mem (kc_6 _ (List.mem_of_getElem? (i := 165) rfl)) (by decide +kernel)
theorem kw_6_166 : (Jvm.Cond.selects "ExactdoublesModel$Its" ({ cls := "ExactdoublesModel$Its", name := "taken", desc := "(I)LExactdoublesModel$Its;" } : Jvm.MethodName) ({ cls := "ExactdoublesModel$Its", name := "taken", desc := "(I)LExactdoublesModel$Its;" } : Jvm.MethodName)) ∈ ky_B := ky_mem (kc_6 _ (List.mem_of_getElem? (i := 166) rfl)) (by decide +kernel)
theorem kw_6_167 : (Jvm.Cond.code ({ cls := "ExactdoublesModel$Its", name := "taken", desc := "(I)LExactdoublesModel$Its;" } : Jvm.MethodName) prog_11_method_16_code (4 : Nat) (Option.some (Jvm.ClassFile.FieldType.object "ExactdoublesModel$Its"))) ∈ ky_B := ky_mem (kc_6 _ (List.mem_of_getElem? (i := 167) rfl)) (by decide +kernel)
theorem kw_6_160 : (Jvm.Cond.methodLink "ExactdoublesModel" (112 : Nat) ({ cls := "ExactdoublesModel", name := "take", desc := "(III)I" } : Jvm.MethodName)) ∈ ky_B := ky_mem (kc_6 _ (List.mem_of_getElem? (i := 160) rfl)) (by decide +kernel)
theorem kw_6_162 : (Jvm.Cond.instanceMethod ({ cls := "ExactdoublesModel", name := "take", desc := "(III)I" } : Jvm.MethodName)) ∈ ky_B := ky_mem (kc_6 _ (List.mem_of_getElem? (i := 162) rfl)) (by decide +kernel)
theorem kp_X9_take : (Jvm.Cond.selects "ExactdoublesModel" ({ cls := "ExactdoublesModel", name := "take", desc := "(III)I" } : Jvm.MethodName) ({ cls := "ExactdoublesModel", name := "take", desc := "(III)I" } : Jvm.MethodName)) ∈ ky_B := ky_mem (List.mem_append_left _ (List.mem_of_getElem? (i := 20) (by decide +kernel))) (by decide +kernel)
theorem kw_6_163 : (Jvm.Cond.code ({ cls := "ExactdoublesModel", name := "take", desc := "(III)I" } : Jvm.MethodName) prog_10_method_22_code (4 : Nat) (Option.some Jvm.ClassFile.FieldType.int)) ∈ ky_B := ky_mem (kc_6 _ (List.mem_of_getElem? (i := 163) rfl)) (by decide +kernel)
theorem kw_6_196 : (Jvm.Cond.methodLink "ExactdoublesModel" (124 : Nat) ({ cls := "ExactdoublesModel$Its", name := "sign", desc := "()LExactdoublesModel$Its;" } : Jvm.MethodName)) ∈ ky_B := ky_mem (kc_6 _ (List.mem_of_getElem? (i := 196) rfl)) (by decide +kernel)
theorem kw_6_197 : (Jvm.Cond.instanceMethod ({ cls := "ExactdoublesModel$Its", name := "sign", desc := "()LExactdoublesModel$Its;" } : Jvm.MethodName)) ∈ ky_B := ky_mem (kc_6 _ (List.mem_of_getElem? (i := 197) rfl)) (by decide +kernel)
theorem kw_6_198 : (Jvm.Cond.selects "ExactdoublesModel$Its" ({ cls := "ExactdoublesModel$Its", name := "sign", desc := "()LExactdoublesModel$Its;" } : Jvm.MethodName) ({ cls := "ExactdoublesModel$Its", name := "sign", desc := "()LExactdoublesModel$Its;" } : Jvm.MethodName)) ∈ ky_B := ky_mem (kc_6 _ (List.mem_of_getElem? (i := 198) rfl)) (by decide +kernel)
theorem kw_6_199 : (Jvm.Cond.code ({ cls := "ExactdoublesModel$Its", name := "sign", desc := "()LExactdoublesModel$Its;" } : Jvm.MethodName) prog_11_method_22_code (1 : Nat) (Option.some (Jvm.ClassFile.FieldType.object "ExactdoublesModel$Its"))) ∈ ky_B := ky_mem (kc_6 _ (List.mem_of_getElem? (i := 199) rfl)) (by decide +kernel)
theorem kw_6_222 : (Jvm.Cond.methodLink "ExactdoublesModel" (134 : Nat) ({ cls := "ExactdoublesModel$Its", name := "step", desc := "()LExactdoublesModel$Its;" } : Jvm.MethodName)) ∈ ky_B := ky_mem (kc_6 _ (List.mem_of_getElem? (i := 222) rfl)) (by decide +kernel)
theorem kw_6_223 : (Jvm.Cond.instanceMethod ({ cls := "ExactdoublesModel$Its", name := "step", desc := "()LExactdoublesModel$Its;" } : Jvm.MethodName)) ∈ ky_B := ky_mem (kc_6 _ (List.mem_of_getElem? (i := 223) rfl)) (by decide +kernel)
theorem kw_6_224 : (Jvm.Cond.selects "ExactdoublesModel$Its" ({ cls := "ExactdoublesModel$Its", name := "step", desc := "()LExactdoublesModel$Its;" } : Jvm.MethodName) ({ cls := "ExactdoublesModel$Its", name := "step", desc := "()LExactdoublesModel$Its;" } : Jvm.MethodName)) ∈ ky_B := ky_mem (kc_6 _ (List.mem_of_getElem? (i := 224) rfl)) (by decide +kernel)
theorem kw_6_225 : (Jvm.Cond.code ({ cls := "ExactdoublesModel$Its", name := "step", desc := "()LExactdoublesModel$Its;" } : Jvm.MethodName) prog_11_method_19_code (1 : Nat) (Option.some (Jvm.ClassFile.FieldType.object "ExactdoublesModel$Its"))) ∈ ky_B := ky_mem (kc_6 _ (List.mem_of_getElem? (i := 225) rfl)) (by decide +kernel)
theorem kw_6_235 : (Jvm.Cond.methodLink "ExactdoublesModel" (140 : Nat) ({ cls := "ExactdoublesModel$Its", name := "times", desc := "(J)LExactdoublesModel$Its;" } : Jvm.MethodName)) ∈ ky_B := ky_mem (kc_6 _ (List.mem_of_getElem? (i := 235) rfl)) (by decide +kernel)
theorem kw_6_236 : (Jvm.Cond.instanceMethod ({ cls := "ExactdoublesModel$Its", name := "times", desc := "(J)LExactdoublesModel$Its;" } : Jvm.MethodName)) ∈ ky_B := ky_mem (kc_6 _ (List.mem_of_getElem? (i := 236) rfl)) (by decide +kernel)
theorem kw_6_237 : (Jvm.Cond.selects "ExactdoublesModel$Its" ({ cls := "ExactdoublesModel$Its", name := "times", desc := "(J)LExactdoublesModel$Its;" } : Jvm.MethodName) ({ cls := "ExactdoublesModel$Its", name := "times", desc := "(J)LExactdoublesModel$Its;" } : Jvm.MethodName)) ∈ ky_B := ky_mem (kc_6 _ (List.mem_of_getElem? (i := 237) rfl)) (by decide +kernel)
theorem kw_6_238 : (Jvm.Cond.code ({ cls := "ExactdoublesModel$Its", name := "times", desc := "(J)LExactdoublesModel$Its;" } : Jvm.MethodName) prog_11_method_21_code (3 : Nat) (Option.some (Jvm.ClassFile.FieldType.object "ExactdoublesModel$Its"))) ∈ ky_B := ky_mem (kc_6 _ (List.mem_of_getElem? (i := 238) rfl)) (by decide +kernel)
theorem kw_7_11 : (Jvm.Cond.methodLink "ExactdoublesModel" (151 : Nat) ({ cls := "ExactdoublesModel", name := "last", desc := "(IIZ)LExactdoublesModel$Its;" } : Jvm.MethodName)) ∈ ky_B := ky_mem (kc_7 _ (List.mem_of_getElem? (i := 11) rfl)) (by decide +kernel)
theorem kw_7_13 : (Jvm.Cond.instanceMethod ({ cls := "ExactdoublesModel", name := "last", desc := "(IIZ)LExactdoublesModel$Its;" } : Jvm.MethodName)) ∈ ky_B := ky_mem (kc_7 _ (List.mem_of_getElem? (i := 13) rfl)) (by decide +kernel)
theorem kp_X9_last : (Jvm.Cond.selects "ExactdoublesModel" ({ cls := "ExactdoublesModel", name := "last", desc := "(IIZ)LExactdoublesModel$Its;" } : Jvm.MethodName) ({ cls := "ExactdoublesModel", name := "last", desc := "(IIZ)LExactdoublesModel$Its;" } : Jvm.MethodName)) ∈ ky_B := ky_mem (List.mem_append_left _ (List.mem_of_getElem? (i := 21) (by decide +kernel))) (by decide +kernel)
theorem kw_7_14 : (Jvm.Cond.code ({ cls := "ExactdoublesModel", name := "last", desc := "(IIZ)LExactdoublesModel$Its;" } : Jvm.MethodName) prog_10_method_35_code (4 : Nat) (Option.some (Jvm.ClassFile.FieldType.object "ExactdoublesModel$Its"))) ∈ ky_B := ky_mem (kc_7 _ (List.mem_of_getElem? (i := 14) rfl)) (by decide +kernel)
theorem kw_7_43 : (Jvm.Cond.methodLink "ExactdoublesModel" (164 : Nat) ({ cls := "ExactdoublesModel$Its", name := "low", desc := "()J" } : Jvm.MethodName)) ∈ ky_B := ky_mem (kc_7 _ (List.mem_of_getElem? (i := 43) rfl)) (by decide +kernel)
theorem kw_7_42 : (Jvm.Cond.methodLink "ExactdoublesModel" (161 : Nat) ({ cls := "ExactdoublesModel$Its", name := "high", desc := "()I" } : Jvm.MethodName)) ∈ ky_B := ky_mem (kc_7 _ (List.mem_of_getElem? (i := 42) rfl)) (by decide +kernel)
theorem kw_7_38 : (Jvm.Cond.methodLink "ExactdoublesModel" (167 : Nat) ({ cls := "ExactdoublesModel", name := "digit", desc := "(II)I" } : Jvm.MethodName)) ∈ ky_B := ky_mem (kc_7 _ (List.mem_of_getElem? (i := 38) rfl)) (by decide +kernel)
theorem kw_7_40 : (Jvm.Cond.instanceMethod ({ cls := "ExactdoublesModel", name := "digit", desc := "(II)I" } : Jvm.MethodName)) ∈ ky_B := ky_mem (kc_7 _ (List.mem_of_getElem? (i := 40) rfl)) (by decide +kernel)
theorem kp_X9_digit : (Jvm.Cond.selects "ExactdoublesModel" ({ cls := "ExactdoublesModel", name := "digit", desc := "(II)I" } : Jvm.MethodName) ({ cls := "ExactdoublesModel", name := "digit", desc := "(II)I" } : Jvm.MethodName)) ∈ ky_B := ky_mem (List.mem_append_left _ (List.mem_of_getElem? (i := 22) (by decide +kernel))) (by decide +kernel)
theorem kw_7_41 : (Jvm.Cond.code ({ cls := "ExactdoublesModel", name := "digit", desc := "(II)I" } : Jvm.MethodName) prog_10_method_40_code (4 : Nat) (Option.some Jvm.ClassFile.FieldType.int)) ∈ ky_B := ky_mem (kc_7 _ (List.mem_of_getElem? (i := 41) rfl)) (by decide +kernel)
theorem kw_7_102 : (Jvm.Cond.methodLink "ExactdoublesModel" (177 : Nat) ({ cls := "ExactdoublesModel$Its", name := "rounded", desc := "(Z)J" } : Jvm.MethodName)) ∈ ky_B := ky_mem (kc_7 _ (List.mem_of_getElem? (i := 102) rfl)) (by decide +kernel)
theorem kw_7_103 : (Jvm.Cond.instanceMethod ({ cls := "ExactdoublesModel$Its", name := "rounded", desc := "(Z)J" } : Jvm.MethodName)) ∈ ky_B := ky_mem (kc_7 _ (List.mem_of_getElem? (i := 103) rfl)) (by decide +kernel)
theorem kw_7_104 : (Jvm.Cond.selects "ExactdoublesModel$Its" ({ cls := "ExactdoublesModel$Its", name := "rounded", desc := "(Z)J" } : Jvm.MethodName) ({ cls := "ExactdoublesModel$Its", name := "rounded", desc := "(Z)J" } : Jvm.MethodName)) ∈ ky_B := ky_mem (kc_7 _ (List.mem_of_getElem? (i := 104) rfl)) (by decide +kernel)
theorem kw_7_105 : (Jvm.Cond.code ({ cls := "ExactdoublesModel$Its", name := "rounded", desc := "(Z)J" } : Jvm.MethodName) prog_11_method_23_code (6 : Nat) (Option.some Jvm.ClassFile.FieldType.long)) ∈ ky_B := ky_mem (kc_7 _ (List.mem_of_getElem? (i := 105) rfl)) (by decide +kernel)
theorem kw_7_98 : (Jvm.Cond.methodLink "ExactdoublesModel" (181 : Nat) ({ cls := "ExactdoublesModel", name := "part", desc := "(IZ)I" } : Jvm.MethodName)) ∈ ky_B := ky_mem (kc_7 _ (List.mem_of_getElem? (i := 98) rfl)) (by decide +kernel)
theorem kw_7_100 : (Jvm.Cond.instanceMethod ({ cls := "ExactdoublesModel", name := "part", desc := "(IZ)I" } : Jvm.MethodName)) ∈ ky_B := ky_mem (kc_7 _ (List.mem_of_getElem? (i := 100) rfl)) (by decide +kernel)
theorem kp_X9_part : (Jvm.Cond.selects "ExactdoublesModel" ({ cls := "ExactdoublesModel", name := "part", desc := "(IZ)I" } : Jvm.MethodName) ({ cls := "ExactdoublesModel", name := "part", desc := "(IZ)I" } : Jvm.MethodName)) ∈ ky_B := ky_mem (List.mem_append_left _ (List.mem_of_getElem? (i := 23) (by decide +kernel))) (by decide +kernel)
theorem kw_7_101 : (Jvm.Cond.code ({ cls := "ExactdoublesModel", name := "part", desc := "(IZ)I" } : Jvm.MethodName) prog_10_method_44_code (3 : Nat) (Option.some Jvm.ClassFile.FieldType.int)) ∈ ky_B := ky_mem (kc_7 _ (List.mem_of_getElem? (i := 101) rfl)) (by decide +kernel)
theorem kw_7_133 : (Jvm.Cond.constantLong "ExactdoublesModel" (204 : Nat) (-2147483648 : Int64)) ∈ ky_B := ky_mem (kc_7 _ (List.mem_of_getElem? (i := 133) rfl)) (by decide +kernel)
theorem kw_7_134 : (Jvm.Cond.constantLong "ExactdoublesModel" (206 : Nat) (2147483647 : Int64)) ∈ ky_B := ky_mem (kc_7 _ (List.mem_of_getElem? (i := 134) rfl)) (by decide +kernel)
theorem kw_7_135 : (Jvm.Cond.methodLink "ExactdoublesModel" (208 : Nat) ({ cls := "java/lang/Math", name := "min", desc := "(JJ)J" } : Jvm.MethodName)) ∈ ky_B := ky_mem (kc_7 _ (List.mem_of_getElem? (i := 135) rfl)) (by decide +kernel)
theorem kw_7_136 : (Jvm.Cond.methodLink "ExactdoublesModel" (211 : Nat) ({ cls := "java/lang/Math", name := "max", desc := "(JJ)J" } : Jvm.MethodName)) ∈ ky_B := ky_mem (kc_7 _ (List.mem_of_getElem? (i := 136) rfl)) (by decide +kernel)
theorem kw_7_129 : (Jvm.Cond.methodLink "ExactdoublesModel" (214 : Nat) ({ cls := "ExactdoublesModel", name := "shortNow", desc := "(I)I" } : Jvm.MethodName)) ∈ ky_B := ky_mem (kc_7 _ (List.mem_of_getElem? (i := 129) rfl)) (by decide +kernel)
theorem kw_7_131 : (Jvm.Cond.instanceMethod ({ cls := "ExactdoublesModel", name := "shortNow", desc := "(I)I" } : Jvm.MethodName)) ∈ ky_B := ky_mem (kc_7 _ (List.mem_of_getElem? (i := 131) rfl)) (by decide +kernel)
theorem kp_X9_shortNow : (Jvm.Cond.selects "ExactdoublesModel" ({ cls := "ExactdoublesModel", name := "shortNow", desc := "(I)I" } : Jvm.MethodName) ({ cls := "ExactdoublesModel", name := "shortNow", desc := "(I)I" } : Jvm.MethodName)) ∈ ky_B := ky_mem (List.mem_append_left _ (List.mem_of_getElem? (i := 25) (by decide +kernel))) (by decide +kernel)
theorem kw_7_132 : (Jvm.Cond.code ({ cls := "ExactdoublesModel", name := "shortNow", desc := "(I)I" } : Jvm.MethodName) prog_10_method_49_code (2 : Nat) (Option.some Jvm.ClassFile.FieldType.int)) ∈ ky_B := ky_mem (kc_7 _ (List.mem_of_getElem? (i := 132) rfl)) (by decide +kernel)
theorem kw_7_165 : (Jvm.Cond.methodLink "ExactdoublesModel" (228 : Nat) ({ cls := "ExactdoublesModel", name := "compared", desc := "(JJ)I" } : Jvm.MethodName)) ∈ ky_B := ky_mem (kc_7 _ (List.mem_of_getElem? (i := 165) rfl)) (by decide +kernel)
theorem kw_7_166 : (Jvm.Cond.static ({ cls := "ExactdoublesModel", name := "compared", desc := "(JJ)I" } : Jvm.MethodName)) ∈ ky_B := ky_mem (kc_7 _ (List.mem_of_getElem? (i := 166) rfl)) (by decide +kernel)
theorem kw_7_167 : (Jvm.Cond.code ({ cls := "ExactdoublesModel", name := "compared", desc := "(JJ)I" } : Jvm.MethodName) prog_10_method_4_code (4 : Nat) (Option.some Jvm.ClassFile.FieldType.int)) ∈ ky_B := ky_mem (kc_7 _ (List.mem_of_getElem? (i := 167) rfl)) (by decide +kernel)
theorem kw_7_161 : (Jvm.Cond.methodLink "ExactdoublesModel" (232 : Nat) ({ cls := "ExactdoublesModel", name := "comparedNow", desc := "(II)I" } : Jvm.MethodName)) ∈ ky_B := ky_mem (kc_7 _ (List.mem_of_getElem? (i := 161) rfl)) (by decide +kernel)
theorem kw_7_163 : (Jvm.Cond.instanceMethod ({ cls := "ExactdoublesModel", name := "comparedNow", desc := "(II)I" } : Jvm.MethodName)) ∈ ky_B := ky_mem (kc_7 _ (List.mem_of_getElem? (i := 163) rfl)) (by decide +kernel)
theorem kp_X9_comparedNow : (Jvm.Cond.selects "ExactdoublesModel" ({ cls := "ExactdoublesModel", name := "comparedNow", desc := "(II)I" } : Jvm.MethodName) ({ cls := "ExactdoublesModel", name := "comparedNow", desc := "(II)I" } : Jvm.MethodName)) ∈ ky_B := ky_mem (List.mem_append_left _ (List.mem_of_getElem? (i := 26) (by decide +kernel))) (by decide +kernel)
theorem kw_7_164 : (Jvm.Cond.code ({ cls := "ExactdoublesModel", name := "comparedNow", desc := "(II)I" } : Jvm.MethodName) prog_10_method_53_code (3 : Nat) (Option.some Jvm.ClassFile.FieldType.int)) ∈ ky_B := ky_mem (kc_7 _ (List.mem_of_getElem? (i := 164) rfl)) (by decide +kernel)
theorem kw_7_196 : (Jvm.Cond.constantLong "ExactdoublesModel" (239 : Nat) (40 : Int64)) ∈ ky_B := ky_mem (kc_7 _ (List.mem_of_getElem? (i := 196) rfl)) (by decide +kernel)
theorem kw_7_192 : (Jvm.Cond.methodLink "ExactdoublesModel" (241 : Nat) ({ cls := "ExactdoublesModel", name := "apartNow", desc := "(II)I" } : Jvm.MethodName)) ∈ ky_B := ky_mem (kc_7 _ (List.mem_of_getElem? (i := 192) rfl)) (by decide +kernel)
theorem kw_7_194 : (Jvm.Cond.instanceMethod ({ cls := "ExactdoublesModel", name := "apartNow", desc := "(II)I" } : Jvm.MethodName)) ∈ ky_B := ky_mem (kc_7 _ (List.mem_of_getElem? (i := 194) rfl)) (by decide +kernel)
theorem kp_X9_apartNow : (Jvm.Cond.selects "ExactdoublesModel" ({ cls := "ExactdoublesModel", name := "apartNow", desc := "(II)I" } : Jvm.MethodName) ({ cls := "ExactdoublesModel", name := "apartNow", desc := "(II)I" } : Jvm.MethodName)) ∈ ky_B := ky_mem (List.mem_append_left _ (List.mem_of_getElem? (i := 27) (by decide +kernel))) (by decide +kernel)
theorem kw_7_195 : (Jvm.Cond.code ({ cls := "ExactdoublesModel", name := "apartNow", desc := "(II)I" } : Jvm.MethodName) prog_10_method_59_code (7 : Nat) (Option.some Jvm.ClassFile.FieldType.int)) ∈ ky_B := ky_mem (kc_7 _ (List.mem_of_getElem? (i := 195) rfl)) (by decide +kernel)
theorem kw_6_23 : (Jvm.Cond.fieldLink "ExactdoublesModel" (255 : Nat) "ExactdoublesModel" "knocks" "I") ∈ ky_B := ky_mem (kc_6 _ (List.mem_of_getElem? (i := 23) rfl)) (by decide +kernel)
theorem kw_6_132 : (Jvm.Cond.methodLink "ExactdoublesModel" (100 : Nat) ({ cls := "ExactdoublesModel", name := "sampled", desc := "(I)J" } : Jvm.MethodName)) ∈ ky_B := ky_mem (kc_6 _ (List.mem_of_getElem? (i := 132) rfl)) (by decide +kernel)
theorem kw_6_133 : (Jvm.Cond.static ({ cls := "ExactdoublesModel", name := "sampled", desc := "(I)J" } : Jvm.MethodName)) ∈ ky_B := ky_mem (kc_6 _ (List.mem_of_getElem? (i := 133) rfl)) (by decide +kernel)
theorem kw_6_134 : (Jvm.Cond.code ({ cls := "ExactdoublesModel", name := "sampled", desc := "(I)J" } : Jvm.MethodName) prog_10_method_17_code (1 : Nat) (Option.some Jvm.ClassFile.FieldType.long)) ∈ ky_B := ky_mem (kc_6 _ (List.mem_of_getElem? (i := 134) rfl)) (by decide +kernel)
theorem ks_X9_69 : ky_wS "ExactdoublesModel" 69 my_X9_nearest prog_10_method_1_code 15 (Option.some Jvm.ClassFile.FieldType.long) 2 := ⟨kw_6_109, kw_6_110, kw_1_8, kw_6_111, by decide, by decide, by decide +kernel⟩
theorem kv_X9_147 : ky_wV "ExactdoublesModel" 147 my_X8_place prog_11_method_8_code 1 (Option.some Jvm.ClassFile.FieldType.long) 0 := ⟨kw_7_15, kw_7_16, kw_7_17, kw_1_9, kw_7_18, by decide, by decide, by decide +kernel⟩
theorem kv_X9_108 : ky_wV "ExactdoublesModel" 108 my_X8_taken prog_11_method_16_code 4 (Option.some (Jvm.ClassFile.FieldType.object "ExactdoublesModel$Its")) 1 := ⟨kw_6_164, kw_6_165, kw_6_166, kw_1_9, kw_6_167, by decide, by decide, by decide +kernel⟩
theorem kv_X9_112 : ky_wV "ExactdoublesModel" 112 my_X9_take prog_10_method_22_code 4 (Option.some Jvm.ClassFile.FieldType.int) 3 := ⟨kw_6_160, kw_6_162, kp_X9_take, kw_1_8, kw_6_163, by decide, by decide, by decide +kernel⟩
theorem kv_X9_124 : ky_wV "ExactdoublesModel" 124 my_X8_sign prog_11_method_22_code 1 (Option.some (Jvm.ClassFile.FieldType.object "ExactdoublesModel$Its")) 0 := ⟨kw_6_196, kw_6_197, kw_6_198, kw_1_9, kw_6_199, by decide, by decide, by decide +kernel⟩
theorem kv_X9_134 : ky_wV "ExactdoublesModel" 134 my_X8_step prog_11_method_19_code 1 (Option.some (Jvm.ClassFile.FieldType.object "ExactdoublesModel$Its")) 0 := ⟨kw_6_222, kw_6_223, kw_6_224, kw_1_9, kw_6_225, by decide, by decide, by decide +kernel⟩
theorem kv_X9_140 : ky_wV "ExactdoublesModel" 140 my_X8_times prog_11_method_21_code 3 (Option.some (Jvm.ClassFile.FieldType.object "ExactdoublesModel$Its")) 1 := ⟨kw_6_235, kw_6_236, kw_6_237, kw_1_9, kw_6_238, by decide, by decide, by decide +kernel⟩
theorem kv_X9_151 : ky_wV "ExactdoublesModel" 151 my_X9_last prog_10_method_35_code 4 (Option.some (Jvm.ClassFile.FieldType.object "ExactdoublesModel$Its")) 3 := ⟨kw_7_11, kw_7_13, kp_X9_last, kw_1_8, kw_7_14, by decide, by decide, by decide +kernel⟩
theorem kv_X9_164 : ky_wV "ExactdoublesModel" 164 my_X8_low prog_11_method_3_code 1 (Option.some Jvm.ClassFile.FieldType.long) 0 := ⟨kw_7_43, kw_6_90, kw_6_91, kw_1_9, kw_6_92, by decide, by decide, by decide +kernel⟩
theorem kv_X9_161 : ky_wV "ExactdoublesModel" 161 my_X8_high prog_11_method_2_code 1 (Option.some Jvm.ClassFile.FieldType.int) 0 := ⟨kw_7_42, kw_6_74, kw_6_75, kw_1_9, kw_6_76, by decide, by decide, by decide +kernel⟩
theorem kv_X9_167 : ky_wV "ExactdoublesModel" 167 my_X9_digit prog_10_method_40_code 4 (Option.some Jvm.ClassFile.FieldType.int) 2 := ⟨kw_7_38, kw_7_40, kp_X9_digit, kw_1_8, kw_7_41, by decide, by decide, by decide +kernel⟩
theorem kv_X9_177 : ky_wV "ExactdoublesModel" 177 my_X8_rounded prog_11_method_23_code 6 (Option.some Jvm.ClassFile.FieldType.long) 1 := ⟨kw_7_102, kw_7_103, kw_7_104, kw_1_9, kw_7_105, by decide, by decide, by decide +kernel⟩
theorem kv_X9_181 : ky_wV "ExactdoublesModel" 181 my_X9_part prog_10_method_44_code 3 (Option.some Jvm.ClassFile.FieldType.int) 2 := ⟨kw_7_98, kw_7_100, kp_X9_part, kw_1_8, kw_7_101, by decide, by decide, by decide +kernel⟩
theorem kv_X9_214 : ky_wV "ExactdoublesModel" 214 my_X9_shortNow prog_10_method_49_code 2 (Option.some Jvm.ClassFile.FieldType.int) 1 := ⟨kw_7_129, kw_7_131, kp_X9_shortNow, kw_1_8, kw_7_132, by decide, by decide, by decide +kernel⟩
theorem ks_X9_228 : ky_wS "ExactdoublesModel" 228 my_X9_compared prog_10_method_4_code 4 (Option.some Jvm.ClassFile.FieldType.int) 2 := ⟨kw_7_165, kw_7_166, kw_1_8, kw_7_167, by decide, by decide, by decide +kernel⟩
theorem kv_X9_232 : ky_wV "ExactdoublesModel" 232 my_X9_comparedNow prog_10_method_53_code 3 (Option.some Jvm.ClassFile.FieldType.int) 2 := ⟨kw_7_161, kw_7_163, kp_X9_comparedNow, kw_1_8, kw_7_164, by decide, by decide, by decide +kernel⟩
theorem kv_X9_241 : ky_wV "ExactdoublesModel" 241 my_X9_apartNow prog_10_method_59_code 7 (Option.some Jvm.ClassFile.FieldType.int) 2 := ⟨kw_7_192, kw_7_194, kp_X9_apartNow, kw_1_8, kw_7_195, by decide, by decide, by decide +kernel⟩
theorem ks_X9_100 : ky_wS "ExactdoublesModel" 100 my_X9_sampled prog_10_method_17_code 1 (Option.some Jvm.ClassFile.FieldType.long) 1 := ⟨kw_6_132, kw_6_133, kw_1_8, kw_6_134, by decide, by decide, by decide +kernel⟩
def dl_X9_sampled_0 : List (ByteArray × Nat × Jvm.ClassFile.Instr × Nat) := [(prog_10_method_17_code, 0, .iload_n 0, 1), (prog_10_method_17_code, 1, .tableswitch 141 0 10 #[59, 61, 65, 69, 73, 83, 93, 103, 111, 121, 131], 59), (prog_10_method_17_code, 60, .lconst 1, 1), (prog_10_method_17_code, 61, .lreturn, 1), (prog_10_method_17_code, 62, .ldc2_w 82, 3), (prog_10_method_17_code, 65, .lreturn, 1), (prog_10_method_17_code, 66, .ldc2_w 3, 3), (prog_10_method_17_code, 69, .lreturn, 1), (prog_10_method_17_code, 70, .ldc2_w 84, 3), (prog_10_method_17_code, 73, .lreturn, 1), (prog_10_method_17_code, 74, .ldc2_w 86, 3), (prog_10_method_17_code, 77, .ldc2_w 88, 3), (prog_10_method_17_code, 80, .invokestatic 69, 3), (prog_10_method_17_code, 83, .lreturn, 1), (prog_10_method_17_code, 84, .ldc2_w 86, 3), (prog_10_method_17_code, 87, .ldc2_w 90, 3), (prog_10_method_17_code, 90, .invokestatic 69, 3), (prog_10_method_17_code, 93, .lreturn, 1), (prog_10_method_17_code, 94, .ldc2_w 86, 3), (prog_10_method_17_code, 97, .ldc2_w 92, 3), (prog_10_method_17_code, 100, .invokestatic 69, 3), (prog_10_method_17_code, 103, .lreturn, 1), (prog_10_method_17_code, 104, .ldc2_w 86, 3), (prog_10_method_17_code, 107, .lconst 0, 1), (prog_10_method_17_code, 108, .invokestatic 69, 3), (prog_10_method_17_code, 111, .lreturn, 1), (prog_10_method_17_code, 112, .ldc2_w 86, 3), (prog_10_method_17_code, 115, .ldc2_w 94, 3), (prog_10_method_17_code, 118, .invokestatic 69, 3), (prog_10_method_17_code, 121, .lreturn, 1), (prog_10_method_17_code, 122, .ldc2_w 73, 3), (prog_10_method_17_code, 125, .ldc2_w 92, 3), (prog_10_method_17_code, 128, .invokestatic 69, 3), (prog_10_method_17_code, 131, .lreturn, 1), (prog_10_method_17_code, 132, .ldc2_w 96, 3), (prog_10_method_17_code, 135, .ldc2_w 92, 3), (prog_10_method_17_code, 138, .invokestatic 69, 3), (prog_10_method_17_code, 141, .lreturn, 1), (prog_10_method_17_code, 142, .ldc2_w 98, 3), (prog_10_method_17_code, 145, .lconst 0, 1), (prog_10_method_17_code, 146, .invokestatic 69, 3), (prog_10_method_17_code, 149, .lreturn, 1), (prog_10_method_35_code, 0, .aload_n 0, 1), (prog_10_method_35_code, 1, .getfield 25, 3), (prog_10_method_35_code, 4, .iload_n 1, 1), (prog_10_method_35_code, 5, .aaload, 1), (prog_10_method_35_code, 6, .invokevirtual 147, 3), (prog_10_method_35_code, 9, .aload_n 0, 1), (prog_10_method_35_code, 10, .getfield 25, 3), (prog_10_method_35_code, 13, .iload_n 2, 1), (prog_10_method_35_code, 14, .aaload, 1), (prog_10_method_35_code, 15, .invokevirtual 147, 3), (prog_10_method_35_code, 18, .lcmp, 1), (prog_10_method_35_code, 19, .ifCond .le 7, 3), (prog_10_method_35_code, 26, .iconst 0, 1), (prog_10_method_35_code, 27, .iload_n 3, 1), (prog_10_method_35_code, 28, .if_icmp .ne 12, 3), (prog_10_method_35_code, 40, .aload_n 0, 1), (prog_10_method_35_code, 41, .getfield 25, 3), (prog_10_method_35_code, 44, .iload_n 2, 1)]
theorem db_X9_sampled_0 : dl_X9_sampled_0.all (fun x => decide (decode x.1 x.2.1 = .ok x.2.2)) = true := by decide +kernel
theorem dc_X9_sampled_0 : decode prog_10_method_17_code 0 = .ok (.iload_n 0, 1) := ky_dc db_X9_sampled_0 0 rfl
theorem dc_X9_sampled_1 : decode prog_10_method_17_code 1 = .ok (.tableswitch 141 0 10 #[59, 61, 65, 69, 73, 83, 93, 103, 111, 121, 131], 59) := ky_dc db_X9_sampled_0 1 rfl
theorem dc_X9_sampled_60 : decode prog_10_method_17_code 60 = .ok (.lconst 1, 1) := ky_dc db_X9_sampled_0 2 rfl
theorem dc_X9_sampled_61 : decode prog_10_method_17_code 61 = .ok (.lreturn, 1) := ky_dc db_X9_sampled_0 3 rfl
theorem dc_X9_sampled_62 : decode prog_10_method_17_code 62 = .ok (.ldc2_w 82, 3) := ky_dc db_X9_sampled_0 4 rfl
theorem dc_X9_sampled_65 : decode prog_10_method_17_code 65 = .ok (.lreturn, 1) := ky_dc db_X9_sampled_0 5 rfl
theorem dc_X9_sampled_66 : decode prog_10_method_17_code 66 = .ok (.ldc2_w 3, 3) := ky_dc db_X9_sampled_0 6 rfl
theorem dc_X9_sampled_69 : decode prog_10_method_17_code 69 = .ok (.lreturn, 1) := ky_dc db_X9_sampled_0 7 rfl
theorem dc_X9_sampled_70 : decode prog_10_method_17_code 70 = .ok (.ldc2_w 84, 3) := ky_dc db_X9_sampled_0 8 rfl
theorem dc_X9_sampled_73 : decode prog_10_method_17_code 73 = .ok (.lreturn, 1) := ky_dc db_X9_sampled_0 9 rfl
theorem dc_X9_sampled_74 : decode prog_10_method_17_code 74 = .ok (.ldc2_w 86, 3) := ky_dc db_X9_sampled_0 10 rfl
theorem dc_X9_sampled_77 : decode prog_10_method_17_code 77 = .ok (.ldc2_w 88, 3) := ky_dc db_X9_sampled_0 11 rfl
theorem dc_X9_sampled_80 : decode prog_10_method_17_code 80 = .ok (.invokestatic 69, 3) := ky_dc db_X9_sampled_0 12 rfl
theorem dc_X9_sampled_83 : decode prog_10_method_17_code 83 = .ok (.lreturn, 1) := ky_dc db_X9_sampled_0 13 rfl
theorem dc_X9_sampled_84 : decode prog_10_method_17_code 84 = .ok (.ldc2_w 86, 3) := ky_dc db_X9_sampled_0 14 rfl
theorem dc_X9_sampled_87 : decode prog_10_method_17_code 87 = .ok (.ldc2_w 90, 3) := ky_dc db_X9_sampled_0 15 rfl
theorem dc_X9_sampled_90 : decode prog_10_method_17_code 90 = .ok (.invokestatic 69, 3) := ky_dc db_X9_sampled_0 16 rfl
theorem dc_X9_sampled_93 : decode prog_10_method_17_code 93 = .ok (.lreturn, 1) := ky_dc db_X9_sampled_0 17 rfl
theorem dc_X9_sampled_94 : decode prog_10_method_17_code 94 = .ok (.ldc2_w 86, 3) := ky_dc db_X9_sampled_0 18 rfl
theorem dc_X9_sampled_97 : decode prog_10_method_17_code 97 = .ok (.ldc2_w 92, 3) := ky_dc db_X9_sampled_0 19 rfl
theorem dc_X9_sampled_100 : decode prog_10_method_17_code 100 = .ok (.invokestatic 69, 3) := ky_dc db_X9_sampled_0 20 rfl
theorem dc_X9_sampled_103 : decode prog_10_method_17_code 103 = .ok (.lreturn, 1) := ky_dc db_X9_sampled_0 21 rfl
theorem dc_X9_sampled_104 : decode prog_10_method_17_code 104 = .ok (.ldc2_w 86, 3) := ky_dc db_X9_sampled_0 22 rfl
theorem dc_X9_sampled_107 : decode prog_10_method_17_code 107 = .ok (.lconst 0, 1) := ky_dc db_X9_sampled_0 23 rfl
theorem dc_X9_sampled_108 : decode prog_10_method_17_code 108 = .ok (.invokestatic 69, 3) := ky_dc db_X9_sampled_0 24 rfl
theorem dc_X9_sampled_111 : decode prog_10_method_17_code 111 = .ok (.lreturn, 1) := ky_dc db_X9_sampled_0 25 rfl
theorem dc_X9_sampled_112 : decode prog_10_method_17_code 112 = .ok (.ldc2_w 86, 3) := ky_dc db_X9_sampled_0 26 rfl
theorem dc_X9_sampled_115 : decode prog_10_method_17_code 115 = .ok (.ldc2_w 94, 3) := ky_dc db_X9_sampled_0 27 rfl
theorem dc_X9_sampled_118 : decode prog_10_method_17_code 118 = .ok (.invokestatic 69, 3) := ky_dc db_X9_sampled_0 28 rfl
theorem dc_X9_sampled_121 : decode prog_10_method_17_code 121 = .ok (.lreturn, 1) := ky_dc db_X9_sampled_0 29 rfl
theorem dc_X9_sampled_122 : decode prog_10_method_17_code 122 = .ok (.ldc2_w 73, 3) := ky_dc db_X9_sampled_0 30 rfl
theorem dc_X9_sampled_125 : decode prog_10_method_17_code 125 = .ok (.ldc2_w 92, 3) := ky_dc db_X9_sampled_0 31 rfl
theorem dc_X9_sampled_128 : decode prog_10_method_17_code 128 = .ok (.invokestatic 69, 3) := ky_dc db_X9_sampled_0 32 rfl
theorem dc_X9_sampled_131 : decode prog_10_method_17_code 131 = .ok (.lreturn, 1) := ky_dc db_X9_sampled_0 33 rfl
theorem dc_X9_sampled_132 : decode prog_10_method_17_code 132 = .ok (.ldc2_w 96, 3) := ky_dc db_X9_sampled_0 34 rfl
theorem dc_X9_sampled_135 : decode prog_10_method_17_code 135 = .ok (.ldc2_w 92, 3) := ky_dc db_X9_sampled_0 35 rfl
theorem dc_X9_sampled_138 : decode prog_10_method_17_code 138 = .ok (.invokestatic 69, 3) := ky_dc db_X9_sampled_0 36 rfl
theorem dc_X9_sampled_141 : decode prog_10_method_17_code 141 = .ok (.lreturn, 1) := ky_dc db_X9_sampled_0 37 rfl
theorem dc_X9_sampled_142 : decode prog_10_method_17_code 142 = .ok (.ldc2_w 98, 3) := ky_dc db_X9_sampled_0 38 rfl
theorem dc_X9_sampled_145 : decode prog_10_method_17_code 145 = .ok (.lconst 0, 1) := ky_dc db_X9_sampled_0 39 rfl
theorem dc_X9_sampled_146 : decode prog_10_method_17_code 146 = .ok (.invokestatic 69, 3) := ky_dc db_X9_sampled_0 40 rfl
theorem dc_X9_sampled_149 : decode prog_10_method_17_code 149 = .ok (.lreturn, 1) := ky_dc db_X9_sampled_0 41 rfl
theorem dc_X9_last_0 : decode prog_10_method_35_code 0 = .ok (.aload_n 0, 1) := ky_dc db_X9_sampled_0 42 rfl
theorem dc_X9_last_1 : decode prog_10_method_35_code 1 = .ok (.getfield 25, 3) := ky_dc db_X9_sampled_0 43 rfl
theorem dc_X9_last_4 : decode prog_10_method_35_code 4 = .ok (.iload_n 1, 1) := ky_dc db_X9_sampled_0 44 rfl
theorem dc_X9_last_5 : decode prog_10_method_35_code 5 = .ok (.aaload, 1) := ky_dc db_X9_sampled_0 45 rfl
theorem dc_X9_last_6 : decode prog_10_method_35_code 6 = .ok (.invokevirtual 147, 3) := ky_dc db_X9_sampled_0 46 rfl
theorem dc_X9_last_9 : decode prog_10_method_35_code 9 = .ok (.aload_n 0, 1) := ky_dc db_X9_sampled_0 47 rfl
theorem dc_X9_last_10 : decode prog_10_method_35_code 10 = .ok (.getfield 25, 3) := ky_dc db_X9_sampled_0 48 rfl
theorem dc_X9_last_13 : decode prog_10_method_35_code 13 = .ok (.iload_n 2, 1) := ky_dc db_X9_sampled_0 49 rfl
theorem dc_X9_last_14 : decode prog_10_method_35_code 14 = .ok (.aaload, 1) := ky_dc db_X9_sampled_0 50 rfl
theorem dc_X9_last_15 : decode prog_10_method_35_code 15 = .ok (.invokevirtual 147, 3) := ky_dc db_X9_sampled_0 51 rfl
theorem dc_X9_last_18 : decode prog_10_method_35_code 18 = .ok (.lcmp, 1) := ky_dc db_X9_sampled_0 52 rfl
theorem dc_X9_last_19 : decode prog_10_method_35_code 19 = .ok (.ifCond .le 7, 3) := ky_dc db_X9_sampled_0 53 rfl
theorem dc_X9_last_26 : decode prog_10_method_35_code 26 = .ok (.iconst 0, 1) := ky_dc db_X9_sampled_0 54 rfl
theorem dc_X9_last_27 : decode prog_10_method_35_code 27 = .ok (.iload_n 3, 1) := ky_dc db_X9_sampled_0 55 rfl
theorem dc_X9_last_28 : decode prog_10_method_35_code 28 = .ok (.if_icmp .ne 12, 3) := ky_dc db_X9_sampled_0 56 rfl
theorem dc_X9_last_40 : decode prog_10_method_35_code 40 = .ok (.aload_n 0, 1) := ky_dc db_X9_sampled_0 57 rfl
theorem dc_X9_last_41 : decode prog_10_method_35_code 41 = .ok (.getfield 25, 3) := ky_dc db_X9_sampled_0 58 rfl
theorem dc_X9_last_44 : decode prog_10_method_35_code 44 = .ok (.iload_n 2, 1) := ky_dc db_X9_sampled_0 59 rfl
def dl_X9_last_45 : List (ByteArray × Nat × Jvm.ClassFile.Instr × Nat) := [(prog_10_method_35_code, 45, .aaload, 1), (prog_10_method_35_code, 46, .areturn, 1), (prog_10_method_35_code, 31, .aload_n 0, 1), (prog_10_method_35_code, 32, .getfield 25, 3), (prog_10_method_35_code, 35, .iload_n 1, 1), (prog_10_method_35_code, 36, .aaload, 1), (prog_10_method_35_code, 37, .goto 9, 3), (prog_10_method_35_code, 22, .iconst 1, 1), (prog_10_method_35_code, 23, .goto 4, 3), (prog_10_method_14_code, 0, .aload_n 0, 1), (prog_10_method_14_code, 1, .iload_n 1, 1), (prog_10_method_14_code, 2, .invokestatic 51, 3), (prog_10_method_14_code, 5, .invokevirtual 55, 3), (prog_10_method_14_code, 8, .ifCond .eq 7, 3), (prog_10_method_14_code, 15, .aload_n 0, 1), (prog_10_method_14_code, 16, .iload_n 1, 1), (prog_10_method_14_code, 17, .new 23, 3), (prog_10_method_14_code, 20, .dup, 1), (prog_10_method_14_code, 21, .iload_n 2, 1), (prog_10_method_14_code, 22, .ifCond .ge 7, 3), (prog_10_method_14_code, 29, .iconst 0, 1), (prog_10_method_14_code, 30, .invokestatic 59, 3), (prog_10_method_14_code, 33, .iload_n 2, 1), (prog_10_method_14_code, 34, .ifCond .ge 9, 3), (prog_10_method_14_code, 43, .iload_n 2, 1), (prog_10_method_14_code, 44, .i2l, 1), (prog_10_method_14_code, 45, .ldc2_w 67, 3), (prog_10_method_14_code, 48, .invokestatic 69, 3), (prog_10_method_14_code, 51, .invokespecial 29, 3), (prog_10_method_14_code, 54, .invokevirtual 63, 3), (prog_10_method_14_code, 57, .ireturn, 1), (prog_10_method_14_code, 37, .iload_n 2, 1), (prog_10_method_14_code, 38, .i2l, 1), (prog_10_method_14_code, 39, .lneg, 1), (prog_10_method_14_code, 40, .goto 5, 3), (prog_10_method_14_code, 25, .iconst 1, 1), (prog_10_method_14_code, 26, .goto 4, 3), (prog_10_method_14_code, 11, .iconst 0, 1), (prog_10_method_14_code, 12, .goto 45, 3), (prog_10_method_15_code, 0, .aload_n 0, 1), (prog_10_method_15_code, 1, .iload_n 1, 1), (prog_10_method_15_code, 2, .invokestatic 51, 3), (prog_10_method_15_code, 5, .invokevirtual 55, 3), (prog_10_method_15_code, 8, .ifCond .ne 29, 3), (prog_10_method_15_code, 37, .iconst 0, 1), (prog_10_method_15_code, 38, .goto 25, 3), (prog_10_method_15_code, 63, .ireturn, 1), (prog_10_method_15_code, 11, .aload_n 0, 1), (prog_10_method_15_code, 12, .iload_n 2, 1), (prog_10_method_15_code, 13, .sipush (-1100), 3), (prog_10_method_15_code, 16, .sipush 1100, 3), (prog_10_method_15_code, 19, .invokestatic 40, 3), (prog_10_method_15_code, 22, .ifCond .ne 7, 3), (prog_10_method_15_code, 29, .iconst 0, 1), (prog_10_method_15_code, 30, .iconst 2, 1), (prog_10_method_15_code, 31, .invokevirtual 36, 3), (prog_10_method_15_code, 34, .ifCond .eq 7, 3), (prog_10_method_15_code, 41, .aload_n 0, 1), (prog_10_method_15_code, 42, .iload_n 1, 1), (prog_10_method_15_code, 43, .new 23, 3)]
theorem db_X9_last_45 : dl_X9_last_45.all (fun x => decide (decode x.1 x.2.1 = .ok x.2.2)) = true := by decide +kernel
theorem dc_X9_last_45 : decode prog_10_method_35_code 45 = .ok (.aaload, 1) := ky_dc db_X9_last_45 0 rfl
theorem dc_X9_last_46 : decode prog_10_method_35_code 46 = .ok (.areturn, 1) := ky_dc db_X9_last_45 1 rfl
theorem dc_X9_last_31 : decode prog_10_method_35_code 31 = .ok (.aload_n 0, 1) := ky_dc db_X9_last_45 2 rfl
theorem dc_X9_last_32 : decode prog_10_method_35_code 32 = .ok (.getfield 25, 3) := ky_dc db_X9_last_45 3 rfl
theorem dc_X9_last_35 : decode prog_10_method_35_code 35 = .ok (.iload_n 1, 1) := ky_dc db_X9_last_45 4 rfl
theorem dc_X9_last_36 : decode prog_10_method_35_code 36 = .ok (.aaload, 1) := ky_dc db_X9_last_45 5 rfl
theorem dc_X9_last_37 : decode prog_10_method_35_code 37 = .ok (.goto 9, 3) := ky_dc db_X9_last_45 6 rfl
theorem dc_X9_last_22 : decode prog_10_method_35_code 22 = .ok (.iconst 1, 1) := ky_dc db_X9_last_45 7 rfl
theorem dc_X9_last_23 : decode prog_10_method_35_code 23 = .ok (.goto 4, 3) := ky_dc db_X9_last_45 8 rfl
theorem dc_X9_quarters_0 : decode prog_10_method_14_code 0 = .ok (.aload_n 0, 1) := ky_dc db_X9_last_45 9 rfl
theorem dc_X9_quarters_1 : decode prog_10_method_14_code 1 = .ok (.iload_n 1, 1) := ky_dc db_X9_last_45 10 rfl
theorem dc_X9_quarters_2 : decode prog_10_method_14_code 2 = .ok (.invokestatic 51, 3) := ky_dc db_X9_last_45 11 rfl
theorem dc_X9_quarters_5 : decode prog_10_method_14_code 5 = .ok (.invokevirtual 55, 3) := ky_dc db_X9_last_45 12 rfl
theorem dc_X9_quarters_8 : decode prog_10_method_14_code 8 = .ok (.ifCond .eq 7, 3) := ky_dc db_X9_last_45 13 rfl
theorem dc_X9_quarters_15 : decode prog_10_method_14_code 15 = .ok (.aload_n 0, 1) := ky_dc db_X9_last_45 14 rfl
theorem dc_X9_quarters_16 : decode prog_10_method_14_code 16 = .ok (.iload_n 1, 1) := ky_dc db_X9_last_45 15 rfl
theorem dc_X9_quarters_17 : decode prog_10_method_14_code 17 = .ok (.new 23, 3) := ky_dc db_X9_last_45 16 rfl
theorem dc_X9_quarters_20 : decode prog_10_method_14_code 20 = .ok (.dup, 1) := ky_dc db_X9_last_45 17 rfl
theorem dc_X9_quarters_21 : decode prog_10_method_14_code 21 = .ok (.iload_n 2, 1) := ky_dc db_X9_last_45 18 rfl
theorem dc_X9_quarters_22 : decode prog_10_method_14_code 22 = .ok (.ifCond .ge 7, 3) := ky_dc db_X9_last_45 19 rfl
theorem dc_X9_quarters_29 : decode prog_10_method_14_code 29 = .ok (.iconst 0, 1) := ky_dc db_X9_last_45 20 rfl
theorem dc_X9_quarters_30 : decode prog_10_method_14_code 30 = .ok (.invokestatic 59, 3) := ky_dc db_X9_last_45 21 rfl
theorem dc_X9_quarters_33 : decode prog_10_method_14_code 33 = .ok (.iload_n 2, 1) := ky_dc db_X9_last_45 22 rfl
theorem dc_X9_quarters_34 : decode prog_10_method_14_code 34 = .ok (.ifCond .ge 9, 3) := ky_dc db_X9_last_45 23 rfl
theorem dc_X9_quarters_43 : decode prog_10_method_14_code 43 = .ok (.iload_n 2, 1) := ky_dc db_X9_last_45 24 rfl
theorem dc_X9_quarters_44 : decode prog_10_method_14_code 44 = .ok (.i2l, 1) := ky_dc db_X9_last_45 25 rfl
theorem dc_X9_quarters_45 : decode prog_10_method_14_code 45 = .ok (.ldc2_w 67, 3) := ky_dc db_X9_last_45 26 rfl
theorem dc_X9_quarters_48 : decode prog_10_method_14_code 48 = .ok (.invokestatic 69, 3) := ky_dc db_X9_last_45 27 rfl
theorem dc_X9_quarters_51 : decode prog_10_method_14_code 51 = .ok (.invokespecial 29, 3) := ky_dc db_X9_last_45 28 rfl
theorem dc_X9_quarters_54 : decode prog_10_method_14_code 54 = .ok (.invokevirtual 63, 3) := ky_dc db_X9_last_45 29 rfl
theorem dc_X9_quarters_57 : decode prog_10_method_14_code 57 = .ok (.ireturn, 1) := ky_dc db_X9_last_45 30 rfl
theorem dc_X9_quarters_37 : decode prog_10_method_14_code 37 = .ok (.iload_n 2, 1) := ky_dc db_X9_last_45 31 rfl
theorem dc_X9_quarters_38 : decode prog_10_method_14_code 38 = .ok (.i2l, 1) := ky_dc db_X9_last_45 32 rfl
theorem dc_X9_quarters_39 : decode prog_10_method_14_code 39 = .ok (.lneg, 1) := ky_dc db_X9_last_45 33 rfl
theorem dc_X9_quarters_40 : decode prog_10_method_14_code 40 = .ok (.goto 5, 3) := ky_dc db_X9_last_45 34 rfl
theorem dc_X9_quarters_25 : decode prog_10_method_14_code 25 = .ok (.iconst 1, 1) := ky_dc db_X9_last_45 35 rfl
theorem dc_X9_quarters_26 : decode prog_10_method_14_code 26 = .ok (.goto 4, 3) := ky_dc db_X9_last_45 36 rfl
theorem dc_X9_quarters_11 : decode prog_10_method_14_code 11 = .ok (.iconst 0, 1) := ky_dc db_X9_last_45 37 rfl
theorem dc_X9_quarters_12 : decode prog_10_method_14_code 12 = .ok (.goto 45, 3) := ky_dc db_X9_last_45 38 rfl
theorem dc_X9_power_0 : decode prog_10_method_15_code 0 = .ok (.aload_n 0, 1) := ky_dc db_X9_last_45 39 rfl
theorem dc_X9_power_1 : decode prog_10_method_15_code 1 = .ok (.iload_n 1, 1) := ky_dc db_X9_last_45 40 rfl
theorem dc_X9_power_2 : decode prog_10_method_15_code 2 = .ok (.invokestatic 51, 3) := ky_dc db_X9_last_45 41 rfl
theorem dc_X9_power_5 : decode prog_10_method_15_code 5 = .ok (.invokevirtual 55, 3) := ky_dc db_X9_last_45 42 rfl
theorem dc_X9_power_8 : decode prog_10_method_15_code 8 = .ok (.ifCond .ne 29, 3) := ky_dc db_X9_last_45 43 rfl
theorem dc_X9_power_37 : decode prog_10_method_15_code 37 = .ok (.iconst 0, 1) := ky_dc db_X9_last_45 44 rfl
theorem dc_X9_power_38 : decode prog_10_method_15_code 38 = .ok (.goto 25, 3) := ky_dc db_X9_last_45 45 rfl
theorem dc_X9_power_63 : decode prog_10_method_15_code 63 = .ok (.ireturn, 1) := ky_dc db_X9_last_45 46 rfl
theorem dc_X9_power_11 : decode prog_10_method_15_code 11 = .ok (.aload_n 0, 1) := ky_dc db_X9_last_45 47 rfl
theorem dc_X9_power_12 : decode prog_10_method_15_code 12 = .ok (.iload_n 2, 1) := ky_dc db_X9_last_45 48 rfl
theorem dc_X9_power_13 : decode prog_10_method_15_code 13 = .ok (.sipush (-1100), 3) := ky_dc db_X9_last_45 49 rfl
theorem dc_X9_power_16 : decode prog_10_method_15_code 16 = .ok (.sipush 1100, 3) := ky_dc db_X9_last_45 50 rfl
theorem dc_X9_power_19 : decode prog_10_method_15_code 19 = .ok (.invokestatic 40, 3) := ky_dc db_X9_last_45 51 rfl
theorem dc_X9_power_22 : decode prog_10_method_15_code 22 = .ok (.ifCond .ne 7, 3) := ky_dc db_X9_last_45 52 rfl
theorem dc_X9_power_29 : decode prog_10_method_15_code 29 = .ok (.iconst 0, 1) := ky_dc db_X9_last_45 53 rfl
theorem dc_X9_power_30 : decode prog_10_method_15_code 30 = .ok (.iconst 2, 1) := ky_dc db_X9_last_45 54 rfl
theorem dc_X9_power_31 : decode prog_10_method_15_code 31 = .ok (.invokevirtual 36, 3) := ky_dc db_X9_last_45 55 rfl
theorem dc_X9_power_34 : decode prog_10_method_15_code 34 = .ok (.ifCond .eq 7, 3) := ky_dc db_X9_last_45 56 rfl
theorem dc_X9_power_41 : decode prog_10_method_15_code 41 = .ok (.aload_n 0, 1) := ky_dc db_X9_last_45 57 rfl
theorem dc_X9_power_42 : decode prog_10_method_15_code 42 = .ok (.iload_n 1, 1) := ky_dc db_X9_last_45 58 rfl
theorem dc_X9_power_43 : decode prog_10_method_15_code 43 = .ok (.new 23, 3) := ky_dc db_X9_last_45 59 rfl
def dl_X9_power_46 : List (ByteArray × Nat × Jvm.ClassFile.Instr × Nat) := [(prog_10_method_15_code, 46, .dup, 1), (prog_10_method_15_code, 47, .iload_n 3, 1), (prog_10_method_15_code, 48, .invokestatic 59, 3), (prog_10_method_15_code, 51, .lconst 1, 1), (prog_10_method_15_code, 52, .iload_n 2, 1), (prog_10_method_15_code, 53, .i2l, 1), (prog_10_method_15_code, 54, .invokestatic 69, 3), (prog_10_method_15_code, 57, .invokespecial 29, 3), (prog_10_method_15_code, 60, .invokevirtual 63, 3), (prog_10_method_15_code, 25, .iconst 1, 1), (prog_10_method_15_code, 26, .goto 4, 3), (prog_10_method_22_code, 0, .aload_n 0, 1), (prog_10_method_22_code, 1, .aload_n 0, 1), (prog_10_method_22_code, 2, .iload_n 1, 1), (prog_10_method_22_code, 3, .iload_n 3, 1), (prog_10_method_22_code, 4, .invokevirtual 104, 3), (prog_10_method_22_code, 7, .invokevirtual 55, 3), (prog_10_method_22_code, 10, .ifCond .eq 7, 3), (prog_10_method_22_code, 17, .aload_n 0, 1), (prog_10_method_22_code, 18, .iload_n 3, 1), (prog_10_method_22_code, 19, .aload_n 0, 1), (prog_10_method_22_code, 20, .getfield 25, 3), (prog_10_method_22_code, 23, .iload_n 1, 1), (prog_10_method_22_code, 24, .aaload, 1), (prog_10_method_22_code, 25, .iload_n 2, 1), (prog_10_method_22_code, 26, .invokevirtual 108, 3), (prog_10_method_22_code, 29, .invokevirtual 63, 3), (prog_10_method_22_code, 32, .ireturn, 1), (prog_10_method_22_code, 13, .iconst 0, 1), (prog_10_method_22_code, 14, .goto 18, 3), (prog_10_method_23_code, 0, .aload_n 0, 1), (prog_10_method_23_code, 1, .iload_n 1, 1), (prog_10_method_23_code, 2, .iconst 0, 1), (prog_10_method_23_code, 3, .iload_n 2, 1), (prog_10_method_23_code, 4, .invokevirtual 112, 3), (prog_10_method_23_code, 7, .ireturn, 1), (prog_10_method_24_code, 0, .aload_n 0, 1), (prog_10_method_24_code, 1, .iload_n 1, 1), (prog_10_method_24_code, 2, .iconst 1, 1), (prog_10_method_24_code, 3, .iload_n 2, 1), (prog_10_method_24_code, 4, .invokevirtual 112, 3), (prog_10_method_24_code, 7, .ireturn, 1), (prog_10_method_25_code, 0, .aload_n 0, 1), (prog_10_method_25_code, 1, .iload_n 1, 1), (prog_10_method_25_code, 2, .iconst 2, 1), (prog_10_method_25_code, 3, .iload_n 2, 1), (prog_10_method_25_code, 4, .invokevirtual 112, 3), (prog_10_method_25_code, 7, .ireturn, 1), (prog_10_method_28_code, 0, .aload_n 0, 1), (prog_10_method_28_code, 1, .aload_n 0, 1), (prog_10_method_28_code, 2, .iload_n 1, 1), (prog_10_method_28_code, 3, .iload_n 2, 1), (prog_10_method_28_code, 4, .invokevirtual 104, 3), (prog_10_method_28_code, 7, .invokevirtual 55, 3), (prog_10_method_28_code, 10, .ifCond .eq 7, 3), (prog_10_method_28_code, 17, .aload_n 0, 1), (prog_10_method_28_code, 18, .iload_n 2, 1), (prog_10_method_28_code, 19, .aload_n 0, 1), (prog_10_method_28_code, 20, .getfield 25, 3), (prog_10_method_28_code, 23, .iload_n 1, 1)]
theorem db_X9_power_46 : dl_X9_power_46.all (fun x => decide (decode x.1 x.2.1 = .ok x.2.2)) = true := by decide +kernel
theorem dc_X9_power_46 : decode prog_10_method_15_code 46 = .ok (.dup, 1) := ky_dc db_X9_power_46 0 rfl
theorem dc_X9_power_47 : decode prog_10_method_15_code 47 = .ok (.iload_n 3, 1) := ky_dc db_X9_power_46 1 rfl
theorem dc_X9_power_48 : decode prog_10_method_15_code 48 = .ok (.invokestatic 59, 3) := ky_dc db_X9_power_46 2 rfl
theorem dc_X9_power_51 : decode prog_10_method_15_code 51 = .ok (.lconst 1, 1) := ky_dc db_X9_power_46 3 rfl
theorem dc_X9_power_52 : decode prog_10_method_15_code 52 = .ok (.iload_n 2, 1) := ky_dc db_X9_power_46 4 rfl
theorem dc_X9_power_53 : decode prog_10_method_15_code 53 = .ok (.i2l, 1) := ky_dc db_X9_power_46 5 rfl
theorem dc_X9_power_54 : decode prog_10_method_15_code 54 = .ok (.invokestatic 69, 3) := ky_dc db_X9_power_46 6 rfl
theorem dc_X9_power_57 : decode prog_10_method_15_code 57 = .ok (.invokespecial 29, 3) := ky_dc db_X9_power_46 7 rfl
theorem dc_X9_power_60 : decode prog_10_method_15_code 60 = .ok (.invokevirtual 63, 3) := ky_dc db_X9_power_46 8 rfl
theorem dc_X9_power_25 : decode prog_10_method_15_code 25 = .ok (.iconst 1, 1) := ky_dc db_X9_power_46 9 rfl
theorem dc_X9_power_26 : decode prog_10_method_15_code 26 = .ok (.goto 4, 3) := ky_dc db_X9_power_46 10 rfl
theorem dc_X9_take_0 : decode prog_10_method_22_code 0 = .ok (.aload_n 0, 1) := ky_dc db_X9_power_46 11 rfl
theorem dc_X9_take_1 : decode prog_10_method_22_code 1 = .ok (.aload_n 0, 1) := ky_dc db_X9_power_46 12 rfl
theorem dc_X9_take_2 : decode prog_10_method_22_code 2 = .ok (.iload_n 1, 1) := ky_dc db_X9_power_46 13 rfl
theorem dc_X9_take_3 : decode prog_10_method_22_code 3 = .ok (.iload_n 3, 1) := ky_dc db_X9_power_46 14 rfl
theorem dc_X9_take_4 : decode prog_10_method_22_code 4 = .ok (.invokevirtual 104, 3) := ky_dc db_X9_power_46 15 rfl
theorem dc_X9_take_7 : decode prog_10_method_22_code 7 = .ok (.invokevirtual 55, 3) := ky_dc db_X9_power_46 16 rfl
theorem dc_X9_take_10 : decode prog_10_method_22_code 10 = .ok (.ifCond .eq 7, 3) := ky_dc db_X9_power_46 17 rfl
theorem dc_X9_take_17 : decode prog_10_method_22_code 17 = .ok (.aload_n 0, 1) := ky_dc db_X9_power_46 18 rfl
theorem dc_X9_take_18 : decode prog_10_method_22_code 18 = .ok (.iload_n 3, 1) := ky_dc db_X9_power_46 19 rfl
theorem dc_X9_take_19 : decode prog_10_method_22_code 19 = .ok (.aload_n 0, 1) := ky_dc db_X9_power_46 20 rfl
theorem dc_X9_take_20 : decode prog_10_method_22_code 20 = .ok (.getfield 25, 3) := ky_dc db_X9_power_46 21 rfl
theorem dc_X9_take_23 : decode prog_10_method_22_code 23 = .ok (.iload_n 1, 1) := ky_dc db_X9_power_46 22 rfl
theorem dc_X9_take_24 : decode prog_10_method_22_code 24 = .ok (.aaload, 1) := ky_dc db_X9_power_46 23 rfl
theorem dc_X9_take_25 : decode prog_10_method_22_code 25 = .ok (.iload_n 2, 1) := ky_dc db_X9_power_46 24 rfl
theorem dc_X9_take_26 : decode prog_10_method_22_code 26 = .ok (.invokevirtual 108, 3) := ky_dc db_X9_power_46 25 rfl
theorem dc_X9_take_29 : decode prog_10_method_22_code 29 = .ok (.invokevirtual 63, 3) := ky_dc db_X9_power_46 26 rfl
theorem dc_X9_take_32 : decode prog_10_method_22_code 32 = .ok (.ireturn, 1) := ky_dc db_X9_power_46 27 rfl
theorem dc_X9_take_13 : decode prog_10_method_22_code 13 = .ok (.iconst 0, 1) := ky_dc db_X9_power_46 28 rfl
theorem dc_X9_take_14 : decode prog_10_method_22_code 14 = .ok (.goto 18, 3) := ky_dc db_X9_power_46 29 rfl
theorem dc_X9_floor_0 : decode prog_10_method_23_code 0 = .ok (.aload_n 0, 1) := ky_dc db_X9_power_46 30 rfl
theorem dc_X9_floor_1 : decode prog_10_method_23_code 1 = .ok (.iload_n 1, 1) := ky_dc db_X9_power_46 31 rfl
theorem dc_X9_floor_2 : decode prog_10_method_23_code 2 = .ok (.iconst 0, 1) := ky_dc db_X9_power_46 32 rfl
theorem dc_X9_floor_3 : decode prog_10_method_23_code 3 = .ok (.iload_n 2, 1) := ky_dc db_X9_power_46 33 rfl
theorem dc_X9_floor_4 : decode prog_10_method_23_code 4 = .ok (.invokevirtual 112, 3) := ky_dc db_X9_power_46 34 rfl
theorem dc_X9_floor_7 : decode prog_10_method_23_code 7 = .ok (.ireturn, 1) := ky_dc db_X9_power_46 35 rfl
theorem dc_X9_ceil_0 : decode prog_10_method_24_code 0 = .ok (.aload_n 0, 1) := ky_dc db_X9_power_46 36 rfl
theorem dc_X9_ceil_1 : decode prog_10_method_24_code 1 = .ok (.iload_n 1, 1) := ky_dc db_X9_power_46 37 rfl
theorem dc_X9_ceil_2 : decode prog_10_method_24_code 2 = .ok (.iconst 1, 1) := ky_dc db_X9_power_46 38 rfl
theorem dc_X9_ceil_3 : decode prog_10_method_24_code 3 = .ok (.iload_n 2, 1) := ky_dc db_X9_power_46 39 rfl
theorem dc_X9_ceil_4 : decode prog_10_method_24_code 4 = .ok (.invokevirtual 112, 3) := ky_dc db_X9_power_46 40 rfl
theorem dc_X9_ceil_7 : decode prog_10_method_24_code 7 = .ok (.ireturn, 1) := ky_dc db_X9_power_46 41 rfl
theorem dc_X9_rint_0 : decode prog_10_method_25_code 0 = .ok (.aload_n 0, 1) := ky_dc db_X9_power_46 42 rfl
theorem dc_X9_rint_1 : decode prog_10_method_25_code 1 = .ok (.iload_n 1, 1) := ky_dc db_X9_power_46 43 rfl
theorem dc_X9_rint_2 : decode prog_10_method_25_code 2 = .ok (.iconst 2, 1) := ky_dc db_X9_power_46 44 rfl
theorem dc_X9_rint_3 : decode prog_10_method_25_code 3 = .ok (.iload_n 2, 1) := ky_dc db_X9_power_46 45 rfl
theorem dc_X9_rint_4 : decode prog_10_method_25_code 4 = .ok (.invokevirtual 112, 3) := ky_dc db_X9_power_46 46 rfl
theorem dc_X9_rint_7 : decode prog_10_method_25_code 7 = .ok (.ireturn, 1) := ky_dc db_X9_power_46 47 rfl
theorem dc_X9_sign_0 : decode prog_10_method_28_code 0 = .ok (.aload_n 0, 1) := ky_dc db_X9_power_46 48 rfl
theorem dc_X9_sign_1 : decode prog_10_method_28_code 1 = .ok (.aload_n 0, 1) := ky_dc db_X9_power_46 49 rfl
theorem dc_X9_sign_2 : decode prog_10_method_28_code 2 = .ok (.iload_n 1, 1) := ky_dc db_X9_power_46 50 rfl
theorem dc_X9_sign_3 : decode prog_10_method_28_code 3 = .ok (.iload_n 2, 1) := ky_dc db_X9_power_46 51 rfl
theorem dc_X9_sign_4 : decode prog_10_method_28_code 4 = .ok (.invokevirtual 104, 3) := ky_dc db_X9_power_46 52 rfl
theorem dc_X9_sign_7 : decode prog_10_method_28_code 7 = .ok (.invokevirtual 55, 3) := ky_dc db_X9_power_46 53 rfl
theorem dc_X9_sign_10 : decode prog_10_method_28_code 10 = .ok (.ifCond .eq 7, 3) := ky_dc db_X9_power_46 54 rfl
theorem dc_X9_sign_17 : decode prog_10_method_28_code 17 = .ok (.aload_n 0, 1) := ky_dc db_X9_power_46 55 rfl
theorem dc_X9_sign_18 : decode prog_10_method_28_code 18 = .ok (.iload_n 2, 1) := ky_dc db_X9_power_46 56 rfl
theorem dc_X9_sign_19 : decode prog_10_method_28_code 19 = .ok (.aload_n 0, 1) := ky_dc db_X9_power_46 57 rfl
theorem dc_X9_sign_20 : decode prog_10_method_28_code 20 = .ok (.getfield 25, 3) := ky_dc db_X9_power_46 58 rfl
theorem dc_X9_sign_23 : decode prog_10_method_28_code 23 = .ok (.iload_n 1, 1) := ky_dc db_X9_power_46 59 rfl
def dl_X9_sign_24 : List (ByteArray × Nat × Jvm.ClassFile.Instr × Nat) := [(prog_10_method_28_code, 24, .aaload, 1), (prog_10_method_28_code, 25, .invokevirtual 124, 3), (prog_10_method_28_code, 28, .invokevirtual 63, 3), (prog_10_method_28_code, 31, .ireturn, 1), (prog_10_method_28_code, 13, .iconst 0, 1), (prog_10_method_28_code, 14, .goto 17, 3), (prog_10_method_31_code, 0, .aload_n 0, 1), (prog_10_method_31_code, 1, .aload_n 0, 1), (prog_10_method_31_code, 2, .iload_n 1, 1), (prog_10_method_31_code, 3, .iload_n 2, 1), (prog_10_method_31_code, 4, .invokevirtual 104, 3), (prog_10_method_31_code, 7, .invokevirtual 55, 3), (prog_10_method_31_code, 10, .ifCond .eq 7, 3), (prog_10_method_31_code, 17, .aload_n 0, 1), (prog_10_method_31_code, 18, .iload_n 2, 1), (prog_10_method_31_code, 19, .aload_n 0, 1), (prog_10_method_31_code, 20, .getfield 25, 3), (prog_10_method_31_code, 23, .iload_n 1, 1), (prog_10_method_31_code, 24, .aaload, 1), (prog_10_method_31_code, 25, .invokevirtual 134, 3), (prog_10_method_31_code, 28, .invokevirtual 63, 3), (prog_10_method_31_code, 31, .ireturn, 1), (prog_10_method_31_code, 13, .iconst 0, 1), (prog_10_method_31_code, 14, .goto 17, 3), (prog_10_method_32_code, 0, .aload_n 0, 1), (prog_10_method_32_code, 1, .aload_n 0, 1), (prog_10_method_32_code, 2, .iload_n 1, 1), (prog_10_method_32_code, 3, .iload_n 2, 1), (prog_10_method_32_code, 4, .invokevirtual 104, 3), (prog_10_method_32_code, 7, .invokevirtual 55, 3), (prog_10_method_32_code, 10, .ifCond .eq 7, 3), (prog_10_method_32_code, 17, .aload_n 0, 1), (prog_10_method_32_code, 18, .iload_n 2, 1), (prog_10_method_32_code, 19, .aload_n 0, 1), (prog_10_method_32_code, 20, .getfield 25, 3), (prog_10_method_32_code, 23, .iload_n 1, 1), (prog_10_method_32_code, 24, .aaload, 1), (prog_10_method_32_code, 25, .aload_n 0, 1), (prog_10_method_32_code, 26, .getfield 25, 3), (prog_10_method_32_code, 29, .iload_n 1, 1), (prog_10_method_32_code, 30, .aaload, 1), (prog_10_method_32_code, 31, .invokevirtual 137, 3), (prog_10_method_32_code, 34, .ineg, 1), (prog_10_method_32_code, 35, .i2l, 1), (prog_10_method_32_code, 36, .invokevirtual 140, 3), (prog_10_method_32_code, 39, .invokevirtual 63, 3), (prog_10_method_32_code, 42, .ireturn, 1), (prog_10_method_32_code, 13, .iconst 0, 1), (prog_10_method_32_code, 14, .goto 28, 3), (prog_10_method_33_code, 0, .aload_n 0, 1), (prog_10_method_33_code, 1, .aload_n 0, 1), (prog_10_method_33_code, 2, .iload_n 1, 1), (prog_10_method_33_code, 3, .iload_n 3, 1), (prog_10_method_33_code, 4, .invokevirtual 104, 3), (prog_10_method_33_code, 7, .invokevirtual 55, 3), (prog_10_method_33_code, 10, .ifCond .eq 7, 3), (prog_10_method_33_code, 17, .aload_n 0, 1), (prog_10_method_33_code, 18, .iload_n 3, 1), (prog_10_method_33_code, 19, .aload_n 0, 1), (prog_10_method_33_code, 20, .getfield 25, 3)]
theorem db_X9_sign_24 : dl_X9_sign_24.all (fun x => decide (decode x.1 x.2.1 = .ok x.2.2)) = true := by decide +kernel
theorem dc_X9_sign_24 : decode prog_10_method_28_code 24 = .ok (.aaload, 1) := ky_dc db_X9_sign_24 0 rfl
theorem dc_X9_sign_25 : decode prog_10_method_28_code 25 = .ok (.invokevirtual 124, 3) := ky_dc db_X9_sign_24 1 rfl
theorem dc_X9_sign_28 : decode prog_10_method_28_code 28 = .ok (.invokevirtual 63, 3) := ky_dc db_X9_sign_24 2 rfl
theorem dc_X9_sign_31 : decode prog_10_method_28_code 31 = .ok (.ireturn, 1) := ky_dc db_X9_sign_24 3 rfl
theorem dc_X9_sign_13 : decode prog_10_method_28_code 13 = .ok (.iconst 0, 1) := ky_dc db_X9_sign_24 4 rfl
theorem dc_X9_sign_14 : decode prog_10_method_28_code 14 = .ok (.goto 17, 3) := ky_dc db_X9_sign_24 5 rfl
theorem dc_X9_step_0 : decode prog_10_method_31_code 0 = .ok (.aload_n 0, 1) := ky_dc db_X9_sign_24 6 rfl
theorem dc_X9_step_1 : decode prog_10_method_31_code 1 = .ok (.aload_n 0, 1) := ky_dc db_X9_sign_24 7 rfl
theorem dc_X9_step_2 : decode prog_10_method_31_code 2 = .ok (.iload_n 1, 1) := ky_dc db_X9_sign_24 8 rfl
theorem dc_X9_step_3 : decode prog_10_method_31_code 3 = .ok (.iload_n 2, 1) := ky_dc db_X9_sign_24 9 rfl
theorem dc_X9_step_4 : decode prog_10_method_31_code 4 = .ok (.invokevirtual 104, 3) := ky_dc db_X9_sign_24 10 rfl
theorem dc_X9_step_7 : decode prog_10_method_31_code 7 = .ok (.invokevirtual 55, 3) := ky_dc db_X9_sign_24 11 rfl
theorem dc_X9_step_10 : decode prog_10_method_31_code 10 = .ok (.ifCond .eq 7, 3) := ky_dc db_X9_sign_24 12 rfl
theorem dc_X9_step_17 : decode prog_10_method_31_code 17 = .ok (.aload_n 0, 1) := ky_dc db_X9_sign_24 13 rfl
theorem dc_X9_step_18 : decode prog_10_method_31_code 18 = .ok (.iload_n 2, 1) := ky_dc db_X9_sign_24 14 rfl
theorem dc_X9_step_19 : decode prog_10_method_31_code 19 = .ok (.aload_n 0, 1) := ky_dc db_X9_sign_24 15 rfl
theorem dc_X9_step_20 : decode prog_10_method_31_code 20 = .ok (.getfield 25, 3) := ky_dc db_X9_sign_24 16 rfl
theorem dc_X9_step_23 : decode prog_10_method_31_code 23 = .ok (.iload_n 1, 1) := ky_dc db_X9_sign_24 17 rfl
theorem dc_X9_step_24 : decode prog_10_method_31_code 24 = .ok (.aaload, 1) := ky_dc db_X9_sign_24 18 rfl
theorem dc_X9_step_25 : decode prog_10_method_31_code 25 = .ok (.invokevirtual 134, 3) := ky_dc db_X9_sign_24 19 rfl
theorem dc_X9_step_28 : decode prog_10_method_31_code 28 = .ok (.invokevirtual 63, 3) := ky_dc db_X9_sign_24 20 rfl
theorem dc_X9_step_31 : decode prog_10_method_31_code 31 = .ok (.ireturn, 1) := ky_dc db_X9_sign_24 21 rfl
theorem dc_X9_step_13 : decode prog_10_method_31_code 13 = .ok (.iconst 0, 1) := ky_dc db_X9_sign_24 22 rfl
theorem dc_X9_step_14 : decode prog_10_method_31_code 14 = .ok (.goto 17, 3) := ky_dc db_X9_sign_24 23 rfl
theorem dc_X9_unit_0 : decode prog_10_method_32_code 0 = .ok (.aload_n 0, 1) := ky_dc db_X9_sign_24 24 rfl
theorem dc_X9_unit_1 : decode prog_10_method_32_code 1 = .ok (.aload_n 0, 1) := ky_dc db_X9_sign_24 25 rfl
theorem dc_X9_unit_2 : decode prog_10_method_32_code 2 = .ok (.iload_n 1, 1) := ky_dc db_X9_sign_24 26 rfl
theorem dc_X9_unit_3 : decode prog_10_method_32_code 3 = .ok (.iload_n 2, 1) := ky_dc db_X9_sign_24 27 rfl
theorem dc_X9_unit_4 : decode prog_10_method_32_code 4 = .ok (.invokevirtual 104, 3) := ky_dc db_X9_sign_24 28 rfl
theorem dc_X9_unit_7 : decode prog_10_method_32_code 7 = .ok (.invokevirtual 55, 3) := ky_dc db_X9_sign_24 29 rfl
theorem dc_X9_unit_10 : decode prog_10_method_32_code 10 = .ok (.ifCond .eq 7, 3) := ky_dc db_X9_sign_24 30 rfl
theorem dc_X9_unit_17 : decode prog_10_method_32_code 17 = .ok (.aload_n 0, 1) := ky_dc db_X9_sign_24 31 rfl
theorem dc_X9_unit_18 : decode prog_10_method_32_code 18 = .ok (.iload_n 2, 1) := ky_dc db_X9_sign_24 32 rfl
theorem dc_X9_unit_19 : decode prog_10_method_32_code 19 = .ok (.aload_n 0, 1) := ky_dc db_X9_sign_24 33 rfl
theorem dc_X9_unit_20 : decode prog_10_method_32_code 20 = .ok (.getfield 25, 3) := ky_dc db_X9_sign_24 34 rfl
theorem dc_X9_unit_23 : decode prog_10_method_32_code 23 = .ok (.iload_n 1, 1) := ky_dc db_X9_sign_24 35 rfl
theorem dc_X9_unit_24 : decode prog_10_method_32_code 24 = .ok (.aaload, 1) := ky_dc db_X9_sign_24 36 rfl
theorem dc_X9_unit_25 : decode prog_10_method_32_code 25 = .ok (.aload_n 0, 1) := ky_dc db_X9_sign_24 37 rfl
theorem dc_X9_unit_26 : decode prog_10_method_32_code 26 = .ok (.getfield 25, 3) := ky_dc db_X9_sign_24 38 rfl
theorem dc_X9_unit_29 : decode prog_10_method_32_code 29 = .ok (.iload_n 1, 1) := ky_dc db_X9_sign_24 39 rfl
theorem dc_X9_unit_30 : decode prog_10_method_32_code 30 = .ok (.aaload, 1) := ky_dc db_X9_sign_24 40 rfl
theorem dc_X9_unit_31 : decode prog_10_method_32_code 31 = .ok (.invokevirtual 137, 3) := ky_dc db_X9_sign_24 41 rfl
theorem dc_X9_unit_34 : decode prog_10_method_32_code 34 = .ok (.ineg, 1) := ky_dc db_X9_sign_24 42 rfl
theorem dc_X9_unit_35 : decode prog_10_method_32_code 35 = .ok (.i2l, 1) := ky_dc db_X9_sign_24 43 rfl
theorem dc_X9_unit_36 : decode prog_10_method_32_code 36 = .ok (.invokevirtual 140, 3) := ky_dc db_X9_sign_24 44 rfl
theorem dc_X9_unit_39 : decode prog_10_method_32_code 39 = .ok (.invokevirtual 63, 3) := ky_dc db_X9_sign_24 45 rfl
theorem dc_X9_unit_42 : decode prog_10_method_32_code 42 = .ok (.ireturn, 1) := ky_dc db_X9_sign_24 46 rfl
theorem dc_X9_unit_13 : decode prog_10_method_32_code 13 = .ok (.iconst 0, 1) := ky_dc db_X9_sign_24 47 rfl
theorem dc_X9_unit_14 : decode prog_10_method_32_code 14 = .ok (.goto 28, 3) := ky_dc db_X9_sign_24 48 rfl
theorem dc_X9_times_0 : decode prog_10_method_33_code 0 = .ok (.aload_n 0, 1) := ky_dc db_X9_sign_24 49 rfl
theorem dc_X9_times_1 : decode prog_10_method_33_code 1 = .ok (.aload_n 0, 1) := ky_dc db_X9_sign_24 50 rfl
theorem dc_X9_times_2 : decode prog_10_method_33_code 2 = .ok (.iload_n 1, 1) := ky_dc db_X9_sign_24 51 rfl
theorem dc_X9_times_3 : decode prog_10_method_33_code 3 = .ok (.iload_n 3, 1) := ky_dc db_X9_sign_24 52 rfl
theorem dc_X9_times_4 : decode prog_10_method_33_code 4 = .ok (.invokevirtual 104, 3) := ky_dc db_X9_sign_24 53 rfl
theorem dc_X9_times_7 : decode prog_10_method_33_code 7 = .ok (.invokevirtual 55, 3) := ky_dc db_X9_sign_24 54 rfl
theorem dc_X9_times_10 : decode prog_10_method_33_code 10 = .ok (.ifCond .eq 7, 3) := ky_dc db_X9_sign_24 55 rfl
theorem dc_X9_times_17 : decode prog_10_method_33_code 17 = .ok (.aload_n 0, 1) := ky_dc db_X9_sign_24 56 rfl
theorem dc_X9_times_18 : decode prog_10_method_33_code 18 = .ok (.iload_n 3, 1) := ky_dc db_X9_sign_24 57 rfl
theorem dc_X9_times_19 : decode prog_10_method_33_code 19 = .ok (.aload_n 0, 1) := ky_dc db_X9_sign_24 58 rfl
theorem dc_X9_times_20 : decode prog_10_method_33_code 20 = .ok (.getfield 25, 3) := ky_dc db_X9_sign_24 59 rfl
def dl_X9_times_23 : List (ByteArray × Nat × Jvm.ClassFile.Instr × Nat) := [(prog_10_method_33_code, 23, .iload_n 1, 1), (prog_10_method_33_code, 24, .aaload, 1), (prog_10_method_33_code, 25, .iload_n 2, 1), (prog_10_method_33_code, 26, .i2l, 1), (prog_10_method_33_code, 27, .invokevirtual 140, 3), (prog_10_method_33_code, 30, .invokevirtual 63, 3), (prog_10_method_33_code, 33, .ireturn, 1), (prog_10_method_33_code, 13, .iconst 0, 1), (prog_10_method_33_code, 14, .goto 19, 3), (prog_10_method_36_code, 0, .aload_n 0, 1), (prog_10_method_36_code, 1, .aload_n 0, 1), (prog_10_method_36_code, 2, .iload_n 1, 1), (prog_10_method_36_code, 3, .iload_n 2, 1), (prog_10_method_36_code, 4, .invokevirtual 104, 3), (prog_10_method_36_code, 7, .ifCond .ne 10, 3), (prog_10_method_36_code, 17, .iconst 1, 1), (prog_10_method_36_code, 18, .goto 4, 3), (prog_10_method_36_code, 22, .invokevirtual 55, 3), (prog_10_method_36_code, 25, .ifCond .eq 7, 3), (prog_10_method_36_code, 28, .iconst 0, 1), (prog_10_method_36_code, 29, .goto 15, 3), (prog_10_method_36_code, 44, .ireturn, 1), (prog_10_method_36_code, 10, .iload_n 3, 1), (prog_10_method_36_code, 11, .invokestatic 51, 3), (prog_10_method_36_code, 14, .ifCond .eq 7, 3), (prog_10_method_36_code, 21, .iconst 0, 1), (prog_10_method_36_code, 32, .aload_n 0, 1), (prog_10_method_36_code, 33, .iload_n 3, 1), (prog_10_method_36_code, 34, .aload_n 0, 1), (prog_10_method_36_code, 35, .iload_n 1, 1), (prog_10_method_36_code, 36, .iload_n 2, 1), (prog_10_method_36_code, 37, .iconst 1, 1), (prog_10_method_36_code, 38, .invokevirtual 151, 3), (prog_10_method_36_code, 41, .invokevirtual 63, 3), (prog_10_method_37_code, 0, .aload_n 0, 1), (prog_10_method_37_code, 1, .aload_n 0, 1), (prog_10_method_37_code, 2, .iload_n 1, 1), (prog_10_method_37_code, 3, .iload_n 2, 1), (prog_10_method_37_code, 4, .invokevirtual 104, 3), (prog_10_method_37_code, 7, .ifCond .ne 10, 3), (prog_10_method_37_code, 17, .iconst 1, 1), (prog_10_method_37_code, 18, .goto 4, 3), (prog_10_method_37_code, 22, .invokevirtual 55, 3), (prog_10_method_37_code, 25, .ifCond .eq 7, 3), (prog_10_method_37_code, 28, .iconst 0, 1), (prog_10_method_37_code, 29, .goto 15, 3), (prog_10_method_37_code, 44, .ireturn, 1), (prog_10_method_37_code, 10, .iload_n 3, 1), (prog_10_method_37_code, 11, .invokestatic 51, 3), (prog_10_method_37_code, 14, .ifCond .eq 7, 3), (prog_10_method_37_code, 21, .iconst 0, 1), (prog_10_method_37_code, 32, .aload_n 0, 1), (prog_10_method_37_code, 33, .iload_n 3, 1), (prog_10_method_37_code, 34, .aload_n 0, 1), (prog_10_method_37_code, 35, .iload_n 1, 1), (prog_10_method_37_code, 36, .iload_n 2, 1), (prog_10_method_37_code, 37, .iconst 0, 1), (prog_10_method_37_code, 38, .invokevirtual 151, 3), (prog_10_method_37_code, 41, .invokevirtual 63, 3), (prog_10_method_40_code, 0, .aload_n 0, 1)]
theorem db_X9_times_23 : dl_X9_times_23.all (fun x => decide (decode x.1 x.2.1 = .ok x.2.2)) = true := by decide +kernel
theorem dc_X9_times_23 : decode prog_10_method_33_code 23 = .ok (.iload_n 1, 1) := ky_dc db_X9_times_23 0 rfl
theorem dc_X9_times_24 : decode prog_10_method_33_code 24 = .ok (.aaload, 1) := ky_dc db_X9_times_23 1 rfl
theorem dc_X9_times_25 : decode prog_10_method_33_code 25 = .ok (.iload_n 2, 1) := ky_dc db_X9_times_23 2 rfl
theorem dc_X9_times_26 : decode prog_10_method_33_code 26 = .ok (.i2l, 1) := ky_dc db_X9_times_23 3 rfl
theorem dc_X9_times_27 : decode prog_10_method_33_code 27 = .ok (.invokevirtual 140, 3) := ky_dc db_X9_times_23 4 rfl
theorem dc_X9_times_30 : decode prog_10_method_33_code 30 = .ok (.invokevirtual 63, 3) := ky_dc db_X9_times_23 5 rfl
theorem dc_X9_times_33 : decode prog_10_method_33_code 33 = .ok (.ireturn, 1) := ky_dc db_X9_times_23 6 rfl
theorem dc_X9_times_13 : decode prog_10_method_33_code 13 = .ok (.iconst 0, 1) := ky_dc db_X9_times_23 7 rfl
theorem dc_X9_times_14 : decode prog_10_method_33_code 14 = .ok (.goto 19, 3) := ky_dc db_X9_times_23 8 rfl
theorem dc_X9_max_0 : decode prog_10_method_36_code 0 = .ok (.aload_n 0, 1) := ky_dc db_X9_times_23 9 rfl
theorem dc_X9_max_1 : decode prog_10_method_36_code 1 = .ok (.aload_n 0, 1) := ky_dc db_X9_times_23 10 rfl
theorem dc_X9_max_2 : decode prog_10_method_36_code 2 = .ok (.iload_n 1, 1) := ky_dc db_X9_times_23 11 rfl
theorem dc_X9_max_3 : decode prog_10_method_36_code 3 = .ok (.iload_n 2, 1) := ky_dc db_X9_times_23 12 rfl
theorem dc_X9_max_4 : decode prog_10_method_36_code 4 = .ok (.invokevirtual 104, 3) := ky_dc db_X9_times_23 13 rfl
theorem dc_X9_max_7 : decode prog_10_method_36_code 7 = .ok (.ifCond .ne 10, 3) := ky_dc db_X9_times_23 14 rfl
theorem dc_X9_max_17 : decode prog_10_method_36_code 17 = .ok (.iconst 1, 1) := ky_dc db_X9_times_23 15 rfl
theorem dc_X9_max_18 : decode prog_10_method_36_code 18 = .ok (.goto 4, 3) := ky_dc db_X9_times_23 16 rfl
theorem dc_X9_max_22 : decode prog_10_method_36_code 22 = .ok (.invokevirtual 55, 3) := ky_dc db_X9_times_23 17 rfl
theorem dc_X9_max_25 : decode prog_10_method_36_code 25 = .ok (.ifCond .eq 7, 3) := ky_dc db_X9_times_23 18 rfl
theorem dc_X9_max_28 : decode prog_10_method_36_code 28 = .ok (.iconst 0, 1) := ky_dc db_X9_times_23 19 rfl
theorem dc_X9_max_29 : decode prog_10_method_36_code 29 = .ok (.goto 15, 3) := ky_dc db_X9_times_23 20 rfl
theorem dc_X9_max_44 : decode prog_10_method_36_code 44 = .ok (.ireturn, 1) := ky_dc db_X9_times_23 21 rfl
theorem dc_X9_max_10 : decode prog_10_method_36_code 10 = .ok (.iload_n 3, 1) := ky_dc db_X9_times_23 22 rfl
theorem dc_X9_max_11 : decode prog_10_method_36_code 11 = .ok (.invokestatic 51, 3) := ky_dc db_X9_times_23 23 rfl
theorem dc_X9_max_14 : decode prog_10_method_36_code 14 = .ok (.ifCond .eq 7, 3) := ky_dc db_X9_times_23 24 rfl
theorem dc_X9_max_21 : decode prog_10_method_36_code 21 = .ok (.iconst 0, 1) := ky_dc db_X9_times_23 25 rfl
theorem dc_X9_max_32 : decode prog_10_method_36_code 32 = .ok (.aload_n 0, 1) := ky_dc db_X9_times_23 26 rfl
theorem dc_X9_max_33 : decode prog_10_method_36_code 33 = .ok (.iload_n 3, 1) := ky_dc db_X9_times_23 27 rfl
theorem dc_X9_max_34 : decode prog_10_method_36_code 34 = .ok (.aload_n 0, 1) := ky_dc db_X9_times_23 28 rfl
theorem dc_X9_max_35 : decode prog_10_method_36_code 35 = .ok (.iload_n 1, 1) := ky_dc db_X9_times_23 29 rfl
theorem dc_X9_max_36 : decode prog_10_method_36_code 36 = .ok (.iload_n 2, 1) := ky_dc db_X9_times_23 30 rfl
theorem dc_X9_max_37 : decode prog_10_method_36_code 37 = .ok (.iconst 1, 1) := ky_dc db_X9_times_23 31 rfl
theorem dc_X9_max_38 : decode prog_10_method_36_code 38 = .ok (.invokevirtual 151, 3) := ky_dc db_X9_times_23 32 rfl
theorem dc_X9_max_41 : decode prog_10_method_36_code 41 = .ok (.invokevirtual 63, 3) := ky_dc db_X9_times_23 33 rfl
theorem dc_X9_min_0 : decode prog_10_method_37_code 0 = .ok (.aload_n 0, 1) := ky_dc db_X9_times_23 34 rfl
theorem dc_X9_min_1 : decode prog_10_method_37_code 1 = .ok (.aload_n 0, 1) := ky_dc db_X9_times_23 35 rfl
theorem dc_X9_min_2 : decode prog_10_method_37_code 2 = .ok (.iload_n 1, 1) := ky_dc db_X9_times_23 36 rfl
theorem dc_X9_min_3 : decode prog_10_method_37_code 3 = .ok (.iload_n 2, 1) := ky_dc db_X9_times_23 37 rfl
theorem dc_X9_min_4 : decode prog_10_method_37_code 4 = .ok (.invokevirtual 104, 3) := ky_dc db_X9_times_23 38 rfl
theorem dc_X9_min_7 : decode prog_10_method_37_code 7 = .ok (.ifCond .ne 10, 3) := ky_dc db_X9_times_23 39 rfl
theorem dc_X9_min_17 : decode prog_10_method_37_code 17 = .ok (.iconst 1, 1) := ky_dc db_X9_times_23 40 rfl
theorem dc_X9_min_18 : decode prog_10_method_37_code 18 = .ok (.goto 4, 3) := ky_dc db_X9_times_23 41 rfl
theorem dc_X9_min_22 : decode prog_10_method_37_code 22 = .ok (.invokevirtual 55, 3) := ky_dc db_X9_times_23 42 rfl
theorem dc_X9_min_25 : decode prog_10_method_37_code 25 = .ok (.ifCond .eq 7, 3) := ky_dc db_X9_times_23 43 rfl
theorem dc_X9_min_28 : decode prog_10_method_37_code 28 = .ok (.iconst 0, 1) := ky_dc db_X9_times_23 44 rfl
theorem dc_X9_min_29 : decode prog_10_method_37_code 29 = .ok (.goto 15, 3) := ky_dc db_X9_times_23 45 rfl
theorem dc_X9_min_44 : decode prog_10_method_37_code 44 = .ok (.ireturn, 1) := ky_dc db_X9_times_23 46 rfl
theorem dc_X9_min_10 : decode prog_10_method_37_code 10 = .ok (.iload_n 3, 1) := ky_dc db_X9_times_23 47 rfl
theorem dc_X9_min_11 : decode prog_10_method_37_code 11 = .ok (.invokestatic 51, 3) := ky_dc db_X9_times_23 48 rfl
theorem dc_X9_min_14 : decode prog_10_method_37_code 14 = .ok (.ifCond .eq 7, 3) := ky_dc db_X9_times_23 49 rfl
theorem dc_X9_min_21 : decode prog_10_method_37_code 21 = .ok (.iconst 0, 1) := ky_dc db_X9_times_23 50 rfl
theorem dc_X9_min_32 : decode prog_10_method_37_code 32 = .ok (.aload_n 0, 1) := ky_dc db_X9_times_23 51 rfl
theorem dc_X9_min_33 : decode prog_10_method_37_code 33 = .ok (.iload_n 3, 1) := ky_dc db_X9_times_23 52 rfl
theorem dc_X9_min_34 : decode prog_10_method_37_code 34 = .ok (.aload_n 0, 1) := ky_dc db_X9_times_23 53 rfl
theorem dc_X9_min_35 : decode prog_10_method_37_code 35 = .ok (.iload_n 1, 1) := ky_dc db_X9_times_23 54 rfl
theorem dc_X9_min_36 : decode prog_10_method_37_code 36 = .ok (.iload_n 2, 1) := ky_dc db_X9_times_23 55 rfl
theorem dc_X9_min_37 : decode prog_10_method_37_code 37 = .ok (.iconst 0, 1) := ky_dc db_X9_times_23 56 rfl
theorem dc_X9_min_38 : decode prog_10_method_37_code 38 = .ok (.invokevirtual 151, 3) := ky_dc db_X9_times_23 57 rfl
theorem dc_X9_min_41 : decode prog_10_method_37_code 41 = .ok (.invokevirtual 63, 3) := ky_dc db_X9_times_23 58 rfl
theorem dc_X9_digit_0 : decode prog_10_method_40_code 0 = .ok (.aload_n 0, 1) := ky_dc db_X9_times_23 59 rfl
def dl_X9_digit_1 : List (ByteArray × Nat × Jvm.ClassFile.Instr × Nat) := [(prog_10_method_40_code, 1, .getfield 25, 3), (prog_10_method_40_code, 4, .iload_n 1, 1), (prog_10_method_40_code, 5, .aaload, 1), (prog_10_method_40_code, 6, .astore_n 3, 1), (prog_10_method_40_code, 7, .iload_n 2, 1), (prog_10_method_40_code, 8, .iconst 2, 1), (prog_10_method_40_code, 9, .if_icmp .ge 19, 3), (prog_10_method_40_code, 28, .iload_n 2, 1), (prog_10_method_40_code, 29, .iconst 2, 1), (prog_10_method_40_code, 30, .if_icmp .ne 14, 3), (prog_10_method_40_code, 44, .aload_n 3, 1), (prog_10_method_40_code, 45, .invokevirtual 164, 3), (prog_10_method_40_code, 48, .l2i, 1), (prog_10_method_40_code, 49, .ireturn, 1), (prog_10_method_40_code, 33, .aload_n 3, 1), (prog_10_method_40_code, 34, .invokevirtual 164, 3), (prog_10_method_40_code, 37, .bipush 32, 2), (prog_10_method_40_code, 39, .lshr, 1), (prog_10_method_40_code, 40, .l2i, 1), (prog_10_method_40_code, 41, .goto 8, 3), (prog_10_method_40_code, 12, .iload_n 2, 1), (prog_10_method_40_code, 13, .ifCond .ne 10, 3), (prog_10_method_40_code, 23, .aload_n 3, 1), (prog_10_method_40_code, 24, .invokevirtual 161, 3), (prog_10_method_40_code, 27, .ireturn, 1), (prog_10_method_40_code, 16, .aload_n 3, 1), (prog_10_method_40_code, 17, .getfield 144, 3), (prog_10_method_40_code, 20, .goto 7, 3), (prog_10_method_41_code, 0, .aload_n 0, 1), (prog_10_method_41_code, 1, .iload_n 1, 1), (prog_10_method_41_code, 2, .invokestatic 51, 3), (prog_10_method_41_code, 5, .invokevirtual 55, 3), (prog_10_method_41_code, 8, .ifCond .ne 25, 3), (prog_10_method_41_code, 33, .iconst 0, 1), (prog_10_method_41_code, 34, .goto 9, 3), (prog_10_method_41_code, 43, .ireturn, 1), (prog_10_method_41_code, 11, .aload_n 0, 1), (prog_10_method_41_code, 12, .iload_n 2, 1), (prog_10_method_41_code, 13, .iconst 0, 1), (prog_10_method_41_code, 14, .iconst 3, 1), (prog_10_method_41_code, 15, .invokestatic 40, 3), (prog_10_method_41_code, 18, .ifCond .ne 7, 3), (prog_10_method_41_code, 25, .iconst 0, 1), (prog_10_method_41_code, 26, .iconst 2, 1), (prog_10_method_41_code, 27, .invokevirtual 36, 3), (prog_10_method_41_code, 30, .ifCond .eq 7, 3), (prog_10_method_41_code, 37, .aload_n 0, 1), (prog_10_method_41_code, 38, .iload_n 1, 1), (prog_10_method_41_code, 39, .iload_n 2, 1), (prog_10_method_41_code, 40, .invokevirtual 167, 3), (prog_10_method_41_code, 21, .iconst 1, 1), (prog_10_method_41_code, 22, .goto 4, 3), (prog_10_method_44_code, 0, .aload_n 0, 1), (prog_10_method_44_code, 1, .getfield 25, 3), (prog_10_method_44_code, 4, .iload_n 1, 1), (prog_10_method_44_code, 5, .aaload, 1), (prog_10_method_44_code, 6, .iconst 0, 1), (prog_10_method_44_code, 7, .invokevirtual 177, 3), (prog_10_method_44_code, 10, .iload_n 2, 1), (prog_10_method_44_code, 11, .ifCond .eq 8, 3)]
theorem db_X9_digit_1 : dl_X9_digit_1.all (fun x => decide (decode x.1 x.2.1 = .ok x.2.2)) = true := by decide +kernel
theorem dc_X9_digit_1 : decode prog_10_method_40_code 1 = .ok (.getfield 25, 3) := ky_dc db_X9_digit_1 0 rfl
theorem dc_X9_digit_4 : decode prog_10_method_40_code 4 = .ok (.iload_n 1, 1) := ky_dc db_X9_digit_1 1 rfl
theorem dc_X9_digit_5 : decode prog_10_method_40_code 5 = .ok (.aaload, 1) := ky_dc db_X9_digit_1 2 rfl
theorem dc_X9_digit_6 : decode prog_10_method_40_code 6 = .ok (.astore_n 3, 1) := ky_dc db_X9_digit_1 3 rfl
theorem dc_X9_digit_7 : decode prog_10_method_40_code 7 = .ok (.iload_n 2, 1) := ky_dc db_X9_digit_1 4 rfl
theorem dc_X9_digit_8 : decode prog_10_method_40_code 8 = .ok (.iconst 2, 1) := ky_dc db_X9_digit_1 5 rfl
theorem dc_X9_digit_9 : decode prog_10_method_40_code 9 = .ok (.if_icmp .ge 19, 3) := ky_dc db_X9_digit_1 6 rfl
theorem dc_X9_digit_28 : decode prog_10_method_40_code 28 = .ok (.iload_n 2, 1) := ky_dc db_X9_digit_1 7 rfl
theorem dc_X9_digit_29 : decode prog_10_method_40_code 29 = .ok (.iconst 2, 1) := ky_dc db_X9_digit_1 8 rfl
theorem dc_X9_digit_30 : decode prog_10_method_40_code 30 = .ok (.if_icmp .ne 14, 3) := ky_dc db_X9_digit_1 9 rfl
theorem dc_X9_digit_44 : decode prog_10_method_40_code 44 = .ok (.aload_n 3, 1) := ky_dc db_X9_digit_1 10 rfl
theorem dc_X9_digit_45 : decode prog_10_method_40_code 45 = .ok (.invokevirtual 164, 3) := ky_dc db_X9_digit_1 11 rfl
theorem dc_X9_digit_48 : decode prog_10_method_40_code 48 = .ok (.l2i, 1) := ky_dc db_X9_digit_1 12 rfl
theorem dc_X9_digit_49 : decode prog_10_method_40_code 49 = .ok (.ireturn, 1) := ky_dc db_X9_digit_1 13 rfl
theorem dc_X9_digit_33 : decode prog_10_method_40_code 33 = .ok (.aload_n 3, 1) := ky_dc db_X9_digit_1 14 rfl
theorem dc_X9_digit_34 : decode prog_10_method_40_code 34 = .ok (.invokevirtual 164, 3) := ky_dc db_X9_digit_1 15 rfl
theorem dc_X9_digit_37 : decode prog_10_method_40_code 37 = .ok (.bipush 32, 2) := ky_dc db_X9_digit_1 16 rfl
theorem dc_X9_digit_39 : decode prog_10_method_40_code 39 = .ok (.lshr, 1) := ky_dc db_X9_digit_1 17 rfl
theorem dc_X9_digit_40 : decode prog_10_method_40_code 40 = .ok (.l2i, 1) := ky_dc db_X9_digit_1 18 rfl
theorem dc_X9_digit_41 : decode prog_10_method_40_code 41 = .ok (.goto 8, 3) := ky_dc db_X9_digit_1 19 rfl
theorem dc_X9_digit_12 : decode prog_10_method_40_code 12 = .ok (.iload_n 2, 1) := ky_dc db_X9_digit_1 20 rfl
theorem dc_X9_digit_13 : decode prog_10_method_40_code 13 = .ok (.ifCond .ne 10, 3) := ky_dc db_X9_digit_1 21 rfl
theorem dc_X9_digit_23 : decode prog_10_method_40_code 23 = .ok (.aload_n 3, 1) := ky_dc db_X9_digit_1 22 rfl
theorem dc_X9_digit_24 : decode prog_10_method_40_code 24 = .ok (.invokevirtual 161, 3) := ky_dc db_X9_digit_1 23 rfl
theorem dc_X9_digit_27 : decode prog_10_method_40_code 27 = .ok (.ireturn, 1) := ky_dc db_X9_digit_1 24 rfl
theorem dc_X9_digit_16 : decode prog_10_method_40_code 16 = .ok (.aload_n 3, 1) := ky_dc db_X9_digit_1 25 rfl
theorem dc_X9_digit_17 : decode prog_10_method_40_code 17 = .ok (.getfield 144, 3) := ky_dc db_X9_digit_1 26 rfl
theorem dc_X9_digit_20 : decode prog_10_method_40_code 20 = .ok (.goto 7, 3) := ky_dc db_X9_digit_1 27 rfl
theorem dc_X9_digits_0 : decode prog_10_method_41_code 0 = .ok (.aload_n 0, 1) := ky_dc db_X9_digit_1 28 rfl
theorem dc_X9_digits_1 : decode prog_10_method_41_code 1 = .ok (.iload_n 1, 1) := ky_dc db_X9_digit_1 29 rfl
theorem dc_X9_digits_2 : decode prog_10_method_41_code 2 = .ok (.invokestatic 51, 3) := ky_dc db_X9_digit_1 30 rfl
theorem dc_X9_digits_5 : decode prog_10_method_41_code 5 = .ok (.invokevirtual 55, 3) := ky_dc db_X9_digit_1 31 rfl
theorem dc_X9_digits_8 : decode prog_10_method_41_code 8 = .ok (.ifCond .ne 25, 3) := ky_dc db_X9_digit_1 32 rfl
theorem dc_X9_digits_33 : decode prog_10_method_41_code 33 = .ok (.iconst 0, 1) := ky_dc db_X9_digit_1 33 rfl
theorem dc_X9_digits_34 : decode prog_10_method_41_code 34 = .ok (.goto 9, 3) := ky_dc db_X9_digit_1 34 rfl
theorem dc_X9_digits_43 : decode prog_10_method_41_code 43 = .ok (.ireturn, 1) := ky_dc db_X9_digit_1 35 rfl
theorem dc_X9_digits_11 : decode prog_10_method_41_code 11 = .ok (.aload_n 0, 1) := ky_dc db_X9_digit_1 36 rfl
theorem dc_X9_digits_12 : decode prog_10_method_41_code 12 = .ok (.iload_n 2, 1) := ky_dc db_X9_digit_1 37 rfl
theorem dc_X9_digits_13 : decode prog_10_method_41_code 13 = .ok (.iconst 0, 1) := ky_dc db_X9_digit_1 38 rfl
theorem dc_X9_digits_14 : decode prog_10_method_41_code 14 = .ok (.iconst 3, 1) := ky_dc db_X9_digit_1 39 rfl
theorem dc_X9_digits_15 : decode prog_10_method_41_code 15 = .ok (.invokestatic 40, 3) := ky_dc db_X9_digit_1 40 rfl
theorem dc_X9_digits_18 : decode prog_10_method_41_code 18 = .ok (.ifCond .ne 7, 3) := ky_dc db_X9_digit_1 41 rfl
theorem dc_X9_digits_25 : decode prog_10_method_41_code 25 = .ok (.iconst 0, 1) := ky_dc db_X9_digit_1 42 rfl
theorem dc_X9_digits_26 : decode prog_10_method_41_code 26 = .ok (.iconst 2, 1) := ky_dc db_X9_digit_1 43 rfl
theorem dc_X9_digits_27 : decode prog_10_method_41_code 27 = .ok (.invokevirtual 36, 3) := ky_dc db_X9_digit_1 44 rfl
theorem dc_X9_digits_30 : decode prog_10_method_41_code 30 = .ok (.ifCond .eq 7, 3) := ky_dc db_X9_digit_1 45 rfl
theorem dc_X9_digits_37 : decode prog_10_method_41_code 37 = .ok (.aload_n 0, 1) := ky_dc db_X9_digit_1 46 rfl
theorem dc_X9_digits_38 : decode prog_10_method_41_code 38 = .ok (.iload_n 1, 1) := ky_dc db_X9_digit_1 47 rfl
theorem dc_X9_digits_39 : decode prog_10_method_41_code 39 = .ok (.iload_n 2, 1) := ky_dc db_X9_digit_1 48 rfl
theorem dc_X9_digits_40 : decode prog_10_method_41_code 40 = .ok (.invokevirtual 167, 3) := ky_dc db_X9_digit_1 49 rfl
theorem dc_X9_digits_21 : decode prog_10_method_41_code 21 = .ok (.iconst 1, 1) := ky_dc db_X9_digit_1 50 rfl
theorem dc_X9_digits_22 : decode prog_10_method_41_code 22 = .ok (.goto 4, 3) := ky_dc db_X9_digit_1 51 rfl
theorem dc_X9_part_0 : decode prog_10_method_44_code 0 = .ok (.aload_n 0, 1) := ky_dc db_X9_digit_1 52 rfl
theorem dc_X9_part_1 : decode prog_10_method_44_code 1 = .ok (.getfield 25, 3) := ky_dc db_X9_digit_1 53 rfl
theorem dc_X9_part_4 : decode prog_10_method_44_code 4 = .ok (.iload_n 1, 1) := ky_dc db_X9_digit_1 54 rfl
theorem dc_X9_part_5 : decode prog_10_method_44_code 5 = .ok (.aaload, 1) := ky_dc db_X9_digit_1 55 rfl
theorem dc_X9_part_6 : decode prog_10_method_44_code 6 = .ok (.iconst 0, 1) := ky_dc db_X9_digit_1 56 rfl
theorem dc_X9_part_7 : decode prog_10_method_44_code 7 = .ok (.invokevirtual 177, 3) := ky_dc db_X9_digit_1 57 rfl
theorem dc_X9_part_10 : decode prog_10_method_44_code 10 = .ok (.iload_n 2, 1) := ky_dc db_X9_digit_1 58 rfl
theorem dc_X9_part_11 : decode prog_10_method_44_code 11 = .ok (.ifCond .eq 8, 3) := ky_dc db_X9_digit_1 59 rfl
def dl_X9_part_19 : List (ByteArray × Nat × Jvm.ClassFile.Instr × Nat) := [(prog_10_method_44_code, 19, .iconst 0, 1), (prog_10_method_44_code, 20, .lshr, 1), (prog_10_method_44_code, 21, .l2i, 1), (prog_10_method_44_code, 22, .ireturn, 1), (prog_10_method_44_code, 14, .bipush 32, 2), (prog_10_method_44_code, 16, .goto 4, 3), (prog_10_method_45_code, 0, .aload_n 0, 1), (prog_10_method_45_code, 1, .iload_n 1, 1), (prog_10_method_45_code, 2, .invokestatic 51, 3), (prog_10_method_45_code, 5, .invokevirtual 55, 3), (prog_10_method_45_code, 8, .ifCond .eq 7, 3), (prog_10_method_45_code, 15, .aload_n 0, 1), (prog_10_method_45_code, 16, .iload_n 1, 1), (prog_10_method_45_code, 17, .iload_n 2, 1), (prog_10_method_45_code, 18, .invokevirtual 181, 3), (prog_10_method_45_code, 21, .ireturn, 1), (prog_10_method_45_code, 11, .iconst 0, 1), (prog_10_method_45_code, 12, .goto 9, 3), (prog_10_method_49_code, 0, .ldc2_w 204, 3), (prog_10_method_49_code, 3, .ldc2_w 206, 3), (prog_10_method_49_code, 6, .aload_n 0, 1), (prog_10_method_49_code, 7, .getfield 25, 3), (prog_10_method_49_code, 10, .iload_n 1, 1), (prog_10_method_49_code, 11, .aaload, 1), (prog_10_method_49_code, 12, .iconst 1, 1), (prog_10_method_49_code, 13, .invokevirtual 177, 3), (prog_10_method_49_code, 16, .invokestatic 208, 3), (prog_10_method_49_code, 19, .invokestatic 211, 3), (prog_10_method_49_code, 22, .l2i, 1), (prog_10_method_49_code, 23, .ireturn, 1), (prog_10_method_50_code, 0, .aload_n 0, 1), (prog_10_method_50_code, 1, .iload_n 1, 1), (prog_10_method_50_code, 2, .invokestatic 51, 3), (prog_10_method_50_code, 5, .invokevirtual 55, 3), (prog_10_method_50_code, 8, .ifCond .eq 7, 3), (prog_10_method_50_code, 15, .aload_n 0, 1), (prog_10_method_50_code, 16, .iload_n 1, 1), (prog_10_method_50_code, 17, .invokevirtual 214, 3), (prog_10_method_50_code, 20, .ireturn, 1), (prog_10_method_50_code, 11, .iconst 0, 1), (prog_10_method_50_code, 12, .goto 8, 3), (prog_10_method_53_code, 0, .aload_n 0, 1), (prog_10_method_53_code, 1, .getfield 25, 3), (prog_10_method_53_code, 4, .iload_n 1, 1), (prog_10_method_53_code, 5, .aaload, 1), (prog_10_method_53_code, 6, .invokevirtual 147, 3), (prog_10_method_53_code, 9, .aload_n 0, 1), (prog_10_method_53_code, 10, .getfield 25, 3), (prog_10_method_53_code, 13, .iload_n 2, 1), (prog_10_method_53_code, 14, .aaload, 1), (prog_10_method_53_code, 15, .invokevirtual 147, 3), (prog_10_method_53_code, 18, .invokestatic 228, 3), (prog_10_method_53_code, 21, .ireturn, 1), (prog_10_method_54_code, 0, .aload_n 0, 1), (prog_10_method_54_code, 1, .aload_n 0, 1), (prog_10_method_54_code, 2, .iload_n 1, 1), (prog_10_method_54_code, 3, .iload_n 2, 1), (prog_10_method_54_code, 4, .invokevirtual 104, 3), (prog_10_method_54_code, 7, .invokevirtual 55, 3), (prog_10_method_54_code, 10, .ifCond .eq 7, 3)]
theorem db_X9_part_19 : dl_X9_part_19.all (fun x => decide (decode x.1 x.2.1 = .ok x.2.2)) = true := by decide +kernel
theorem dc_X9_part_19 : decode prog_10_method_44_code 19 = .ok (.iconst 0, 1) := ky_dc db_X9_part_19 0 rfl
theorem dc_X9_part_20 : decode prog_10_method_44_code 20 = .ok (.lshr, 1) := ky_dc db_X9_part_19 1 rfl
theorem dc_X9_part_21 : decode prog_10_method_44_code 21 = .ok (.l2i, 1) := ky_dc db_X9_part_19 2 rfl
theorem dc_X9_part_22 : decode prog_10_method_44_code 22 = .ok (.ireturn, 1) := ky_dc db_X9_part_19 3 rfl
theorem dc_X9_part_14 : decode prog_10_method_44_code 14 = .ok (.bipush 32, 2) := ky_dc db_X9_part_19 4 rfl
theorem dc_X9_part_16 : decode prog_10_method_44_code 16 = .ok (.goto 4, 3) := ky_dc db_X9_part_19 5 rfl
theorem dc_X9_round_0 : decode prog_10_method_45_code 0 = .ok (.aload_n 0, 1) := ky_dc db_X9_part_19 6 rfl
theorem dc_X9_round_1 : decode prog_10_method_45_code 1 = .ok (.iload_n 1, 1) := ky_dc db_X9_part_19 7 rfl
theorem dc_X9_round_2 : decode prog_10_method_45_code 2 = .ok (.invokestatic 51, 3) := ky_dc db_X9_part_19 8 rfl
theorem dc_X9_round_5 : decode prog_10_method_45_code 5 = .ok (.invokevirtual 55, 3) := ky_dc db_X9_part_19 9 rfl
theorem dc_X9_round_8 : decode prog_10_method_45_code 8 = .ok (.ifCond .eq 7, 3) := ky_dc db_X9_part_19 10 rfl
theorem dc_X9_round_15 : decode prog_10_method_45_code 15 = .ok (.aload_n 0, 1) := ky_dc db_X9_part_19 11 rfl
theorem dc_X9_round_16 : decode prog_10_method_45_code 16 = .ok (.iload_n 1, 1) := ky_dc db_X9_part_19 12 rfl
theorem dc_X9_round_17 : decode prog_10_method_45_code 17 = .ok (.iload_n 2, 1) := ky_dc db_X9_part_19 13 rfl
theorem dc_X9_round_18 : decode prog_10_method_45_code 18 = .ok (.invokevirtual 181, 3) := ky_dc db_X9_part_19 14 rfl
theorem dc_X9_round_21 : decode prog_10_method_45_code 21 = .ok (.ireturn, 1) := ky_dc db_X9_part_19 15 rfl
theorem dc_X9_round_11 : decode prog_10_method_45_code 11 = .ok (.iconst 0, 1) := ky_dc db_X9_part_19 16 rfl
theorem dc_X9_round_12 : decode prog_10_method_45_code 12 = .ok (.goto 9, 3) := ky_dc db_X9_part_19 17 rfl
theorem dc_X9_shortNow_0 : decode prog_10_method_49_code 0 = .ok (.ldc2_w 204, 3) := ky_dc db_X9_part_19 18 rfl
theorem dc_X9_shortNow_3 : decode prog_10_method_49_code 3 = .ok (.ldc2_w 206, 3) := ky_dc db_X9_part_19 19 rfl
theorem dc_X9_shortNow_6 : decode prog_10_method_49_code 6 = .ok (.aload_n 0, 1) := ky_dc db_X9_part_19 20 rfl
theorem dc_X9_shortNow_7 : decode prog_10_method_49_code 7 = .ok (.getfield 25, 3) := ky_dc db_X9_part_19 21 rfl
theorem dc_X9_shortNow_10 : decode prog_10_method_49_code 10 = .ok (.iload_n 1, 1) := ky_dc db_X9_part_19 22 rfl
theorem dc_X9_shortNow_11 : decode prog_10_method_49_code 11 = .ok (.aaload, 1) := ky_dc db_X9_part_19 23 rfl
theorem dc_X9_shortNow_12 : decode prog_10_method_49_code 12 = .ok (.iconst 1, 1) := ky_dc db_X9_part_19 24 rfl
theorem dc_X9_shortNow_13 : decode prog_10_method_49_code 13 = .ok (.invokevirtual 177, 3) := ky_dc db_X9_part_19 25 rfl
theorem dc_X9_shortNow_16 : decode prog_10_method_49_code 16 = .ok (.invokestatic 208, 3) := ky_dc db_X9_part_19 26 rfl
theorem dc_X9_shortNow_19 : decode prog_10_method_49_code 19 = .ok (.invokestatic 211, 3) := ky_dc db_X9_part_19 27 rfl
theorem dc_X9_shortNow_22 : decode prog_10_method_49_code 22 = .ok (.l2i, 1) := ky_dc db_X9_part_19 28 rfl
theorem dc_X9_shortNow_23 : decode prog_10_method_49_code 23 = .ok (.ireturn, 1) := ky_dc db_X9_part_19 29 rfl
theorem dc_X9_shortened_0 : decode prog_10_method_50_code 0 = .ok (.aload_n 0, 1) := ky_dc db_X9_part_19 30 rfl
theorem dc_X9_shortened_1 : decode prog_10_method_50_code 1 = .ok (.iload_n 1, 1) := ky_dc db_X9_part_19 31 rfl
theorem dc_X9_shortened_2 : decode prog_10_method_50_code 2 = .ok (.invokestatic 51, 3) := ky_dc db_X9_part_19 32 rfl
theorem dc_X9_shortened_5 : decode prog_10_method_50_code 5 = .ok (.invokevirtual 55, 3) := ky_dc db_X9_part_19 33 rfl
theorem dc_X9_shortened_8 : decode prog_10_method_50_code 8 = .ok (.ifCond .eq 7, 3) := ky_dc db_X9_part_19 34 rfl
theorem dc_X9_shortened_15 : decode prog_10_method_50_code 15 = .ok (.aload_n 0, 1) := ky_dc db_X9_part_19 35 rfl
theorem dc_X9_shortened_16 : decode prog_10_method_50_code 16 = .ok (.iload_n 1, 1) := ky_dc db_X9_part_19 36 rfl
theorem dc_X9_shortened_17 : decode prog_10_method_50_code 17 = .ok (.invokevirtual 214, 3) := ky_dc db_X9_part_19 37 rfl
theorem dc_X9_shortened_20 : decode prog_10_method_50_code 20 = .ok (.ireturn, 1) := ky_dc db_X9_part_19 38 rfl
theorem dc_X9_shortened_11 : decode prog_10_method_50_code 11 = .ok (.iconst 0, 1) := ky_dc db_X9_part_19 39 rfl
theorem dc_X9_shortened_12 : decode prog_10_method_50_code 12 = .ok (.goto 8, 3) := ky_dc db_X9_part_19 40 rfl
theorem dc_X9_comparedNow_0 : decode prog_10_method_53_code 0 = .ok (.aload_n 0, 1) := ky_dc db_X9_part_19 41 rfl
theorem dc_X9_comparedNow_1 : decode prog_10_method_53_code 1 = .ok (.getfield 25, 3) := ky_dc db_X9_part_19 42 rfl
theorem dc_X9_comparedNow_4 : decode prog_10_method_53_code 4 = .ok (.iload_n 1, 1) := ky_dc db_X9_part_19 43 rfl
theorem dc_X9_comparedNow_5 : decode prog_10_method_53_code 5 = .ok (.aaload, 1) := ky_dc db_X9_part_19 44 rfl
theorem dc_X9_comparedNow_6 : decode prog_10_method_53_code 6 = .ok (.invokevirtual 147, 3) := ky_dc db_X9_part_19 45 rfl
theorem dc_X9_comparedNow_9 : decode prog_10_method_53_code 9 = .ok (.aload_n 0, 1) := ky_dc db_X9_part_19 46 rfl
theorem dc_X9_comparedNow_10 : decode prog_10_method_53_code 10 = .ok (.getfield 25, 3) := ky_dc db_X9_part_19 47 rfl
theorem dc_X9_comparedNow_13 : decode prog_10_method_53_code 13 = .ok (.iload_n 2, 1) := ky_dc db_X9_part_19 48 rfl
theorem dc_X9_comparedNow_14 : decode prog_10_method_53_code 14 = .ok (.aaload, 1) := ky_dc db_X9_part_19 49 rfl
theorem dc_X9_comparedNow_15 : decode prog_10_method_53_code 15 = .ok (.invokevirtual 147, 3) := ky_dc db_X9_part_19 50 rfl
theorem dc_X9_comparedNow_18 : decode prog_10_method_53_code 18 = .ok (.invokestatic 228, 3) := ky_dc db_X9_part_19 51 rfl
theorem dc_X9_comparedNow_21 : decode prog_10_method_53_code 21 = .ok (.ireturn, 1) := ky_dc db_X9_part_19 52 rfl
theorem dc_X9_compare_0 : decode prog_10_method_54_code 0 = .ok (.aload_n 0, 1) := ky_dc db_X9_part_19 53 rfl
theorem dc_X9_compare_1 : decode prog_10_method_54_code 1 = .ok (.aload_n 0, 1) := ky_dc db_X9_part_19 54 rfl
theorem dc_X9_compare_2 : decode prog_10_method_54_code 2 = .ok (.iload_n 1, 1) := ky_dc db_X9_part_19 55 rfl
theorem dc_X9_compare_3 : decode prog_10_method_54_code 3 = .ok (.iload_n 2, 1) := ky_dc db_X9_part_19 56 rfl
theorem dc_X9_compare_4 : decode prog_10_method_54_code 4 = .ok (.invokevirtual 104, 3) := ky_dc db_X9_part_19 57 rfl
theorem dc_X9_compare_7 : decode prog_10_method_54_code 7 = .ok (.invokevirtual 55, 3) := ky_dc db_X9_part_19 58 rfl
theorem dc_X9_compare_10 : decode prog_10_method_54_code 10 = .ok (.ifCond .eq 7, 3) := ky_dc db_X9_part_19 59 rfl
def dl_X9_compare_17 : List (ByteArray × Nat × Jvm.ClassFile.Instr × Nat) := [(prog_10_method_54_code, 17, .aload_n 0, 1), (prog_10_method_54_code, 18, .iload_n 1, 1), (prog_10_method_54_code, 19, .iload_n 2, 1), (prog_10_method_54_code, 20, .invokevirtual 232, 3), (prog_10_method_54_code, 23, .ireturn, 1), (prog_10_method_54_code, 13, .iconst 0, 1), (prog_10_method_54_code, 14, .goto 9, 3), (prog_10_method_59_code, 0, .aload_n 0, 1), (prog_10_method_59_code, 1, .getfield 25, 3), (prog_10_method_59_code, 4, .iload_n 1, 1), (prog_10_method_59_code, 5, .aaload, 1), (prog_10_method_59_code, 6, .invokevirtual 217, 3), (prog_10_method_59_code, 9, .lstore_n 3, 1), (prog_10_method_59_code, 10, .aload_n 0, 1), (prog_10_method_59_code, 11, .getfield 25, 3), (prog_10_method_59_code, 14, .iload_n 2, 1), (prog_10_method_59_code, 15, .aaload, 1), (prog_10_method_59_code, 16, .invokevirtual 217, 3), (prog_10_method_59_code, 19, .lstore 5, 2), (prog_10_method_59_code, 21, .lload 5, 2), (prog_10_method_59_code, 23, .lload_n 3, 1), (prog_10_method_59_code, 24, .lcmp, 1), (prog_10_method_59_code, 25, .ifCond .lt 14, 3), (prog_10_method_59_code, 39, .iconst (-1), 1), (prog_10_method_59_code, 40, .goto 8, 3), (prog_10_method_59_code, 48, .ireturn, 1), (prog_10_method_59_code, 28, .lload 5, 2), (prog_10_method_59_code, 30, .lload_n 3, 1), (prog_10_method_59_code, 31, .ldc2_w 239, 3), (prog_10_method_59_code, 34, .ladd, 1), (prog_10_method_59_code, 35, .lcmp, 1), (prog_10_method_59_code, 36, .ifCond .le 7, 3), (prog_10_method_59_code, 43, .lload 5, 2), (prog_10_method_59_code, 45, .lload_n 3, 1), (prog_10_method_59_code, 46, .lsub, 1), (prog_10_method_59_code, 47, .l2i, 1), (prog_10_method_60_code, 0, .aload_n 0, 1), (prog_10_method_60_code, 1, .aload_n 0, 1), (prog_10_method_60_code, 2, .iload_n 1, 1), (prog_10_method_60_code, 3, .iload_n 2, 1), (prog_10_method_60_code, 4, .invokevirtual 104, 3), (prog_10_method_60_code, 7, .invokevirtual 55, 3), (prog_10_method_60_code, 10, .ifCond .eq 7, 3), (prog_10_method_60_code, 17, .aload_n 0, 1), (prog_10_method_60_code, 18, .iload_n 1, 1), (prog_10_method_60_code, 19, .iload_n 2, 1), (prog_10_method_60_code, 20, .invokevirtual 241, 3), (prog_10_method_60_code, 23, .ireturn, 1), (prog_10_method_60_code, 13, .iconst 0, 1), (prog_10_method_60_code, 14, .goto 9, 3), (prog_10_method_70_code, 0, .aload_n 0, 1), (prog_10_method_70_code, 1, .iload_n 1, 1), (prog_10_method_70_code, 2, .invokestatic 51, 3), (prog_10_method_70_code, 5, .invokevirtual 55, 3), (prog_10_method_70_code, 8, .ifCond .ne 62, 3), (prog_10_method_70_code, 70, .iconst 0, 1), (prog_10_method_70_code, 71, .ireturn, 1), (prog_10_method_70_code, 11, .aload_n 0, 1), (prog_10_method_70_code, 12, .iload_n 2, 1), (prog_10_method_70_code, 13, .sipush (-2200), 3)]
theorem db_X9_compare_17 : dl_X9_compare_17.all (fun x => decide (decode x.1 x.2.1 = .ok x.2.2)) = true := by decide +kernel
theorem dc_X9_compare_17 : decode prog_10_method_54_code 17 = .ok (.aload_n 0, 1) := ky_dc db_X9_compare_17 0 rfl
theorem dc_X9_compare_18 : decode prog_10_method_54_code 18 = .ok (.iload_n 1, 1) := ky_dc db_X9_compare_17 1 rfl
theorem dc_X9_compare_19 : decode prog_10_method_54_code 19 = .ok (.iload_n 2, 1) := ky_dc db_X9_compare_17 2 rfl
theorem dc_X9_compare_20 : decode prog_10_method_54_code 20 = .ok (.invokevirtual 232, 3) := ky_dc db_X9_compare_17 3 rfl
theorem dc_X9_compare_23 : decode prog_10_method_54_code 23 = .ok (.ireturn, 1) := ky_dc db_X9_compare_17 4 rfl
theorem dc_X9_compare_13 : decode prog_10_method_54_code 13 = .ok (.iconst 0, 1) := ky_dc db_X9_compare_17 5 rfl
theorem dc_X9_compare_14 : decode prog_10_method_54_code 14 = .ok (.goto 9, 3) := ky_dc db_X9_compare_17 6 rfl
theorem dc_X9_apartNow_0 : decode prog_10_method_59_code 0 = .ok (.aload_n 0, 1) := ky_dc db_X9_compare_17 7 rfl
theorem dc_X9_apartNow_1 : decode prog_10_method_59_code 1 = .ok (.getfield 25, 3) := ky_dc db_X9_compare_17 8 rfl
theorem dc_X9_apartNow_4 : decode prog_10_method_59_code 4 = .ok (.iload_n 1, 1) := ky_dc db_X9_compare_17 9 rfl
theorem dc_X9_apartNow_5 : decode prog_10_method_59_code 5 = .ok (.aaload, 1) := ky_dc db_X9_compare_17 10 rfl
theorem dc_X9_apartNow_6 : decode prog_10_method_59_code 6 = .ok (.invokevirtual 217, 3) := ky_dc db_X9_compare_17 11 rfl
theorem dc_X9_apartNow_9 : decode prog_10_method_59_code 9 = .ok (.lstore_n 3, 1) := ky_dc db_X9_compare_17 12 rfl
theorem dc_X9_apartNow_10 : decode prog_10_method_59_code 10 = .ok (.aload_n 0, 1) := ky_dc db_X9_compare_17 13 rfl
theorem dc_X9_apartNow_11 : decode prog_10_method_59_code 11 = .ok (.getfield 25, 3) := ky_dc db_X9_compare_17 14 rfl
theorem dc_X9_apartNow_14 : decode prog_10_method_59_code 14 = .ok (.iload_n 2, 1) := ky_dc db_X9_compare_17 15 rfl
theorem dc_X9_apartNow_15 : decode prog_10_method_59_code 15 = .ok (.aaload, 1) := ky_dc db_X9_compare_17 16 rfl
theorem dc_X9_apartNow_16 : decode prog_10_method_59_code 16 = .ok (.invokevirtual 217, 3) := ky_dc db_X9_compare_17 17 rfl
theorem dc_X9_apartNow_19 : decode prog_10_method_59_code 19 = .ok (.lstore 5, 2) := ky_dc db_X9_compare_17 18 rfl
theorem dc_X9_apartNow_21 : decode prog_10_method_59_code 21 = .ok (.lload 5, 2) := ky_dc db_X9_compare_17 19 rfl
theorem dc_X9_apartNow_23 : decode prog_10_method_59_code 23 = .ok (.lload_n 3, 1) := ky_dc db_X9_compare_17 20 rfl
theorem dc_X9_apartNow_24 : decode prog_10_method_59_code 24 = .ok (.lcmp, 1) := ky_dc db_X9_compare_17 21 rfl
theorem dc_X9_apartNow_25 : decode prog_10_method_59_code 25 = .ok (.ifCond .lt 14, 3) := ky_dc db_X9_compare_17 22 rfl
theorem dc_X9_apartNow_39 : decode prog_10_method_59_code 39 = .ok (.iconst (-1), 1) := ky_dc db_X9_compare_17 23 rfl
theorem dc_X9_apartNow_40 : decode prog_10_method_59_code 40 = .ok (.goto 8, 3) := ky_dc db_X9_compare_17 24 rfl
theorem dc_X9_apartNow_48 : decode prog_10_method_59_code 48 = .ok (.ireturn, 1) := ky_dc db_X9_compare_17 25 rfl
theorem dc_X9_apartNow_28 : decode prog_10_method_59_code 28 = .ok (.lload 5, 2) := ky_dc db_X9_compare_17 26 rfl
theorem dc_X9_apartNow_30 : decode prog_10_method_59_code 30 = .ok (.lload_n 3, 1) := ky_dc db_X9_compare_17 27 rfl
theorem dc_X9_apartNow_31 : decode prog_10_method_59_code 31 = .ok (.ldc2_w 239, 3) := ky_dc db_X9_compare_17 28 rfl
theorem dc_X9_apartNow_34 : decode prog_10_method_59_code 34 = .ok (.ladd, 1) := ky_dc db_X9_compare_17 29 rfl
theorem dc_X9_apartNow_35 : decode prog_10_method_59_code 35 = .ok (.lcmp, 1) := ky_dc db_X9_compare_17 30 rfl
theorem dc_X9_apartNow_36 : decode prog_10_method_59_code 36 = .ok (.ifCond .le 7, 3) := ky_dc db_X9_compare_17 31 rfl
theorem dc_X9_apartNow_43 : decode prog_10_method_59_code 43 = .ok (.lload 5, 2) := ky_dc db_X9_compare_17 32 rfl
theorem dc_X9_apartNow_45 : decode prog_10_method_59_code 45 = .ok (.lload_n 3, 1) := ky_dc db_X9_compare_17 33 rfl
theorem dc_X9_apartNow_46 : decode prog_10_method_59_code 46 = .ok (.lsub, 1) := ky_dc db_X9_compare_17 34 rfl
theorem dc_X9_apartNow_47 : decode prog_10_method_59_code 47 = .ok (.l2i, 1) := ky_dc db_X9_compare_17 35 rfl
theorem dc_X9_apart_0 : decode prog_10_method_60_code 0 = .ok (.aload_n 0, 1) := ky_dc db_X9_compare_17 36 rfl
theorem dc_X9_apart_1 : decode prog_10_method_60_code 1 = .ok (.aload_n 0, 1) := ky_dc db_X9_compare_17 37 rfl
theorem dc_X9_apart_2 : decode prog_10_method_60_code 2 = .ok (.iload_n 1, 1) := ky_dc db_X9_compare_17 38 rfl
theorem dc_X9_apart_3 : decode prog_10_method_60_code 3 = .ok (.iload_n 2, 1) := ky_dc db_X9_compare_17 39 rfl
theorem dc_X9_apart_4 : decode prog_10_method_60_code 4 = .ok (.invokevirtual 104, 3) := ky_dc db_X9_compare_17 40 rfl
theorem dc_X9_apart_7 : decode prog_10_method_60_code 7 = .ok (.invokevirtual 55, 3) := ky_dc db_X9_compare_17 41 rfl
theorem dc_X9_apart_10 : decode prog_10_method_60_code 10 = .ok (.ifCond .eq 7, 3) := ky_dc db_X9_compare_17 42 rfl
theorem dc_X9_apart_17 : decode prog_10_method_60_code 17 = .ok (.aload_n 0, 1) := ky_dc db_X9_compare_17 43 rfl
theorem dc_X9_apart_18 : decode prog_10_method_60_code 18 = .ok (.iload_n 1, 1) := ky_dc db_X9_compare_17 44 rfl
theorem dc_X9_apart_19 : decode prog_10_method_60_code 19 = .ok (.iload_n 2, 1) := ky_dc db_X9_compare_17 45 rfl
theorem dc_X9_apart_20 : decode prog_10_method_60_code 20 = .ok (.invokevirtual 241, 3) := ky_dc db_X9_compare_17 46 rfl
theorem dc_X9_apart_23 : decode prog_10_method_60_code 23 = .ok (.ireturn, 1) := ky_dc db_X9_compare_17 47 rfl
theorem dc_X9_apart_13 : decode prog_10_method_60_code 13 = .ok (.iconst 0, 1) := ky_dc db_X9_compare_17 48 rfl
theorem dc_X9_apart_14 : decode prog_10_method_60_code 14 = .ok (.goto 9, 3) := ky_dc db_X9_compare_17 49 rfl
theorem dc_X9_isBack_0 : decode prog_10_method_70_code 0 = .ok (.aload_n 0, 1) := ky_dc db_X9_compare_17 50 rfl
theorem dc_X9_isBack_1 : decode prog_10_method_70_code 1 = .ok (.iload_n 1, 1) := ky_dc db_X9_compare_17 51 rfl
theorem dc_X9_isBack_2 : decode prog_10_method_70_code 2 = .ok (.invokestatic 51, 3) := ky_dc db_X9_compare_17 52 rfl
theorem dc_X9_isBack_5 : decode prog_10_method_70_code 5 = .ok (.invokevirtual 55, 3) := ky_dc db_X9_compare_17 53 rfl
theorem dc_X9_isBack_8 : decode prog_10_method_70_code 8 = .ok (.ifCond .ne 62, 3) := ky_dc db_X9_compare_17 54 rfl
theorem dc_X9_isBack_70 : decode prog_10_method_70_code 70 = .ok (.iconst 0, 1) := ky_dc db_X9_compare_17 55 rfl
theorem dc_X9_isBack_71 : decode prog_10_method_70_code 71 = .ok (.ireturn, 1) := ky_dc db_X9_compare_17 56 rfl
theorem dc_X9_isBack_11 : decode prog_10_method_70_code 11 = .ok (.aload_n 0, 1) := ky_dc db_X9_compare_17 57 rfl
theorem dc_X9_isBack_12 : decode prog_10_method_70_code 12 = .ok (.iload_n 2, 1) := ky_dc db_X9_compare_17 58 rfl
theorem dc_X9_isBack_13 : decode prog_10_method_70_code 13 = .ok (.sipush (-2200), 3) := ky_dc db_X9_compare_17 59 rfl
def dl_X9_isBack_16 : List (ByteArray × Nat × Jvm.ClassFile.Instr × Nat) := [(prog_10_method_70_code, 16, .sipush 2200, 3), (prog_10_method_70_code, 19, .invokestatic 40, 3), (prog_10_method_70_code, 22, .ifCond .ne 7, 3), (prog_10_method_70_code, 29, .iconst 0, 1), (prog_10_method_70_code, 30, .iconst 2, 1), (prog_10_method_70_code, 31, .invokevirtual 36, 3), (prog_10_method_70_code, 34, .ifCond .ne 36, 3), (prog_10_method_70_code, 37, .aload_n 0, 1), (prog_10_method_70_code, 38, .getfield 25, 3), (prog_10_method_70_code, 41, .iload_n 1, 1), (prog_10_method_70_code, 42, .aaload, 1), (prog_10_method_70_code, 43, .iload_n 2, 1), (prog_10_method_70_code, 44, .i2l, 1), (prog_10_method_70_code, 45, .invokevirtual 140, 3), (prog_10_method_70_code, 48, .iload_n 2, 1), (prog_10_method_70_code, 49, .ineg, 1), (prog_10_method_70_code, 50, .i2l, 1), (prog_10_method_70_code, 51, .invokevirtual 140, 3), (prog_10_method_70_code, 54, .aload_n 0, 1), (prog_10_method_70_code, 55, .getfield 25, 3), (prog_10_method_70_code, 58, .iload_n 1, 1), (prog_10_method_70_code, 59, .aaload, 1), (prog_10_method_70_code, 60, .invokevirtual 235, 3), (prog_10_method_70_code, 63, .ifCond .eq 7, 3), (prog_10_method_70_code, 66, .iconst 1, 1), (prog_10_method_70_code, 67, .goto 4, 3), (prog_10_method_70_code, 25, .iconst 1, 1), (prog_10_method_70_code, 26, .goto 4, 3), (prog_10_method_74_code, 0, .aload_n 0, 1), (prog_10_method_74_code, 1, .iconst 0, 1), (prog_10_method_74_code, 2, .putfield 32, 3), (prog_10_method_74_code, 5, .aload_n 0, 1), (prog_10_method_74_code, 6, .dup, 1), (prog_10_method_74_code, 7, .getfield 255, 3), (prog_10_method_74_code, 10, .iconst 1, 1), (prog_10_method_74_code, 11, .iadd, 1), (prog_10_method_74_code, 12, .putfield 255, 3), (prog_10_method_74_code, 15, .aload_n 0, 1), (prog_10_method_74_code, 16, .getfield 255, 3), (prog_10_method_74_code, 19, .ireturn, 1), (prog_10_method_77_code, 0, .aload_n 0, 1), (prog_10_method_77_code, 1, .iconst 0, 1), (prog_10_method_77_code, 2, .putfield 32, 3), (prog_10_method_77_code, 5, .iconst 1, 1), (prog_10_method_77_code, 6, .ireturn, 1), (prog_10_method_18_code, 0, .aload_n 0, 1), (prog_10_method_18_code, 1, .iload_n 1, 1), (prog_10_method_18_code, 2, .invokestatic 51, 3), (prog_10_method_18_code, 5, .invokevirtual 55, 3), (prog_10_method_18_code, 8, .ifCond .ne 26, 3), (prog_10_method_18_code, 34, .iconst 0, 1), (prog_10_method_18_code, 35, .goto 23, 3), (prog_10_method_18_code, 58, .ireturn, 1), (prog_10_method_18_code, 11, .aload_n 0, 1), (prog_10_method_18_code, 12, .iload_n 2, 1), (prog_10_method_18_code, 13, .iconst 0, 1), (prog_10_method_18_code, 14, .bipush 11, 2), (prog_10_method_18_code, 16, .invokestatic 40, 3), (prog_10_method_18_code, 19, .ifCond .ne 7, 3), (prog_10_method_18_code, 26, .iconst 0, 1)]
theorem db_X9_isBack_16 : dl_X9_isBack_16.all (fun x => decide (decode x.1 x.2.1 = .ok x.2.2)) = true := by decide +kernel
theorem dc_X9_isBack_16 : decode prog_10_method_70_code 16 = .ok (.sipush 2200, 3) := ky_dc db_X9_isBack_16 0 rfl
theorem dc_X9_isBack_19 : decode prog_10_method_70_code 19 = .ok (.invokestatic 40, 3) := ky_dc db_X9_isBack_16 1 rfl
theorem dc_X9_isBack_22 : decode prog_10_method_70_code 22 = .ok (.ifCond .ne 7, 3) := ky_dc db_X9_isBack_16 2 rfl
theorem dc_X9_isBack_29 : decode prog_10_method_70_code 29 = .ok (.iconst 0, 1) := ky_dc db_X9_isBack_16 3 rfl
theorem dc_X9_isBack_30 : decode prog_10_method_70_code 30 = .ok (.iconst 2, 1) := ky_dc db_X9_isBack_16 4 rfl
theorem dc_X9_isBack_31 : decode prog_10_method_70_code 31 = .ok (.invokevirtual 36, 3) := ky_dc db_X9_isBack_16 5 rfl
theorem dc_X9_isBack_34 : decode prog_10_method_70_code 34 = .ok (.ifCond .ne 36, 3) := ky_dc db_X9_isBack_16 6 rfl
theorem dc_X9_isBack_37 : decode prog_10_method_70_code 37 = .ok (.aload_n 0, 1) := ky_dc db_X9_isBack_16 7 rfl
theorem dc_X9_isBack_38 : decode prog_10_method_70_code 38 = .ok (.getfield 25, 3) := ky_dc db_X9_isBack_16 8 rfl
theorem dc_X9_isBack_41 : decode prog_10_method_70_code 41 = .ok (.iload_n 1, 1) := ky_dc db_X9_isBack_16 9 rfl
theorem dc_X9_isBack_42 : decode prog_10_method_70_code 42 = .ok (.aaload, 1) := ky_dc db_X9_isBack_16 10 rfl
theorem dc_X9_isBack_43 : decode prog_10_method_70_code 43 = .ok (.iload_n 2, 1) := ky_dc db_X9_isBack_16 11 rfl
theorem dc_X9_isBack_44 : decode prog_10_method_70_code 44 = .ok (.i2l, 1) := ky_dc db_X9_isBack_16 12 rfl
theorem dc_X9_isBack_45 : decode prog_10_method_70_code 45 = .ok (.invokevirtual 140, 3) := ky_dc db_X9_isBack_16 13 rfl
theorem dc_X9_isBack_48 : decode prog_10_method_70_code 48 = .ok (.iload_n 2, 1) := ky_dc db_X9_isBack_16 14 rfl
theorem dc_X9_isBack_49 : decode prog_10_method_70_code 49 = .ok (.ineg, 1) := ky_dc db_X9_isBack_16 15 rfl
theorem dc_X9_isBack_50 : decode prog_10_method_70_code 50 = .ok (.i2l, 1) := ky_dc db_X9_isBack_16 16 rfl
theorem dc_X9_isBack_51 : decode prog_10_method_70_code 51 = .ok (.invokevirtual 140, 3) := ky_dc db_X9_isBack_16 17 rfl
theorem dc_X9_isBack_54 : decode prog_10_method_70_code 54 = .ok (.aload_n 0, 1) := ky_dc db_X9_isBack_16 18 rfl
theorem dc_X9_isBack_55 : decode prog_10_method_70_code 55 = .ok (.getfield 25, 3) := ky_dc db_X9_isBack_16 19 rfl
theorem dc_X9_isBack_58 : decode prog_10_method_70_code 58 = .ok (.iload_n 1, 1) := ky_dc db_X9_isBack_16 20 rfl
theorem dc_X9_isBack_59 : decode prog_10_method_70_code 59 = .ok (.aaload, 1) := ky_dc db_X9_isBack_16 21 rfl
theorem dc_X9_isBack_60 : decode prog_10_method_70_code 60 = .ok (.invokevirtual 235, 3) := ky_dc db_X9_isBack_16 22 rfl
theorem dc_X9_isBack_63 : decode prog_10_method_70_code 63 = .ok (.ifCond .eq 7, 3) := ky_dc db_X9_isBack_16 23 rfl
theorem dc_X9_isBack_66 : decode prog_10_method_70_code 66 = .ok (.iconst 1, 1) := ky_dc db_X9_isBack_16 24 rfl
theorem dc_X9_isBack_67 : decode prog_10_method_70_code 67 = .ok (.goto 4, 3) := ky_dc db_X9_isBack_16 25 rfl
theorem dc_X9_isBack_25 : decode prog_10_method_70_code 25 = .ok (.iconst 1, 1) := ky_dc db_X9_isBack_16 26 rfl
theorem dc_X9_isBack_26 : decode prog_10_method_70_code 26 = .ok (.goto 4, 3) := ky_dc db_X9_isBack_16 27 rfl
theorem dc_X9_knock_0 : decode prog_10_method_74_code 0 = .ok (.aload_n 0, 1) := ky_dc db_X9_isBack_16 28 rfl
theorem dc_X9_knock_1 : decode prog_10_method_74_code 1 = .ok (.iconst 0, 1) := ky_dc db_X9_isBack_16 29 rfl
theorem dc_X9_knock_2 : decode prog_10_method_74_code 2 = .ok (.putfield 32, 3) := ky_dc db_X9_isBack_16 30 rfl
theorem dc_X9_knock_5 : decode prog_10_method_74_code 5 = .ok (.aload_n 0, 1) := ky_dc db_X9_isBack_16 31 rfl
theorem dc_X9_knock_6 : decode prog_10_method_74_code 6 = .ok (.dup, 1) := ky_dc db_X9_isBack_16 32 rfl
theorem dc_X9_knock_7 : decode prog_10_method_74_code 7 = .ok (.getfield 255, 3) := ky_dc db_X9_isBack_16 33 rfl
theorem dc_X9_knock_10 : decode prog_10_method_74_code 10 = .ok (.iconst 1, 1) := ky_dc db_X9_isBack_16 34 rfl
theorem dc_X9_knock_11 : decode prog_10_method_74_code 11 = .ok (.iadd, 1) := ky_dc db_X9_isBack_16 35 rfl
theorem dc_X9_knock_12 : decode prog_10_method_74_code 12 = .ok (.putfield 255, 3) := ky_dc db_X9_isBack_16 36 rfl
theorem dc_X9_knock_15 : decode prog_10_method_74_code 15 = .ok (.aload_n 0, 1) := ky_dc db_X9_isBack_16 37 rfl
theorem dc_X9_knock_16 : decode prog_10_method_74_code 16 = .ok (.getfield 255, 3) := ky_dc db_X9_isBack_16 38 rfl
theorem dc_X9_knock_19 : decode prog_10_method_74_code 19 = .ok (.ireturn, 1) := ky_dc db_X9_isBack_16 39 rfl
theorem dc_X9_isSound_0 : decode prog_10_method_77_code 0 = .ok (.aload_n 0, 1) := ky_dc db_X9_isBack_16 40 rfl
theorem dc_X9_isSound_1 : decode prog_10_method_77_code 1 = .ok (.iconst 0, 1) := ky_dc db_X9_isBack_16 41 rfl
theorem dc_X9_isSound_2 : decode prog_10_method_77_code 2 = .ok (.putfield 32, 3) := ky_dc db_X9_isBack_16 42 rfl
theorem dc_X9_isSound_5 : decode prog_10_method_77_code 5 = .ok (.iconst 1, 1) := ky_dc db_X9_isBack_16 43 rfl
theorem dc_X9_isSound_6 : decode prog_10_method_77_code 6 = .ok (.ireturn, 1) := ky_dc db_X9_isBack_16 44 rfl
theorem dc_X9_sample_0 : decode prog_10_method_18_code 0 = .ok (.aload_n 0, 1) := ky_dc db_X9_isBack_16 45 rfl
theorem dc_X9_sample_1 : decode prog_10_method_18_code 1 = .ok (.iload_n 1, 1) := ky_dc db_X9_isBack_16 46 rfl
theorem dc_X9_sample_2 : decode prog_10_method_18_code 2 = .ok (.invokestatic 51, 3) := ky_dc db_X9_isBack_16 47 rfl
theorem dc_X9_sample_5 : decode prog_10_method_18_code 5 = .ok (.invokevirtual 55, 3) := ky_dc db_X9_isBack_16 48 rfl
theorem dc_X9_sample_8 : decode prog_10_method_18_code 8 = .ok (.ifCond .ne 26, 3) := ky_dc db_X9_isBack_16 49 rfl
theorem dc_X9_sample_34 : decode prog_10_method_18_code 34 = .ok (.iconst 0, 1) := ky_dc db_X9_isBack_16 50 rfl
theorem dc_X9_sample_35 : decode prog_10_method_18_code 35 = .ok (.goto 23, 3) := ky_dc db_X9_isBack_16 51 rfl
theorem dc_X9_sample_58 : decode prog_10_method_18_code 58 = .ok (.ireturn, 1) := ky_dc db_X9_isBack_16 52 rfl
theorem dc_X9_sample_11 : decode prog_10_method_18_code 11 = .ok (.aload_n 0, 1) := ky_dc db_X9_isBack_16 53 rfl
theorem dc_X9_sample_12 : decode prog_10_method_18_code 12 = .ok (.iload_n 2, 1) := ky_dc db_X9_isBack_16 54 rfl
theorem dc_X9_sample_13 : decode prog_10_method_18_code 13 = .ok (.iconst 0, 1) := ky_dc db_X9_isBack_16 55 rfl
theorem dc_X9_sample_14 : decode prog_10_method_18_code 14 = .ok (.bipush 11, 2) := ky_dc db_X9_isBack_16 56 rfl
theorem dc_X9_sample_16 : decode prog_10_method_18_code 16 = .ok (.invokestatic 40, 3) := ky_dc db_X9_isBack_16 57 rfl
theorem dc_X9_sample_19 : decode prog_10_method_18_code 19 = .ok (.ifCond .ne 7, 3) := ky_dc db_X9_isBack_16 58 rfl
theorem dc_X9_sample_26 : decode prog_10_method_18_code 26 = .ok (.iconst 0, 1) := ky_dc db_X9_isBack_16 59 rfl
def dl_X9_sample_27 : List (ByteArray × Nat × Jvm.ClassFile.Instr × Nat) := [(prog_10_method_18_code, 27, .iconst 2, 1), (prog_10_method_18_code, 28, .invokevirtual 36, 3), (prog_10_method_18_code, 31, .ifCond .eq 7, 3), (prog_10_method_18_code, 38, .aload_n 0, 1), (prog_10_method_18_code, 39, .iload_n 1, 1), (prog_10_method_18_code, 40, .new 23, 3), (prog_10_method_18_code, 43, .dup, 1), (prog_10_method_18_code, 44, .iload_n 3, 1), (prog_10_method_18_code, 45, .invokestatic 59, 3), (prog_10_method_18_code, 48, .iload_n 2, 1), (prog_10_method_18_code, 49, .invokestatic 100, 3), (prog_10_method_18_code, 52, .invokespecial 29, 3), (prog_10_method_18_code, 55, .invokevirtual 63, 3), (prog_10_method_18_code, 22, .iconst 1, 1), (prog_10_method_18_code, 23, .goto 4, 3)]
theorem db_X9_sample_27 : dl_X9_sample_27.all (fun x => decide (decode x.1 x.2.1 = .ok x.2.2)) = true := by decide +kernel
theorem dc_X9_sample_27 : decode prog_10_method_18_code 27 = .ok (.iconst 2, 1) := ky_dc db_X9_sample_27 0 rfl
theorem dc_X9_sample_28 : decode prog_10_method_18_code 28 = .ok (.invokevirtual 36, 3) := ky_dc db_X9_sample_27 1 rfl
theorem dc_X9_sample_31 : decode prog_10_method_18_code 31 = .ok (.ifCond .eq 7, 3) := ky_dc db_X9_sample_27 2 rfl
theorem dc_X9_sample_38 : decode prog_10_method_18_code 38 = .ok (.aload_n 0, 1) := ky_dc db_X9_sample_27 3 rfl
theorem dc_X9_sample_39 : decode prog_10_method_18_code 39 = .ok (.iload_n 1, 1) := ky_dc db_X9_sample_27 4 rfl
theorem dc_X9_sample_40 : decode prog_10_method_18_code 40 = .ok (.new 23, 3) := ky_dc db_X9_sample_27 5 rfl
theorem dc_X9_sample_43 : decode prog_10_method_18_code 43 = .ok (.dup, 1) := ky_dc db_X9_sample_27 6 rfl
theorem dc_X9_sample_44 : decode prog_10_method_18_code 44 = .ok (.iload_n 3, 1) := ky_dc db_X9_sample_27 7 rfl
theorem dc_X9_sample_45 : decode prog_10_method_18_code 45 = .ok (.invokestatic 59, 3) := ky_dc db_X9_sample_27 8 rfl
theorem dc_X9_sample_48 : decode prog_10_method_18_code 48 = .ok (.iload_n 2, 1) := ky_dc db_X9_sample_27 9 rfl
theorem dc_X9_sample_49 : decode prog_10_method_18_code 49 = .ok (.invokestatic 100, 3) := ky_dc db_X9_sample_27 10 rfl
theorem dc_X9_sample_52 : decode prog_10_method_18_code 52 = .ok (.invokespecial 29, 3) := ky_dc db_X9_sample_27 11 rfl
theorem dc_X9_sample_55 : decode prog_10_method_18_code 55 = .ok (.invokevirtual 63, 3) := ky_dc db_X9_sample_27 12 rfl
theorem dc_X9_sample_22 : decode prog_10_method_18_code 22 = .ok (.iconst 1, 1) := ky_dc db_X9_sample_27 13 rfl
theorem dc_X9_sample_23 : decode prog_10_method_18_code 23 = .ok (.goto 4, 3) := ky_dc db_X9_sample_27 14 rfl
