abbrev my_L_zero : MethodName := ⟨"ExactdoublesLaw", "zero", "(LExactdoubles;IZLExactdoublesLaw$Out;)I"⟩
abbrev my_L_endless : MethodName := ⟨"ExactdoublesLaw", "endless", "(LExactdoubles;IZLExactdoublesLaw$Out;)I"⟩
abbrev my_L_quarters : MethodName := ⟨"ExactdoublesLaw", "quarters", "(LExactdoubles;IILExactdoublesLaw$Out;)I"⟩
abbrev my_L_power : MethodName := ⟨"ExactdoublesLaw", "power", "(LExactdoubles;IIZLExactdoublesLaw$Out;)I"⟩
abbrev my_L_bits : MethodName := ⟨"ExactdoublesLaw", "bits", "(LExactdoubles;IIILExactdoublesLaw$Out;)I"⟩
abbrev my_L_sample : MethodName := ⟨"ExactdoublesLaw", "sample", "(LExactdoubles;IIZLExactdoublesLaw$Out;)I"⟩
abbrev my_L_copy : MethodName := ⟨"ExactdoublesLaw", "copy", "(LExactdoubles;IILExactdoublesLaw$Out;)I"⟩
abbrev my_L_swap : MethodName := ⟨"ExactdoublesLaw", "swap", "(LExactdoubles;IILExactdoublesLaw$Out;)I"⟩
abbrev my_L_floor : MethodName := ⟨"ExactdoublesLaw", "floor", "(LExactdoubles;IILExactdoublesLaw$Out;)I"⟩
abbrev my_L_ceil : MethodName := ⟨"ExactdoublesLaw", "ceil", "(LExactdoubles;IILExactdoublesLaw$Out;)I"⟩
abbrev my_L_rint : MethodName := ⟨"ExactdoublesLaw", "rint", "(LExactdoubles;IILExactdoublesLaw$Out;)I"⟩
abbrev my_L_size : MethodName := ⟨"ExactdoublesLaw", "size", "(LExactdoubles;IILExactdoublesLaw$Out;)I"⟩
abbrev my_L_turn : MethodName := ⟨"ExactdoublesLaw", "turn", "(LExactdoubles;IILExactdoublesLaw$Out;)I"⟩
abbrev my_L_sign : MethodName := ⟨"ExactdoublesLaw", "sign", "(LExactdoubles;IILExactdoublesLaw$Out;)I"⟩
abbrev my_L_up : MethodName := ⟨"ExactdoublesLaw", "up", "(LExactdoubles;IILExactdoublesLaw$Out;)I"⟩
abbrev my_L_down : MethodName := ⟨"ExactdoublesLaw", "down", "(LExactdoubles;IILExactdoublesLaw$Out;)I"⟩
abbrev my_L_step : MethodName := ⟨"ExactdoublesLaw", "step", "(LExactdoubles;IILExactdoublesLaw$Out;)I"⟩
abbrev my_L_unit : MethodName := ⟨"ExactdoublesLaw", "unit", "(LExactdoubles;IILExactdoublesLaw$Out;)I"⟩
abbrev my_L_times : MethodName := ⟨"ExactdoublesLaw", "times", "(LExactdoubles;IIILExactdoublesLaw$Out;)I"⟩
abbrev my_L_side : MethodName := ⟨"ExactdoublesLaw", "side", "(LExactdoubles;IIILExactdoublesLaw$Out;)I"⟩
abbrev my_L_max : MethodName := ⟨"ExactdoublesLaw", "max", "(LExactdoubles;IIILExactdoublesLaw$Out;)I"⟩
abbrev my_L_min : MethodName := ⟨"ExactdoublesLaw", "min", "(LExactdoubles;IIILExactdoublesLaw$Out;)I"⟩
abbrev my_L_walk : MethodName := ⟨"ExactdoublesLaw", "walk", "(LExactdoubles;IILExactdoublesLaw$Out;)I"⟩
abbrev my_L_kind : MethodName := ⟨"ExactdoublesLaw", "kind", "(LExactdoubles;ILExactdoublesLaw$Out;)I"⟩
abbrev my_L_digits : MethodName := ⟨"ExactdoublesLaw", "digits", "(LExactdoubles;IILExactdoublesLaw$Out;)I"⟩
abbrev my_L_text : MethodName := ⟨"ExactdoublesLaw", "text", "(LExactdoubles;ILExactdoublesLaw$Out;)I"⟩
abbrev my_L_exponent : MethodName := ⟨"ExactdoublesLaw", "exponent", "(LExactdoubles;ILExactdoublesLaw$Out;)I"⟩
abbrev my_L_round : MethodName := ⟨"ExactdoublesLaw", "round", "(LExactdoubles;IZLExactdoublesLaw$Out;)I"⟩
abbrev my_L_rounded : MethodName := ⟨"ExactdoublesLaw", "rounded", "(LExactdoubles;ILExactdoublesLaw$Out;)I"⟩
abbrev my_L_cut : MethodName := ⟨"ExactdoublesLaw", "cut", "(LExactdoubles;ILExactdoublesLaw$Out;)I"⟩
abbrev my_L_shortened : MethodName := ⟨"ExactdoublesLaw", "shortened", "(LExactdoubles;ILExactdoublesLaw$Out;)I"⟩
abbrev my_L_signed : MethodName := ⟨"ExactdoublesLaw", "signed", "(LExactdoubles;ILExactdoublesLaw$Out;)I"⟩
abbrev my_L_isWhole : MethodName := ⟨"ExactdoublesLaw", "isWhole", "(LExactdoubles;ILExactdoublesLaw$Out;)I"⟩
abbrev my_L_compare : MethodName := ⟨"ExactdoublesLaw", "compare", "(LExactdoubles;IILExactdoublesLaw$Out;)I"⟩
abbrev my_L_areLike : MethodName := ⟨"ExactdoublesLaw", "areLike", "(LExactdoubles;IILExactdoublesLaw$Out;)I"⟩
abbrev my_L_isBelow : MethodName := ⟨"ExactdoublesLaw", "isBelow", "(LExactdoubles;IILExactdoublesLaw$Out;)I"⟩
abbrev my_L_areSame : MethodName := ⟨"ExactdoublesLaw", "areSame", "(LExactdoubles;IILExactdoublesLaw$Out;)I"⟩
abbrev my_L_isNext : MethodName := ⟨"ExactdoublesLaw", "isNext", "(LExactdoubles;IILExactdoublesLaw$Out;)I"⟩
abbrev my_L_apart : MethodName := ⟨"ExactdoublesLaw", "apart", "(LExactdoubles;IILExactdoublesLaw$Out;)I"⟩
abbrev my_L_place : MethodName := ⟨"ExactdoublesLaw", "place", "(LExactdoubles;ILExactdoublesLaw$Out;)I"⟩
abbrev my_L_floorOf : MethodName := ⟨"ExactdoublesLaw", "floorOf", "(LExactdoubles;ILExactdoublesLaw$Out;)I"⟩
abbrev my_L_ceilOf : MethodName := ⟨"ExactdoublesLaw", "ceilOf", "(LExactdoubles;ILExactdoublesLaw$Out;)I"⟩
abbrev my_L_rintOf : MethodName := ⟨"ExactdoublesLaw", "rintOf", "(LExactdoubles;ILExactdoublesLaw$Out;)I"⟩
abbrev my_L_stepOf : MethodName := ⟨"ExactdoublesLaw", "stepOf", "(LExactdoubles;ILExactdoublesLaw$Out;)I"⟩
abbrev my_L_nextOf : MethodName := ⟨"ExactdoublesLaw", "nextOf", "(LExactdoubles;IZLExactdoublesLaw$Out;)I"⟩
abbrev my_L_timesOf : MethodName := ⟨"ExactdoublesLaw", "timesOf", "(LExactdoubles;IILExactdoublesLaw$Out;)I"⟩
abbrev my_L_isBack : MethodName := ⟨"ExactdoublesLaw", "isBack", "(LExactdoubles;IILExactdoublesLaw$Out;)I"⟩
abbrev my_L_house : MethodName := ⟨"ExactdoublesLaw", "house", "(LExactdoubles;ILExactdoublesLaw$Out;)I"⟩
theorem kw_4_83 : (Jvm.Cond.methodLink "ExactdoublesLaw" (7 : Nat) ({ cls := "Exactdoubles", name := "zero", desc := "(IZ)I" } : Jvm.MethodName)) ∈ ky_B := ky_mem (kc_4 _ (List.mem_of_getElem? (i := 83) rfl)) (by decide +kernel)
theorem kw_4_84 : (Jvm.Cond.instanceMethod ({ cls := "Exactdoubles", name := "zero", desc := "(IZ)I" } : Jvm.MethodName)) ∈ ky_B := ky_mem (kc_4 _ (List.mem_of_getElem? (i := 84) rfl)) (by decide +kernel)
theorem kw_4_85 : (Jvm.Cond.selects "Exactdoubles" ({ cls := "Exactdoubles", name := "zero", desc := "(IZ)I" } : Jvm.MethodName) ({ cls := "Exactdoubles", name := "zero", desc := "(IZ)I" } : Jvm.MethodName)) ∈ ky_B := ky_mem (kc_4 _ (List.mem_of_getElem? (i := 85) rfl)) (by decide +kernel)
theorem kw_4_86 : (Jvm.Cond.code ({ cls := "Exactdoubles", name := "zero", desc := "(IZ)I" } : Jvm.MethodName) prog_1_method_2_code (3 : Nat) (Option.some Jvm.ClassFile.FieldType.int)) ∈ ky_B := ky_mem (kc_4 _ (List.mem_of_getElem? (i := 86) rfl)) (by decide +kernel)
theorem kw_4_82 : (Jvm.Cond.classLink "ExactdoublesLaw" (19 : Nat) "java/lang/IndexOutOfBoundsException") ∈ ky_B := ky_mem (kc_4 _ (List.mem_of_getElem? (i := 82) rfl)) (by decide +kernel)
theorem kw_4_113 : (Jvm.Cond.methodLink "ExactdoublesLaw" (21 : Nat) ({ cls := "Exactdoubles", name := "endless", desc := "(IZ)I" } : Jvm.MethodName)) ∈ ky_B := ky_mem (kc_4 _ (List.mem_of_getElem? (i := 113) rfl)) (by decide +kernel)
theorem kw_4_114 : (Jvm.Cond.instanceMethod ({ cls := "Exactdoubles", name := "endless", desc := "(IZ)I" } : Jvm.MethodName)) ∈ ky_B := ky_mem (kc_4 _ (List.mem_of_getElem? (i := 114) rfl)) (by decide +kernel)
theorem kw_4_115 : (Jvm.Cond.selects "Exactdoubles" ({ cls := "Exactdoubles", name := "endless", desc := "(IZ)I" } : Jvm.MethodName) ({ cls := "Exactdoubles", name := "endless", desc := "(IZ)I" } : Jvm.MethodName)) ∈ ky_B := ky_mem (kc_4 _ (List.mem_of_getElem? (i := 115) rfl)) (by decide +kernel)
theorem kw_4_116 : (Jvm.Cond.code ({ cls := "Exactdoubles", name := "endless", desc := "(IZ)I" } : Jvm.MethodName) prog_1_method_3_code (3 : Nat) (Option.some Jvm.ClassFile.FieldType.int)) ∈ ky_B := ky_mem (kc_4 _ (List.mem_of_getElem? (i := 116) rfl)) (by decide +kernel)
theorem kw_4_121 : (Jvm.Cond.methodLink "ExactdoublesLaw" (24 : Nat) ({ cls := "Exactdoubles", name := "quarters", desc := "(II)I" } : Jvm.MethodName)) ∈ ky_B := ky_mem (kc_4 _ (List.mem_of_getElem? (i := 121) rfl)) (by decide +kernel)
theorem kw_4_122 : (Jvm.Cond.instanceMethod ({ cls := "Exactdoubles", name := "quarters", desc := "(II)I" } : Jvm.MethodName)) ∈ ky_B := ky_mem (kc_4 _ (List.mem_of_getElem? (i := 122) rfl)) (by decide +kernel)
theorem kw_4_123 : (Jvm.Cond.selects "Exactdoubles" ({ cls := "Exactdoubles", name := "quarters", desc := "(II)I" } : Jvm.MethodName) ({ cls := "Exactdoubles", name := "quarters", desc := "(II)I" } : Jvm.MethodName)) ∈ ky_B := ky_mem (kc_4 _ (List.mem_of_getElem? (i := 123) rfl)) (by decide +kernel)
theorem kw_4_124 : (Jvm.Cond.code ({ cls := "Exactdoubles", name := "quarters", desc := "(II)I" } : Jvm.MethodName) prog_1_method_4_code (5 : Nat) (Option.some Jvm.ClassFile.FieldType.int)) ∈ ky_B := ky_mem (kc_4 _ (List.mem_of_getElem? (i := 124) rfl)) (by decide +kernel)
theorem kw_4_133 : (Jvm.Cond.methodLink "ExactdoublesLaw" (28 : Nat) ({ cls := "Exactdoubles", name := "power", desc := "(IIZ)I" } : Jvm.MethodName)) ∈ ky_B := ky_mem (kc_4 _ (List.mem_of_getElem? (i := 133) rfl)) (by decide +kernel)
theorem kw_4_134 : (Jvm.Cond.instanceMethod ({ cls := "Exactdoubles", name := "power", desc := "(IIZ)I" } : Jvm.MethodName)) ∈ ky_B := ky_mem (kc_4 _ (List.mem_of_getElem? (i := 134) rfl)) (by decide +kernel)
theorem kw_4_135 : (Jvm.Cond.selects "Exactdoubles" ({ cls := "Exactdoubles", name := "power", desc := "(IIZ)I" } : Jvm.MethodName) ({ cls := "Exactdoubles", name := "power", desc := "(IIZ)I" } : Jvm.MethodName)) ∈ ky_B := ky_mem (kc_4 _ (List.mem_of_getElem? (i := 135) rfl)) (by decide +kernel)
theorem kw_4_136 : (Jvm.Cond.code ({ cls := "Exactdoubles", name := "power", desc := "(IIZ)I" } : Jvm.MethodName) prog_1_method_5_code (4 : Nat) (Option.some Jvm.ClassFile.FieldType.int)) ∈ ky_B := ky_mem (kc_4 _ (List.mem_of_getElem? (i := 136) rfl)) (by decide +kernel)
theorem kw_4_132 : (Jvm.Cond.classLink "ExactdoublesLaw" (32 : Nat) "java/lang/IllegalArgumentException") ∈ ky_B := ky_mem (kc_4 _ (List.mem_of_getElem? (i := 132) rfl)) (by decide +kernel)
theorem kw_4_148 : (Jvm.Cond.methodLink "ExactdoublesLaw" (34 : Nat) ({ cls := "Exactdoubles", name := "bits", desc := "(III)I" } : Jvm.MethodName)) ∈ ky_B := ky_mem (kc_4 _ (List.mem_of_getElem? (i := 148) rfl)) (by decide +kernel)
theorem kw_4_149 : (Jvm.Cond.instanceMethod ({ cls := "Exactdoubles", name := "bits", desc := "(III)I" } : Jvm.MethodName)) ∈ ky_B := ky_mem (kc_4 _ (List.mem_of_getElem? (i := 149) rfl)) (by decide +kernel)
theorem kw_4_150 : (Jvm.Cond.selects "Exactdoubles" ({ cls := "Exactdoubles", name := "bits", desc := "(III)I" } : Jvm.MethodName) ({ cls := "Exactdoubles", name := "bits", desc := "(III)I" } : Jvm.MethodName)) ∈ ky_B := ky_mem (kc_4 _ (List.mem_of_getElem? (i := 150) rfl)) (by decide +kernel)
theorem kw_4_151 : (Jvm.Cond.code ({ cls := "Exactdoubles", name := "bits", desc := "(III)I" } : Jvm.MethodName) prog_1_method_6_code (6 : Nat) (Option.some Jvm.ClassFile.FieldType.int)) ∈ ky_B := ky_mem (kc_4 _ (List.mem_of_getElem? (i := 151) rfl)) (by decide +kernel)
theorem kw_4_159 : (Jvm.Cond.methodLink "ExactdoublesLaw" (38 : Nat) ({ cls := "Exactdoubles", name := "sample", desc := "(IIZ)I" } : Jvm.MethodName)) ∈ ky_B := ky_mem (kc_4 _ (List.mem_of_getElem? (i := 159) rfl)) (by decide +kernel)
theorem kw_4_160 : (Jvm.Cond.instanceMethod ({ cls := "Exactdoubles", name := "sample", desc := "(IIZ)I" } : Jvm.MethodName)) ∈ ky_B := ky_mem (kc_4 _ (List.mem_of_getElem? (i := 160) rfl)) (by decide +kernel)
theorem kw_4_161 : (Jvm.Cond.selects "Exactdoubles" ({ cls := "Exactdoubles", name := "sample", desc := "(IIZ)I" } : Jvm.MethodName) ({ cls := "Exactdoubles", name := "sample", desc := "(IIZ)I" } : Jvm.MethodName)) ∈ ky_B := ky_mem (kc_4 _ (List.mem_of_getElem? (i := 161) rfl)) (by decide +kernel)
theorem kw_4_162 : (Jvm.Cond.code ({ cls := "Exactdoubles", name := "sample", desc := "(IIZ)I" } : Jvm.MethodName) prog_1_method_7_code (6 : Nat) (Option.some Jvm.ClassFile.FieldType.int)) ∈ ky_B := ky_mem (kc_4 _ (List.mem_of_getElem? (i := 162) rfl)) (by decide +kernel)
theorem kw_4_170 : (Jvm.Cond.methodLink "ExactdoublesLaw" (41 : Nat) ({ cls := "Exactdoubles", name := "copy", desc := "(II)I" } : Jvm.MethodName)) ∈ ky_B := ky_mem (kc_4 _ (List.mem_of_getElem? (i := 170) rfl)) (by decide +kernel)
theorem kw_4_171 : (Jvm.Cond.instanceMethod ({ cls := "Exactdoubles", name := "copy", desc := "(II)I" } : Jvm.MethodName)) ∈ ky_B := ky_mem (kc_4 _ (List.mem_of_getElem? (i := 171) rfl)) (by decide +kernel)
theorem kw_4_172 : (Jvm.Cond.selects "Exactdoubles" ({ cls := "Exactdoubles", name := "copy", desc := "(II)I" } : Jvm.MethodName) ({ cls := "Exactdoubles", name := "copy", desc := "(II)I" } : Jvm.MethodName)) ∈ ky_B := ky_mem (kc_4 _ (List.mem_of_getElem? (i := 172) rfl)) (by decide +kernel)
theorem kw_4_173 : (Jvm.Cond.code ({ cls := "Exactdoubles", name := "copy", desc := "(II)I" } : Jvm.MethodName) prog_1_method_8_code (3 : Nat) (Option.some Jvm.ClassFile.FieldType.int)) ∈ ky_B := ky_mem (kc_4 _ (List.mem_of_getElem? (i := 173) rfl)) (by decide +kernel)
theorem kw_4_180 : (Jvm.Cond.methodLink "ExactdoublesLaw" (44 : Nat) ({ cls := "Exactdoubles", name := "swap", desc := "(II)I" } : Jvm.MethodName)) ∈ ky_B := ky_mem (kc_4 _ (List.mem_of_getElem? (i := 180) rfl)) (by decide +kernel)
theorem kw_4_181 : (Jvm.Cond.instanceMethod ({ cls := "Exactdoubles", name := "swap", desc := "(II)I" } : Jvm.MethodName)) ∈ ky_B := ky_mem (kc_4 _ (List.mem_of_getElem? (i := 181) rfl)) (by decide +kernel)
theorem kw_4_182 : (Jvm.Cond.selects "Exactdoubles" ({ cls := "Exactdoubles", name := "swap", desc := "(II)I" } : Jvm.MethodName) ({ cls := "Exactdoubles", name := "swap", desc := "(II)I" } : Jvm.MethodName)) ∈ ky_B := ky_mem (kc_4 _ (List.mem_of_getElem? (i := 182) rfl)) (by decide +kernel)
theorem kw_4_183 : (Jvm.Cond.code ({ cls := "Exactdoubles", name := "swap", desc := "(II)I" } : Jvm.MethodName) prog_1_method_9_code (6 : Nat) (Option.some Jvm.ClassFile.FieldType.int)) ∈ ky_B := ky_mem (kc_4 _ (List.mem_of_getElem? (i := 183) rfl)) (by decide +kernel)
theorem kw_4_187 : (Jvm.Cond.methodLink "ExactdoublesLaw" (47 : Nat) ({ cls := "Exactdoubles", name := "floor", desc := "(II)I" } : Jvm.MethodName)) ∈ ky_B := ky_mem (kc_4 _ (List.mem_of_getElem? (i := 187) rfl)) (by decide +kernel)
theorem kw_4_188 : (Jvm.Cond.instanceMethod ({ cls := "Exactdoubles", name := "floor", desc := "(II)I" } : Jvm.MethodName)) ∈ ky_B := ky_mem (kc_4 _ (List.mem_of_getElem? (i := 188) rfl)) (by decide +kernel)
theorem kw_4_189 : (Jvm.Cond.selects "Exactdoubles" ({ cls := "Exactdoubles", name := "floor", desc := "(II)I" } : Jvm.MethodName) ({ cls := "Exactdoubles", name := "floor", desc := "(II)I" } : Jvm.MethodName)) ∈ ky_B := ky_mem (kc_4 _ (List.mem_of_getElem? (i := 189) rfl)) (by decide +kernel)
theorem kw_4_190 : (Jvm.Cond.code ({ cls := "Exactdoubles", name := "floor", desc := "(II)I" } : Jvm.MethodName) prog_1_method_10_code (3 : Nat) (Option.some Jvm.ClassFile.FieldType.int)) ∈ ky_B := ky_mem (kc_4 _ (List.mem_of_getElem? (i := 190) rfl)) (by decide +kernel)
theorem kw_4_194 : (Jvm.Cond.methodLink "ExactdoublesLaw" (50 : Nat) ({ cls := "Exactdoubles", name := "ceil", desc := "(II)I" } : Jvm.MethodName)) ∈ ky_B := ky_mem (kc_4 _ (List.mem_of_getElem? (i := 194) rfl)) (by decide +kernel)
theorem kw_4_195 : (Jvm.Cond.instanceMethod ({ cls := "Exactdoubles", name := "ceil", desc := "(II)I" } : Jvm.MethodName)) ∈ ky_B := ky_mem (kc_4 _ (List.mem_of_getElem? (i := 195) rfl)) (by decide +kernel)
theorem kw_4_196 : (Jvm.Cond.selects "Exactdoubles" ({ cls := "Exactdoubles", name := "ceil", desc := "(II)I" } : Jvm.MethodName) ({ cls := "Exactdoubles", name := "ceil", desc := "(II)I" } : Jvm.MethodName)) ∈ ky_B := ky_mem (kc_4 _ (List.mem_of_getElem? (i := 196) rfl)) (by decide +kernel)
theorem kw_4_197 : (Jvm.Cond.code ({ cls := "Exactdoubles", name := "ceil", desc := "(II)I" } : Jvm.MethodName) prog_1_method_11_code (3 : Nat) (Option.some Jvm.ClassFile.FieldType.int)) ∈ ky_B := ky_mem (kc_4 _ (List.mem_of_getElem? (i := 197) rfl)) (by decide +kernel)
theorem kw_4_201 : (Jvm.Cond.methodLink "ExactdoublesLaw" (53 : Nat) ({ cls := "Exactdoubles", name := "rint", desc := "(II)I" } : Jvm.MethodName)) ∈ ky_B := ky_mem (kc_4 _ (List.mem_of_getElem? (i := 201) rfl)) (by decide +kernel)
theorem kw_4_202 : (Jvm.Cond.instanceMethod ({ cls := "Exactdoubles", name := "rint", desc := "(II)I" } : Jvm.MethodName)) ∈ ky_B := ky_mem (kc_4 _ (List.mem_of_getElem? (i := 202) rfl)) (by decide +kernel)
theorem kw_4_203 : (Jvm.Cond.selects "Exactdoubles" ({ cls := "Exactdoubles", name := "rint", desc := "(II)I" } : Jvm.MethodName) ({ cls := "Exactdoubles", name := "rint", desc := "(II)I" } : Jvm.MethodName)) ∈ ky_B := ky_mem (kc_4 _ (List.mem_of_getElem? (i := 203) rfl)) (by decide +kernel)
theorem kw_4_204 : (Jvm.Cond.code ({ cls := "Exactdoubles", name := "rint", desc := "(II)I" } : Jvm.MethodName) prog_1_method_12_code (3 : Nat) (Option.some Jvm.ClassFile.FieldType.int)) ∈ ky_B := ky_mem (kc_4 _ (List.mem_of_getElem? (i := 204) rfl)) (by decide +kernel)
theorem kw_4_208 : (Jvm.Cond.methodLink "ExactdoublesLaw" (56 : Nat) ({ cls := "Exactdoubles", name := "size", desc := "(II)I" } : Jvm.MethodName)) ∈ ky_B := ky_mem (kc_4 _ (List.mem_of_getElem? (i := 208) rfl)) (by decide +kernel)
theorem kw_4_209 : (Jvm.Cond.instanceMethod ({ cls := "Exactdoubles", name := "size", desc := "(II)I" } : Jvm.MethodName)) ∈ ky_B := ky_mem (kc_4 _ (List.mem_of_getElem? (i := 209) rfl)) (by decide +kernel)
theorem kw_4_210 : (Jvm.Cond.selects "Exactdoubles" ({ cls := "Exactdoubles", name := "size", desc := "(II)I" } : Jvm.MethodName) ({ cls := "Exactdoubles", name := "size", desc := "(II)I" } : Jvm.MethodName)) ∈ ky_B := ky_mem (kc_4 _ (List.mem_of_getElem? (i := 210) rfl)) (by decide +kernel)
theorem kw_4_211 : (Jvm.Cond.code ({ cls := "Exactdoubles", name := "size", desc := "(II)I" } : Jvm.MethodName) prog_1_method_13_code (3 : Nat) (Option.some Jvm.ClassFile.FieldType.int)) ∈ ky_B := ky_mem (kc_4 _ (List.mem_of_getElem? (i := 211) rfl)) (by decide +kernel)
theorem kw_4_216 : (Jvm.Cond.methodLink "ExactdoublesLaw" (59 : Nat) ({ cls := "Exactdoubles", name := "turn", desc := "(II)I" } : Jvm.MethodName)) ∈ ky_B := ky_mem (kc_4 _ (List.mem_of_getElem? (i := 216) rfl)) (by decide +kernel)
theorem kw_4_217 : (Jvm.Cond.instanceMethod ({ cls := "Exactdoubles", name := "turn", desc := "(II)I" } : Jvm.MethodName)) ∈ ky_B := ky_mem (kc_4 _ (List.mem_of_getElem? (i := 217) rfl)) (by decide +kernel)
theorem kw_4_218 : (Jvm.Cond.selects "Exactdoubles" ({ cls := "Exactdoubles", name := "turn", desc := "(II)I" } : Jvm.MethodName) ({ cls := "Exactdoubles", name := "turn", desc := "(II)I" } : Jvm.MethodName)) ∈ ky_B := ky_mem (kc_4 _ (List.mem_of_getElem? (i := 218) rfl)) (by decide +kernel)
theorem kw_4_219 : (Jvm.Cond.code ({ cls := "Exactdoubles", name := "turn", desc := "(II)I" } : Jvm.MethodName) prog_1_method_14_code (3 : Nat) (Option.some Jvm.ClassFile.FieldType.int)) ∈ ky_B := ky_mem (kc_4 _ (List.mem_of_getElem? (i := 219) rfl)) (by decide +kernel)
theorem kw_4_224 : (Jvm.Cond.methodLink "ExactdoublesLaw" (62 : Nat) ({ cls := "Exactdoubles", name := "sign", desc := "(II)I" } : Jvm.MethodName)) ∈ ky_B := ky_mem (kc_4 _ (List.mem_of_getElem? (i := 224) rfl)) (by decide +kernel)
theorem kw_4_225 : (Jvm.Cond.instanceMethod ({ cls := "Exactdoubles", name := "sign", desc := "(II)I" } : Jvm.MethodName)) ∈ ky_B := ky_mem (kc_4 _ (List.mem_of_getElem? (i := 225) rfl)) (by decide +kernel)
theorem kw_4_226 : (Jvm.Cond.selects "Exactdoubles" ({ cls := "Exactdoubles", name := "sign", desc := "(II)I" } : Jvm.MethodName) ({ cls := "Exactdoubles", name := "sign", desc := "(II)I" } : Jvm.MethodName)) ∈ ky_B := ky_mem (kc_4 _ (List.mem_of_getElem? (i := 226) rfl)) (by decide +kernel)
theorem kw_4_227 : (Jvm.Cond.code ({ cls := "Exactdoubles", name := "sign", desc := "(II)I" } : Jvm.MethodName) prog_1_method_15_code (3 : Nat) (Option.some Jvm.ClassFile.FieldType.int)) ∈ ky_B := ky_mem (kc_4 _ (List.mem_of_getElem? (i := 227) rfl)) (by decide +kernel)
theorem kw_4_232 : (Jvm.Cond.methodLink "ExactdoublesLaw" (65 : Nat) ({ cls := "Exactdoubles", name := "up", desc := "(II)I" } : Jvm.MethodName)) ∈ ky_B := ky_mem (kc_4 _ (List.mem_of_getElem? (i := 232) rfl)) (by decide +kernel)
theorem kw_4_233 : (Jvm.Cond.instanceMethod ({ cls := "Exactdoubles", name := "up", desc := "(II)I" } : Jvm.MethodName)) ∈ ky_B := ky_mem (kc_4 _ (List.mem_of_getElem? (i := 233) rfl)) (by decide +kernel)
theorem kw_4_234 : (Jvm.Cond.selects "Exactdoubles" ({ cls := "Exactdoubles", name := "up", desc := "(II)I" } : Jvm.MethodName) ({ cls := "Exactdoubles", name := "up", desc := "(II)I" } : Jvm.MethodName)) ∈ ky_B := ky_mem (kc_4 _ (List.mem_of_getElem? (i := 234) rfl)) (by decide +kernel)
theorem kw_4_235 : (Jvm.Cond.code ({ cls := "Exactdoubles", name := "up", desc := "(II)I" } : Jvm.MethodName) prog_1_method_16_code (3 : Nat) (Option.some Jvm.ClassFile.FieldType.int)) ∈ ky_B := ky_mem (kc_4 _ (List.mem_of_getElem? (i := 235) rfl)) (by decide +kernel)
theorem kw_4_239 : (Jvm.Cond.methodLink "ExactdoublesLaw" (68 : Nat) ({ cls := "Exactdoubles", name := "down", desc := "(II)I" } : Jvm.MethodName)) ∈ ky_B := ky_mem (kc_4 _ (List.mem_of_getElem? (i := 239) rfl)) (by decide +kernel)
theorem kw_5_0 : (Jvm.Cond.instanceMethod ({ cls := "Exactdoubles", name := "down", desc := "(II)I" } : Jvm.MethodName)) ∈ ky_B := ky_mem (kc_5 _ (List.mem_of_getElem? (i := 0) rfl)) (by decide +kernel)
theorem kw_5_1 : (Jvm.Cond.selects "Exactdoubles" ({ cls := "Exactdoubles", name := "down", desc := "(II)I" } : Jvm.MethodName) ({ cls := "Exactdoubles", name := "down", desc := "(II)I" } : Jvm.MethodName)) ∈ ky_B := ky_mem (kc_5 _ (List.mem_of_getElem? (i := 1) rfl)) (by decide +kernel)
theorem kw_5_2 : (Jvm.Cond.code ({ cls := "Exactdoubles", name := "down", desc := "(II)I" } : Jvm.MethodName) prog_1_method_17_code (3 : Nat) (Option.some Jvm.ClassFile.FieldType.int)) ∈ ky_B := ky_mem (kc_5 _ (List.mem_of_getElem? (i := 2) rfl)) (by decide +kernel)
theorem kw_5_6 : (Jvm.Cond.methodLink "ExactdoublesLaw" (71 : Nat) ({ cls := "Exactdoubles", name := "step", desc := "(II)I" } : Jvm.MethodName)) ∈ ky_B := ky_mem (kc_5 _ (List.mem_of_getElem? (i := 6) rfl)) (by decide +kernel)
theorem kw_5_7 : (Jvm.Cond.instanceMethod ({ cls := "Exactdoubles", name := "step", desc := "(II)I" } : Jvm.MethodName)) ∈ ky_B := ky_mem (kc_5 _ (List.mem_of_getElem? (i := 7) rfl)) (by decide +kernel)
theorem kw_5_8 : (Jvm.Cond.selects "Exactdoubles" ({ cls := "Exactdoubles", name := "step", desc := "(II)I" } : Jvm.MethodName) ({ cls := "Exactdoubles", name := "step", desc := "(II)I" } : Jvm.MethodName)) ∈ ky_B := ky_mem (kc_5 _ (List.mem_of_getElem? (i := 8) rfl)) (by decide +kernel)
theorem kw_5_9 : (Jvm.Cond.code ({ cls := "Exactdoubles", name := "step", desc := "(II)I" } : Jvm.MethodName) prog_1_method_18_code (3 : Nat) (Option.some Jvm.ClassFile.FieldType.int)) ∈ ky_B := ky_mem (kc_5 _ (List.mem_of_getElem? (i := 9) rfl)) (by decide +kernel)
theorem kw_5_13 : (Jvm.Cond.methodLink "ExactdoublesLaw" (74 : Nat) ({ cls := "Exactdoubles", name := "unit", desc := "(II)I" } : Jvm.MethodName)) ∈ ky_B := ky_mem (kc_5 _ (List.mem_of_getElem? (i := 13) rfl)) (by decide +kernel)
theorem kw_5_14 : (Jvm.Cond.instanceMethod ({ cls := "Exactdoubles", name := "unit", desc := "(II)I" } : Jvm.MethodName)) ∈ ky_B := ky_mem (kc_5 _ (List.mem_of_getElem? (i := 14) rfl)) (by decide +kernel)
theorem kw_5_15 : (Jvm.Cond.selects "Exactdoubles" ({ cls := "Exactdoubles", name := "unit", desc := "(II)I" } : Jvm.MethodName) ({ cls := "Exactdoubles", name := "unit", desc := "(II)I" } : Jvm.MethodName)) ∈ ky_B := ky_mem (kc_5 _ (List.mem_of_getElem? (i := 15) rfl)) (by decide +kernel)
theorem kw_5_16 : (Jvm.Cond.code ({ cls := "Exactdoubles", name := "unit", desc := "(II)I" } : Jvm.MethodName) prog_1_method_19_code (3 : Nat) (Option.some Jvm.ClassFile.FieldType.int)) ∈ ky_B := ky_mem (kc_5 _ (List.mem_of_getElem? (i := 16) rfl)) (by decide +kernel)
theorem kw_5_20 : (Jvm.Cond.methodLink "ExactdoublesLaw" (77 : Nat) ({ cls := "Exactdoubles", name := "times", desc := "(III)I" } : Jvm.MethodName)) ∈ ky_B := ky_mem (kc_5 _ (List.mem_of_getElem? (i := 20) rfl)) (by decide +kernel)
theorem kw_5_21 : (Jvm.Cond.instanceMethod ({ cls := "Exactdoubles", name := "times", desc := "(III)I" } : Jvm.MethodName)) ∈ ky_B := ky_mem (kc_5 _ (List.mem_of_getElem? (i := 21) rfl)) (by decide +kernel)
theorem kw_5_22 : (Jvm.Cond.selects "Exactdoubles" ({ cls := "Exactdoubles", name := "times", desc := "(III)I" } : Jvm.MethodName) ({ cls := "Exactdoubles", name := "times", desc := "(III)I" } : Jvm.MethodName)) ∈ ky_B := ky_mem (kc_5 _ (List.mem_of_getElem? (i := 22) rfl)) (by decide +kernel)
theorem kw_5_23 : (Jvm.Cond.code ({ cls := "Exactdoubles", name := "times", desc := "(III)I" } : Jvm.MethodName) prog_1_method_20_code (4 : Nat) (Option.some Jvm.ClassFile.FieldType.int)) ∈ ky_B := ky_mem (kc_5 _ (List.mem_of_getElem? (i := 23) rfl)) (by decide +kernel)
theorem kw_5_27 : (Jvm.Cond.methodLink "ExactdoublesLaw" (80 : Nat) ({ cls := "Exactdoubles", name := "side", desc := "(III)I" } : Jvm.MethodName)) ∈ ky_B := ky_mem (kc_5 _ (List.mem_of_getElem? (i := 27) rfl)) (by decide +kernel)
theorem kw_5_28 : (Jvm.Cond.instanceMethod ({ cls := "Exactdoubles", name := "side", desc := "(III)I" } : Jvm.MethodName)) ∈ ky_B := ky_mem (kc_5 _ (List.mem_of_getElem? (i := 28) rfl)) (by decide +kernel)
theorem kw_5_29 : (Jvm.Cond.selects "Exactdoubles" ({ cls := "Exactdoubles", name := "side", desc := "(III)I" } : Jvm.MethodName) ({ cls := "Exactdoubles", name := "side", desc := "(III)I" } : Jvm.MethodName)) ∈ ky_B := ky_mem (kc_5 _ (List.mem_of_getElem? (i := 29) rfl)) (by decide +kernel)
theorem kw_5_30 : (Jvm.Cond.code ({ cls := "Exactdoubles", name := "side", desc := "(III)I" } : Jvm.MethodName) prog_1_method_21_code (4 : Nat) (Option.some Jvm.ClassFile.FieldType.int)) ∈ ky_B := ky_mem (kc_5 _ (List.mem_of_getElem? (i := 30) rfl)) (by decide +kernel)
theorem kw_5_35 : (Jvm.Cond.methodLink "ExactdoublesLaw" (83 : Nat) ({ cls := "Exactdoubles", name := "max", desc := "(III)I" } : Jvm.MethodName)) ∈ ky_B := ky_mem (kc_5 _ (List.mem_of_getElem? (i := 35) rfl)) (by decide +kernel)
theorem kw_5_36 : (Jvm.Cond.instanceMethod ({ cls := "Exactdoubles", name := "max", desc := "(III)I" } : Jvm.MethodName)) ∈ ky_B := ky_mem (kc_5 _ (List.mem_of_getElem? (i := 36) rfl)) (by decide +kernel)
theorem kw_5_37 : (Jvm.Cond.selects "Exactdoubles" ({ cls := "Exactdoubles", name := "max", desc := "(III)I" } : Jvm.MethodName) ({ cls := "Exactdoubles", name := "max", desc := "(III)I" } : Jvm.MethodName)) ∈ ky_B := ky_mem (kc_5 _ (List.mem_of_getElem? (i := 37) rfl)) (by decide +kernel)
theorem kw_5_38 : (Jvm.Cond.code ({ cls := "Exactdoubles", name := "max", desc := "(III)I" } : Jvm.MethodName) prog_1_method_22_code (4 : Nat) (Option.some Jvm.ClassFile.FieldType.int)) ∈ ky_B := ky_mem (kc_5 _ (List.mem_of_getElem? (i := 38) rfl)) (by decide +kernel)
theorem kw_5_42 : (Jvm.Cond.methodLink "ExactdoublesLaw" (86 : Nat) ({ cls := "Exactdoubles", name := "min", desc := "(III)I" } : Jvm.MethodName)) ∈ ky_B := ky_mem (kc_5 _ (List.mem_of_getElem? (i := 42) rfl)) (by decide +kernel)
theorem kw_5_43 : (Jvm.Cond.instanceMethod ({ cls := "Exactdoubles", name := "min", desc := "(III)I" } : Jvm.MethodName)) ∈ ky_B := ky_mem (kc_5 _ (List.mem_of_getElem? (i := 43) rfl)) (by decide +kernel)
theorem kw_5_44 : (Jvm.Cond.selects "Exactdoubles" ({ cls := "Exactdoubles", name := "min", desc := "(III)I" } : Jvm.MethodName) ({ cls := "Exactdoubles", name := "min", desc := "(III)I" } : Jvm.MethodName)) ∈ ky_B := ky_mem (kc_5 _ (List.mem_of_getElem? (i := 44) rfl)) (by decide +kernel)
theorem kw_5_45 : (Jvm.Cond.code ({ cls := "Exactdoubles", name := "min", desc := "(III)I" } : Jvm.MethodName) prog_1_method_23_code (4 : Nat) (Option.some Jvm.ClassFile.FieldType.int)) ∈ ky_B := ky_mem (kc_5 _ (List.mem_of_getElem? (i := 45) rfl)) (by decide +kernel)
theorem kw_5_49 : (Jvm.Cond.methodLink "ExactdoublesLaw" (89 : Nat) ({ cls := "Exactdoubles", name := "walk", desc := "(II)I" } : Jvm.MethodName)) ∈ ky_B := ky_mem (kc_5 _ (List.mem_of_getElem? (i := 49) rfl)) (by decide +kernel)
theorem kw_5_50 : (Jvm.Cond.instanceMethod ({ cls := "Exactdoubles", name := "walk", desc := "(II)I" } : Jvm.MethodName)) ∈ ky_B := ky_mem (kc_5 _ (List.mem_of_getElem? (i := 50) rfl)) (by decide +kernel)
theorem kw_5_51 : (Jvm.Cond.selects "Exactdoubles" ({ cls := "Exactdoubles", name := "walk", desc := "(II)I" } : Jvm.MethodName) ({ cls := "Exactdoubles", name := "walk", desc := "(II)I" } : Jvm.MethodName)) ∈ ky_B := ky_mem (kc_5 _ (List.mem_of_getElem? (i := 51) rfl)) (by decide +kernel)
theorem kw_5_52 : (Jvm.Cond.code ({ cls := "Exactdoubles", name := "walk", desc := "(II)I" } : Jvm.MethodName) prog_1_method_24_code (3 : Nat) (Option.some Jvm.ClassFile.FieldType.int)) ∈ ky_B := ky_mem (kc_5 _ (List.mem_of_getElem? (i := 52) rfl)) (by decide +kernel)
theorem kw_5_61 : (Jvm.Cond.methodLink "ExactdoublesLaw" (92 : Nat) ({ cls := "Exactdoubles", name := "kind", desc := "(I)I" } : Jvm.MethodName)) ∈ ky_B := ky_mem (kc_5 _ (List.mem_of_getElem? (i := 61) rfl)) (by decide +kernel)
theorem kw_5_62 : (Jvm.Cond.instanceMethod ({ cls := "Exactdoubles", name := "kind", desc := "(I)I" } : Jvm.MethodName)) ∈ ky_B := ky_mem (kc_5 _ (List.mem_of_getElem? (i := 62) rfl)) (by decide +kernel)
theorem kw_5_63 : (Jvm.Cond.selects "Exactdoubles" ({ cls := "Exactdoubles", name := "kind", desc := "(I)I" } : Jvm.MethodName) ({ cls := "Exactdoubles", name := "kind", desc := "(I)I" } : Jvm.MethodName)) ∈ ky_B := ky_mem (kc_5 _ (List.mem_of_getElem? (i := 63) rfl)) (by decide +kernel)
theorem kw_5_64 : (Jvm.Cond.code ({ cls := "Exactdoubles", name := "kind", desc := "(I)I" } : Jvm.MethodName) prog_1_method_25_code (2 : Nat) (Option.some Jvm.ClassFile.FieldType.int)) ∈ ky_B := ky_mem (kc_5 _ (List.mem_of_getElem? (i := 64) rfl)) (by decide +kernel)
theorem kw_5_68 : (Jvm.Cond.methodLink "ExactdoublesLaw" (96 : Nat) ({ cls := "Exactdoubles", name := "digits", desc := "(II)I" } : Jvm.MethodName)) ∈ ky_B := ky_mem (kc_5 _ (List.mem_of_getElem? (i := 68) rfl)) (by decide +kernel)
theorem kw_5_69 : (Jvm.Cond.instanceMethod ({ cls := "Exactdoubles", name := "digits", desc := "(II)I" } : Jvm.MethodName)) ∈ ky_B := ky_mem (kc_5 _ (List.mem_of_getElem? (i := 69) rfl)) (by decide +kernel)
theorem kw_5_70 : (Jvm.Cond.selects "Exactdoubles" ({ cls := "Exactdoubles", name := "digits", desc := "(II)I" } : Jvm.MethodName) ({ cls := "Exactdoubles", name := "digits", desc := "(II)I" } : Jvm.MethodName)) ∈ ky_B := ky_mem (kc_5 _ (List.mem_of_getElem? (i := 70) rfl)) (by decide +kernel)
theorem kw_5_71 : (Jvm.Cond.code ({ cls := "Exactdoubles", name := "digits", desc := "(II)I" } : Jvm.MethodName) prog_1_method_26_code (3 : Nat) (Option.some Jvm.ClassFile.FieldType.int)) ∈ ky_B := ky_mem (kc_5 _ (List.mem_of_getElem? (i := 71) rfl)) (by decide +kernel)
theorem kw_5_75 : (Jvm.Cond.methodLink "ExactdoublesLaw" (99 : Nat) ({ cls := "Exactdoubles", name := "text", desc := "(I)Ljava/lang/String;" } : Jvm.MethodName)) ∈ ky_B := ky_mem (kc_5 _ (List.mem_of_getElem? (i := 75) rfl)) (by decide +kernel)
theorem kw_5_76 : (Jvm.Cond.instanceMethod ({ cls := "Exactdoubles", name := "text", desc := "(I)Ljava/lang/String;" } : Jvm.MethodName)) ∈ ky_B := ky_mem (kc_5 _ (List.mem_of_getElem? (i := 76) rfl)) (by decide +kernel)
theorem kw_5_77 : (Jvm.Cond.selects "Exactdoubles" ({ cls := "Exactdoubles", name := "text", desc := "(I)Ljava/lang/String;" } : Jvm.MethodName) ({ cls := "Exactdoubles", name := "text", desc := "(I)Ljava/lang/String;" } : Jvm.MethodName)) ∈ ky_B := ky_mem (kc_5 _ (List.mem_of_getElem? (i := 77) rfl)) (by decide +kernel)
theorem kw_5_78 : (Jvm.Cond.code ({ cls := "Exactdoubles", name := "text", desc := "(I)Ljava/lang/String;" } : Jvm.MethodName) prog_1_method_27_code (2 : Nat) (Option.some (Jvm.ClassFile.FieldType.object "java/lang/String"))) ∈ ky_B := ky_mem (kc_5 _ (List.mem_of_getElem? (i := 78) rfl)) (by decide +kernel)
theorem kw_5_82 : (Jvm.Cond.methodLink "ExactdoublesLaw" (107 : Nat) ({ cls := "Exactdoubles", name := "exponent", desc := "(I)I" } : Jvm.MethodName)) ∈ ky_B := ky_mem (kc_5 _ (List.mem_of_getElem? (i := 82) rfl)) (by decide +kernel)
theorem kw_5_83 : (Jvm.Cond.instanceMethod ({ cls := "Exactdoubles", name := "exponent", desc := "(I)I" } : Jvm.MethodName)) ∈ ky_B := ky_mem (kc_5 _ (List.mem_of_getElem? (i := 83) rfl)) (by decide +kernel)
theorem kw_5_84 : (Jvm.Cond.selects "Exactdoubles" ({ cls := "Exactdoubles", name := "exponent", desc := "(I)I" } : Jvm.MethodName) ({ cls := "Exactdoubles", name := "exponent", desc := "(I)I" } : Jvm.MethodName)) ∈ ky_B := ky_mem (kc_5 _ (List.mem_of_getElem? (i := 84) rfl)) (by decide +kernel)
theorem kw_5_85 : (Jvm.Cond.code ({ cls := "Exactdoubles", name := "exponent", desc := "(I)I" } : Jvm.MethodName) prog_1_method_28_code (2 : Nat) (Option.some Jvm.ClassFile.FieldType.int)) ∈ ky_B := ky_mem (kc_5 _ (List.mem_of_getElem? (i := 85) rfl)) (by decide +kernel)
theorem kw_5_89 : (Jvm.Cond.methodLink "ExactdoublesLaw" (110 : Nat) ({ cls := "Exactdoubles", name := "round", desc := "(IZ)I" } : Jvm.MethodName)) ∈ ky_B := ky_mem (kc_5 _ (List.mem_of_getElem? (i := 89) rfl)) (by decide +kernel)
theorem kw_5_90 : (Jvm.Cond.instanceMethod ({ cls := "Exactdoubles", name := "round", desc := "(IZ)I" } : Jvm.MethodName)) ∈ ky_B := ky_mem (kc_5 _ (List.mem_of_getElem? (i := 90) rfl)) (by decide +kernel)
theorem kw_5_91 : (Jvm.Cond.selects "Exactdoubles" ({ cls := "Exactdoubles", name := "round", desc := "(IZ)I" } : Jvm.MethodName) ({ cls := "Exactdoubles", name := "round", desc := "(IZ)I" } : Jvm.MethodName)) ∈ ky_B := ky_mem (kc_5 _ (List.mem_of_getElem? (i := 91) rfl)) (by decide +kernel)
theorem kw_5_92 : (Jvm.Cond.code ({ cls := "Exactdoubles", name := "round", desc := "(IZ)I" } : Jvm.MethodName) prog_1_method_29_code (3 : Nat) (Option.some Jvm.ClassFile.FieldType.int)) ∈ ky_B := ky_mem (kc_5 _ (List.mem_of_getElem? (i := 92) rfl)) (by decide +kernel)
theorem kw_5_96 : (Jvm.Cond.methodLink "ExactdoublesLaw" (113 : Nat) ({ cls := "Exactdoubles", name := "rounded", desc := "(I)Ljava/lang/String;" } : Jvm.MethodName)) ∈ ky_B := ky_mem (kc_5 _ (List.mem_of_getElem? (i := 96) rfl)) (by decide +kernel)
theorem kw_5_97 : (Jvm.Cond.instanceMethod ({ cls := "Exactdoubles", name := "rounded", desc := "(I)Ljava/lang/String;" } : Jvm.MethodName)) ∈ ky_B := ky_mem (kc_5 _ (List.mem_of_getElem? (i := 97) rfl)) (by decide +kernel)
theorem kw_5_98 : (Jvm.Cond.selects "Exactdoubles" ({ cls := "Exactdoubles", name := "rounded", desc := "(I)Ljava/lang/String;" } : Jvm.MethodName) ({ cls := "Exactdoubles", name := "rounded", desc := "(I)Ljava/lang/String;" } : Jvm.MethodName)) ∈ ky_B := ky_mem (kc_5 _ (List.mem_of_getElem? (i := 98) rfl)) (by decide +kernel)
theorem kw_5_99 : (Jvm.Cond.code ({ cls := "Exactdoubles", name := "rounded", desc := "(I)Ljava/lang/String;" } : Jvm.MethodName) prog_1_method_30_code (2 : Nat) (Option.some (Jvm.ClassFile.FieldType.object "java/lang/String"))) ∈ ky_B := ky_mem (kc_5 _ (List.mem_of_getElem? (i := 99) rfl)) (by decide +kernel)
theorem kw_5_107 : (Jvm.Cond.methodLink "ExactdoublesLaw" (116 : Nat) ({ cls := "Exactdoubles", name := "cut", desc := "(I)Ljava/lang/String;" } : Jvm.MethodName)) ∈ ky_B := ky_mem (kc_5 _ (List.mem_of_getElem? (i := 107) rfl)) (by decide +kernel)
theorem kw_5_108 : (Jvm.Cond.instanceMethod ({ cls := "Exactdoubles", name := "cut", desc := "(I)Ljava/lang/String;" } : Jvm.MethodName)) ∈ ky_B := ky_mem (kc_5 _ (List.mem_of_getElem? (i := 108) rfl)) (by decide +kernel)
theorem kw_5_109 : (Jvm.Cond.selects "Exactdoubles" ({ cls := "Exactdoubles", name := "cut", desc := "(I)Ljava/lang/String;" } : Jvm.MethodName) ({ cls := "Exactdoubles", name := "cut", desc := "(I)Ljava/lang/String;" } : Jvm.MethodName)) ∈ ky_B := ky_mem (kc_5 _ (List.mem_of_getElem? (i := 109) rfl)) (by decide +kernel)
theorem kw_5_110 : (Jvm.Cond.code ({ cls := "Exactdoubles", name := "cut", desc := "(I)Ljava/lang/String;" } : Jvm.MethodName) prog_1_method_31_code (2 : Nat) (Option.some (Jvm.ClassFile.FieldType.object "java/lang/String"))) ∈ ky_B := ky_mem (kc_5 _ (List.mem_of_getElem? (i := 110) rfl)) (by decide +kernel)
theorem kw_5_114 : (Jvm.Cond.methodLink "ExactdoublesLaw" (119 : Nat) ({ cls := "Exactdoubles", name := "shortened", desc := "(I)I" } : Jvm.MethodName)) ∈ ky_B := ky_mem (kc_5 _ (List.mem_of_getElem? (i := 114) rfl)) (by decide +kernel)
theorem kw_5_115 : (Jvm.Cond.instanceMethod ({ cls := "Exactdoubles", name := "shortened", desc := "(I)I" } : Jvm.MethodName)) ∈ ky_B := ky_mem (kc_5 _ (List.mem_of_getElem? (i := 115) rfl)) (by decide +kernel)
theorem kw_5_116 : (Jvm.Cond.selects "Exactdoubles" ({ cls := "Exactdoubles", name := "shortened", desc := "(I)I" } : Jvm.MethodName) ({ cls := "Exactdoubles", name := "shortened", desc := "(I)I" } : Jvm.MethodName)) ∈ ky_B := ky_mem (kc_5 _ (List.mem_of_getElem? (i := 116) rfl)) (by decide +kernel)
theorem kw_5_117 : (Jvm.Cond.code ({ cls := "Exactdoubles", name := "shortened", desc := "(I)I" } : Jvm.MethodName) prog_1_method_32_code (2 : Nat) (Option.some Jvm.ClassFile.FieldType.int)) ∈ ky_B := ky_mem (kc_5 _ (List.mem_of_getElem? (i := 117) rfl)) (by decide +kernel)
theorem kw_5_121 : (Jvm.Cond.methodLink "ExactdoublesLaw" (122 : Nat) ({ cls := "Exactdoubles", name := "signed", desc := "(I)I" } : Jvm.MethodName)) ∈ ky_B := ky_mem (kc_5 _ (List.mem_of_getElem? (i := 121) rfl)) (by decide +kernel)
theorem kw_5_122 : (Jvm.Cond.instanceMethod ({ cls := "Exactdoubles", name := "signed", desc := "(I)I" } : Jvm.MethodName)) ∈ ky_B := ky_mem (kc_5 _ (List.mem_of_getElem? (i := 122) rfl)) (by decide +kernel)
theorem kw_5_123 : (Jvm.Cond.selects "Exactdoubles" ({ cls := "Exactdoubles", name := "signed", desc := "(I)I" } : Jvm.MethodName) ({ cls := "Exactdoubles", name := "signed", desc := "(I)I" } : Jvm.MethodName)) ∈ ky_B := ky_mem (kc_5 _ (List.mem_of_getElem? (i := 123) rfl)) (by decide +kernel)
theorem kw_5_124 : (Jvm.Cond.code ({ cls := "Exactdoubles", name := "signed", desc := "(I)I" } : Jvm.MethodName) prog_1_method_33_code (2 : Nat) (Option.some Jvm.ClassFile.FieldType.int)) ∈ ky_B := ky_mem (kc_5 _ (List.mem_of_getElem? (i := 124) rfl)) (by decide +kernel)
theorem kw_5_128 : (Jvm.Cond.methodLink "ExactdoublesLaw" (125 : Nat) ({ cls := "Exactdoubles", name := "isWhole", desc := "(I)Z" } : Jvm.MethodName)) ∈ ky_B := ky_mem (kc_5 _ (List.mem_of_getElem? (i := 128) rfl)) (by decide +kernel)
theorem kw_5_129 : (Jvm.Cond.instanceMethod ({ cls := "Exactdoubles", name := "isWhole", desc := "(I)Z" } : Jvm.MethodName)) ∈ ky_B := ky_mem (kc_5 _ (List.mem_of_getElem? (i := 129) rfl)) (by decide +kernel)
theorem kw_5_130 : (Jvm.Cond.selects "Exactdoubles" ({ cls := "Exactdoubles", name := "isWhole", desc := "(I)Z" } : Jvm.MethodName) ({ cls := "Exactdoubles", name := "isWhole", desc := "(I)Z" } : Jvm.MethodName)) ∈ ky_B := ky_mem (kc_5 _ (List.mem_of_getElem? (i := 130) rfl)) (by decide +kernel)
theorem kw_5_131 : (Jvm.Cond.code ({ cls := "Exactdoubles", name := "isWhole", desc := "(I)Z" } : Jvm.MethodName) prog_1_method_34_code (2 : Nat) (Option.some Jvm.ClassFile.FieldType.boolean)) ∈ ky_B := ky_mem (kc_5 _ (List.mem_of_getElem? (i := 131) rfl)) (by decide +kernel)
theorem kw_5_135 : (Jvm.Cond.methodLink "ExactdoublesLaw" (129 : Nat) ({ cls := "Exactdoubles", name := "compare", desc := "(II)I" } : Jvm.MethodName)) ∈ ky_B := ky_mem (kc_5 _ (List.mem_of_getElem? (i := 135) rfl)) (by decide +kernel)
theorem kw_5_136 : (Jvm.Cond.instanceMethod ({ cls := "Exactdoubles", name := "compare", desc := "(II)I" } : Jvm.MethodName)) ∈ ky_B := ky_mem (kc_5 _ (List.mem_of_getElem? (i := 136) rfl)) (by decide +kernel)
theorem kw_5_137 : (Jvm.Cond.selects "Exactdoubles" ({ cls := "Exactdoubles", name := "compare", desc := "(II)I" } : Jvm.MethodName) ({ cls := "Exactdoubles", name := "compare", desc := "(II)I" } : Jvm.MethodName)) ∈ ky_B := ky_mem (kc_5 _ (List.mem_of_getElem? (i := 137) rfl)) (by decide +kernel)
theorem kw_5_138 : (Jvm.Cond.code ({ cls := "Exactdoubles", name := "compare", desc := "(II)I" } : Jvm.MethodName) prog_1_method_35_code (3 : Nat) (Option.some Jvm.ClassFile.FieldType.int)) ∈ ky_B := ky_mem (kc_5 _ (List.mem_of_getElem? (i := 138) rfl)) (by decide +kernel)
theorem kw_5_142 : (Jvm.Cond.methodLink "ExactdoublesLaw" (132 : Nat) ({ cls := "Exactdoubles", name := "areLike", desc := "(II)Z" } : Jvm.MethodName)) ∈ ky_B := ky_mem (kc_5 _ (List.mem_of_getElem? (i := 142) rfl)) (by decide +kernel)
theorem kw_5_143 : (Jvm.Cond.instanceMethod ({ cls := "Exactdoubles", name := "areLike", desc := "(II)Z" } : Jvm.MethodName)) ∈ ky_B := ky_mem (kc_5 _ (List.mem_of_getElem? (i := 143) rfl)) (by decide +kernel)
theorem kw_5_144 : (Jvm.Cond.selects "Exactdoubles" ({ cls := "Exactdoubles", name := "areLike", desc := "(II)Z" } : Jvm.MethodName) ({ cls := "Exactdoubles", name := "areLike", desc := "(II)Z" } : Jvm.MethodName)) ∈ ky_B := ky_mem (kc_5 _ (List.mem_of_getElem? (i := 144) rfl)) (by decide +kernel)
theorem kw_5_145 : (Jvm.Cond.code ({ cls := "Exactdoubles", name := "areLike", desc := "(II)Z" } : Jvm.MethodName) prog_1_method_36_code (3 : Nat) (Option.some Jvm.ClassFile.FieldType.boolean)) ∈ ky_B := ky_mem (kc_5 _ (List.mem_of_getElem? (i := 145) rfl)) (by decide +kernel)
theorem kw_5_149 : (Jvm.Cond.methodLink "ExactdoublesLaw" (136 : Nat) ({ cls := "Exactdoubles", name := "isBelow", desc := "(II)Z" } : Jvm.MethodName)) ∈ ky_B := ky_mem (kc_5 _ (List.mem_of_getElem? (i := 149) rfl)) (by decide +kernel)
theorem kw_5_150 : (Jvm.Cond.instanceMethod ({ cls := "Exactdoubles", name := "isBelow", desc := "(II)Z" } : Jvm.MethodName)) ∈ ky_B := ky_mem (kc_5 _ (List.mem_of_getElem? (i := 150) rfl)) (by decide +kernel)
theorem kw_5_151 : (Jvm.Cond.selects "Exactdoubles" ({ cls := "Exactdoubles", name := "isBelow", desc := "(II)Z" } : Jvm.MethodName) ({ cls := "Exactdoubles", name := "isBelow", desc := "(II)Z" } : Jvm.MethodName)) ∈ ky_B := ky_mem (kc_5 _ (List.mem_of_getElem? (i := 151) rfl)) (by decide +kernel)
theorem kw_5_152 : (Jvm.Cond.code ({ cls := "Exactdoubles", name := "isBelow", desc := "(II)Z" } : Jvm.MethodName) prog_1_method_37_code (3 : Nat) (Option.some Jvm.ClassFile.FieldType.boolean)) ∈ ky_B := ky_mem (kc_5 _ (List.mem_of_getElem? (i := 152) rfl)) (by decide +kernel)
theorem kw_5_156 : (Jvm.Cond.methodLink "ExactdoublesLaw" (139 : Nat) ({ cls := "Exactdoubles", name := "areSame", desc := "(II)Z" } : Jvm.MethodName)) ∈ ky_B := ky_mem (kc_5 _ (List.mem_of_getElem? (i := 156) rfl)) (by decide +kernel)
theorem kw_5_157 : (Jvm.Cond.instanceMethod ({ cls := "Exactdoubles", name := "areSame", desc := "(II)Z" } : Jvm.MethodName)) ∈ ky_B := ky_mem (kc_5 _ (List.mem_of_getElem? (i := 157) rfl)) (by decide +kernel)
theorem kw_5_158 : (Jvm.Cond.selects "Exactdoubles" ({ cls := "Exactdoubles", name := "areSame", desc := "(II)Z" } : Jvm.MethodName) ({ cls := "Exactdoubles", name := "areSame", desc := "(II)Z" } : Jvm.MethodName)) ∈ ky_B := ky_mem (kc_5 _ (List.mem_of_getElem? (i := 158) rfl)) (by decide +kernel)
theorem kw_5_159 : (Jvm.Cond.code ({ cls := "Exactdoubles", name := "areSame", desc := "(II)Z" } : Jvm.MethodName) prog_1_method_38_code (3 : Nat) (Option.some Jvm.ClassFile.FieldType.boolean)) ∈ ky_B := ky_mem (kc_5 _ (List.mem_of_getElem? (i := 159) rfl)) (by decide +kernel)
theorem kw_5_163 : (Jvm.Cond.methodLink "ExactdoublesLaw" (142 : Nat) ({ cls := "Exactdoubles", name := "isNext", desc := "(II)Z" } : Jvm.MethodName)) ∈ ky_B := ky_mem (kc_5 _ (List.mem_of_getElem? (i := 163) rfl)) (by decide +kernel)
theorem kw_5_164 : (Jvm.Cond.instanceMethod ({ cls := "Exactdoubles", name := "isNext", desc := "(II)Z" } : Jvm.MethodName)) ∈ ky_B := ky_mem (kc_5 _ (List.mem_of_getElem? (i := 164) rfl)) (by decide +kernel)
theorem kw_5_165 : (Jvm.Cond.selects "Exactdoubles" ({ cls := "Exactdoubles", name := "isNext", desc := "(II)Z" } : Jvm.MethodName) ({ cls := "Exactdoubles", name := "isNext", desc := "(II)Z" } : Jvm.MethodName)) ∈ ky_B := ky_mem (kc_5 _ (List.mem_of_getElem? (i := 165) rfl)) (by decide +kernel)
theorem kw_5_166 : (Jvm.Cond.code ({ cls := "Exactdoubles", name := "isNext", desc := "(II)Z" } : Jvm.MethodName) prog_1_method_39_code (3 : Nat) (Option.some Jvm.ClassFile.FieldType.boolean)) ∈ ky_B := ky_mem (kc_5 _ (List.mem_of_getElem? (i := 166) rfl)) (by decide +kernel)
theorem kw_5_170 : (Jvm.Cond.methodLink "ExactdoublesLaw" (145 : Nat) ({ cls := "Exactdoubles", name := "apart", desc := "(II)I" } : Jvm.MethodName)) ∈ ky_B := ky_mem (kc_5 _ (List.mem_of_getElem? (i := 170) rfl)) (by decide +kernel)
theorem kw_5_171 : (Jvm.Cond.instanceMethod ({ cls := "Exactdoubles", name := "apart", desc := "(II)I" } : Jvm.MethodName)) ∈ ky_B := ky_mem (kc_5 _ (List.mem_of_getElem? (i := 171) rfl)) (by decide +kernel)
theorem kw_5_172 : (Jvm.Cond.selects "Exactdoubles" ({ cls := "Exactdoubles", name := "apart", desc := "(II)I" } : Jvm.MethodName) ({ cls := "Exactdoubles", name := "apart", desc := "(II)I" } : Jvm.MethodName)) ∈ ky_B := ky_mem (kc_5 _ (List.mem_of_getElem? (i := 172) rfl)) (by decide +kernel)
theorem kw_5_173 : (Jvm.Cond.code ({ cls := "Exactdoubles", name := "apart", desc := "(II)I" } : Jvm.MethodName) prog_1_method_40_code (3 : Nat) (Option.some Jvm.ClassFile.FieldType.int)) ∈ ky_B := ky_mem (kc_5 _ (List.mem_of_getElem? (i := 173) rfl)) (by decide +kernel)
theorem kw_5_177 : (Jvm.Cond.methodLink "ExactdoublesLaw" (148 : Nat) ({ cls := "Exactdoubles", name := "place", desc := "(I)I" } : Jvm.MethodName)) ∈ ky_B := ky_mem (kc_5 _ (List.mem_of_getElem? (i := 177) rfl)) (by decide +kernel)
theorem kw_5_178 : (Jvm.Cond.instanceMethod ({ cls := "Exactdoubles", name := "place", desc := "(I)I" } : Jvm.MethodName)) ∈ ky_B := ky_mem (kc_5 _ (List.mem_of_getElem? (i := 178) rfl)) (by decide +kernel)
theorem kw_5_179 : (Jvm.Cond.selects "Exactdoubles" ({ cls := "Exactdoubles", name := "place", desc := "(I)I" } : Jvm.MethodName) ({ cls := "Exactdoubles", name := "place", desc := "(I)I" } : Jvm.MethodName)) ∈ ky_B := ky_mem (kc_5 _ (List.mem_of_getElem? (i := 179) rfl)) (by decide +kernel)
theorem kw_5_180 : (Jvm.Cond.code ({ cls := "Exactdoubles", name := "place", desc := "(I)I" } : Jvm.MethodName) prog_1_method_41_code (2 : Nat) (Option.some Jvm.ClassFile.FieldType.int)) ∈ ky_B := ky_mem (kc_5 _ (List.mem_of_getElem? (i := 180) rfl)) (by decide +kernel)
theorem kw_5_184 : (Jvm.Cond.methodLink "ExactdoublesLaw" (151 : Nat) ({ cls := "Exactdoubles", name := "floorOf", desc := "(I)Ljava/lang/String;" } : Jvm.MethodName)) ∈ ky_B := ky_mem (kc_5 _ (List.mem_of_getElem? (i := 184) rfl)) (by decide +kernel)
theorem kw_5_185 : (Jvm.Cond.instanceMethod ({ cls := "Exactdoubles", name := "floorOf", desc := "(I)Ljava/lang/String;" } : Jvm.MethodName)) ∈ ky_B := ky_mem (kc_5 _ (List.mem_of_getElem? (i := 185) rfl)) (by decide +kernel)
theorem kw_5_186 : (Jvm.Cond.selects "Exactdoubles" ({ cls := "Exactdoubles", name := "floorOf", desc := "(I)Ljava/lang/String;" } : Jvm.MethodName) ({ cls := "Exactdoubles", name := "floorOf", desc := "(I)Ljava/lang/String;" } : Jvm.MethodName)) ∈ ky_B := ky_mem (kc_5 _ (List.mem_of_getElem? (i := 186) rfl)) (by decide +kernel)
theorem kw_5_187 : (Jvm.Cond.code ({ cls := "Exactdoubles", name := "floorOf", desc := "(I)Ljava/lang/String;" } : Jvm.MethodName) prog_1_method_42_code (2 : Nat) (Option.some (Jvm.ClassFile.FieldType.object "java/lang/String"))) ∈ ky_B := ky_mem (kc_5 _ (List.mem_of_getElem? (i := 187) rfl)) (by decide +kernel)
theorem kw_5_191 : (Jvm.Cond.methodLink "ExactdoublesLaw" (154 : Nat) ({ cls := "Exactdoubles", name := "ceilOf", desc := "(I)Ljava/lang/String;" } : Jvm.MethodName)) ∈ ky_B := ky_mem (kc_5 _ (List.mem_of_getElem? (i := 191) rfl)) (by decide +kernel)
theorem kw_5_192 : (Jvm.Cond.instanceMethod ({ cls := "Exactdoubles", name := "ceilOf", desc := "(I)Ljava/lang/String;" } : Jvm.MethodName)) ∈ ky_B := ky_mem (kc_5 _ (List.mem_of_getElem? (i := 192) rfl)) (by decide +kernel)
theorem kw_5_193 : (Jvm.Cond.selects "Exactdoubles" ({ cls := "Exactdoubles", name := "ceilOf", desc := "(I)Ljava/lang/String;" } : Jvm.MethodName) ({ cls := "Exactdoubles", name := "ceilOf", desc := "(I)Ljava/lang/String;" } : Jvm.MethodName)) ∈ ky_B := ky_mem (kc_5 _ (List.mem_of_getElem? (i := 193) rfl)) (by decide +kernel)
theorem kw_5_194 : (Jvm.Cond.code ({ cls := "Exactdoubles", name := "ceilOf", desc := "(I)Ljava/lang/String;" } : Jvm.MethodName) prog_1_method_43_code (2 : Nat) (Option.some (Jvm.ClassFile.FieldType.object "java/lang/String"))) ∈ ky_B := ky_mem (kc_5 _ (List.mem_of_getElem? (i := 194) rfl)) (by decide +kernel)
theorem kw_5_198 : (Jvm.Cond.methodLink "ExactdoublesLaw" (157 : Nat) ({ cls := "Exactdoubles", name := "rintOf", desc := "(I)Ljava/lang/String;" } : Jvm.MethodName)) ∈ ky_B := ky_mem (kc_5 _ (List.mem_of_getElem? (i := 198) rfl)) (by decide +kernel)
theorem kw_5_199 : (Jvm.Cond.instanceMethod ({ cls := "Exactdoubles", name := "rintOf", desc := "(I)Ljava/lang/String;" } : Jvm.MethodName)) ∈ ky_B := ky_mem (kc_5 _ (List.mem_of_getElem? (i := 199) rfl)) (by decide +kernel)
theorem kw_5_200 : (Jvm.Cond.selects "Exactdoubles" ({ cls := "Exactdoubles", name := "rintOf", desc := "(I)Ljava/lang/String;" } : Jvm.MethodName) ({ cls := "Exactdoubles", name := "rintOf", desc := "(I)Ljava/lang/String;" } : Jvm.MethodName)) ∈ ky_B := ky_mem (kc_5 _ (List.mem_of_getElem? (i := 200) rfl)) (by decide +kernel)
theorem kw_5_201 : (Jvm.Cond.code ({ cls := "Exactdoubles", name := "rintOf", desc := "(I)Ljava/lang/String;" } : Jvm.MethodName) prog_1_method_44_code (2 : Nat) (Option.some (Jvm.ClassFile.FieldType.object "java/lang/String"))) ∈ ky_B := ky_mem (kc_5 _ (List.mem_of_getElem? (i := 201) rfl)) (by decide +kernel)
theorem kw_5_205 : (Jvm.Cond.methodLink "ExactdoublesLaw" (160 : Nat) ({ cls := "Exactdoubles", name := "stepOf", desc := "(I)Ljava/lang/String;" } : Jvm.MethodName)) ∈ ky_B := ky_mem (kc_5 _ (List.mem_of_getElem? (i := 205) rfl)) (by decide +kernel)
theorem kw_5_206 : (Jvm.Cond.instanceMethod ({ cls := "Exactdoubles", name := "stepOf", desc := "(I)Ljava/lang/String;" } : Jvm.MethodName)) ∈ ky_B := ky_mem (kc_5 _ (List.mem_of_getElem? (i := 206) rfl)) (by decide +kernel)
theorem kw_5_207 : (Jvm.Cond.selects "Exactdoubles" ({ cls := "Exactdoubles", name := "stepOf", desc := "(I)Ljava/lang/String;" } : Jvm.MethodName) ({ cls := "Exactdoubles", name := "stepOf", desc := "(I)Ljava/lang/String;" } : Jvm.MethodName)) ∈ ky_B := ky_mem (kc_5 _ (List.mem_of_getElem? (i := 207) rfl)) (by decide +kernel)
theorem kw_5_208 : (Jvm.Cond.code ({ cls := "Exactdoubles", name := "stepOf", desc := "(I)Ljava/lang/String;" } : Jvm.MethodName) prog_1_method_45_code (2 : Nat) (Option.some (Jvm.ClassFile.FieldType.object "java/lang/String"))) ∈ ky_B := ky_mem (kc_5 _ (List.mem_of_getElem? (i := 208) rfl)) (by decide +kernel)
theorem kw_5_212 : (Jvm.Cond.methodLink "ExactdoublesLaw" (163 : Nat) ({ cls := "Exactdoubles", name := "nextOf", desc := "(IZ)Ljava/lang/String;" } : Jvm.MethodName)) ∈ ky_B := ky_mem (kc_5 _ (List.mem_of_getElem? (i := 212) rfl)) (by decide +kernel)
theorem kw_5_213 : (Jvm.Cond.instanceMethod ({ cls := "Exactdoubles", name := "nextOf", desc := "(IZ)Ljava/lang/String;" } : Jvm.MethodName)) ∈ ky_B := ky_mem (kc_5 _ (List.mem_of_getElem? (i := 213) rfl)) (by decide +kernel)
theorem kw_5_214 : (Jvm.Cond.selects "Exactdoubles" ({ cls := "Exactdoubles", name := "nextOf", desc := "(IZ)Ljava/lang/String;" } : Jvm.MethodName) ({ cls := "Exactdoubles", name := "nextOf", desc := "(IZ)Ljava/lang/String;" } : Jvm.MethodName)) ∈ ky_B := ky_mem (kc_5 _ (List.mem_of_getElem? (i := 214) rfl)) (by decide +kernel)
theorem kw_5_215 : (Jvm.Cond.code ({ cls := "Exactdoubles", name := "nextOf", desc := "(IZ)Ljava/lang/String;" } : Jvm.MethodName) prog_1_method_46_code (3 : Nat) (Option.some (Jvm.ClassFile.FieldType.object "java/lang/String"))) ∈ ky_B := ky_mem (kc_5 _ (List.mem_of_getElem? (i := 215) rfl)) (by decide +kernel)
theorem kw_5_219 : (Jvm.Cond.methodLink "ExactdoublesLaw" (167 : Nat) ({ cls := "Exactdoubles", name := "timesOf", desc := "(II)Ljava/lang/String;" } : Jvm.MethodName)) ∈ ky_B := ky_mem (kc_5 _ (List.mem_of_getElem? (i := 219) rfl)) (by decide +kernel)
theorem kw_5_220 : (Jvm.Cond.instanceMethod ({ cls := "Exactdoubles", name := "timesOf", desc := "(II)Ljava/lang/String;" } : Jvm.MethodName)) ∈ ky_B := ky_mem (kc_5 _ (List.mem_of_getElem? (i := 220) rfl)) (by decide +kernel)
theorem kw_5_221 : (Jvm.Cond.selects "Exactdoubles" ({ cls := "Exactdoubles", name := "timesOf", desc := "(II)Ljava/lang/String;" } : Jvm.MethodName) ({ cls := "Exactdoubles", name := "timesOf", desc := "(II)Ljava/lang/String;" } : Jvm.MethodName)) ∈ ky_B := ky_mem (kc_5 _ (List.mem_of_getElem? (i := 221) rfl)) (by decide +kernel)
theorem kw_5_222 : (Jvm.Cond.code ({ cls := "Exactdoubles", name := "timesOf", desc := "(II)Ljava/lang/String;" } : Jvm.MethodName) prog_1_method_47_code (3 : Nat) (Option.some (Jvm.ClassFile.FieldType.object "java/lang/String"))) ∈ ky_B := ky_mem (kc_5 _ (List.mem_of_getElem? (i := 222) rfl)) (by decide +kernel)
theorem kw_5_226 : (Jvm.Cond.methodLink "ExactdoublesLaw" (171 : Nat) ({ cls := "Exactdoubles", name := "isBack", desc := "(II)Z" } : Jvm.MethodName)) ∈ ky_B := ky_mem (kc_5 _ (List.mem_of_getElem? (i := 226) rfl)) (by decide +kernel)
theorem kw_5_227 : (Jvm.Cond.instanceMethod ({ cls := "Exactdoubles", name := "isBack", desc := "(II)Z" } : Jvm.MethodName)) ∈ ky_B := ky_mem (kc_5 _ (List.mem_of_getElem? (i := 227) rfl)) (by decide +kernel)
theorem kw_5_228 : (Jvm.Cond.selects "Exactdoubles" ({ cls := "Exactdoubles", name := "isBack", desc := "(II)Z" } : Jvm.MethodName) ({ cls := "Exactdoubles", name := "isBack", desc := "(II)Z" } : Jvm.MethodName)) ∈ ky_B := ky_mem (kc_5 _ (List.mem_of_getElem? (i := 228) rfl)) (by decide +kernel)
theorem kw_5_229 : (Jvm.Cond.code ({ cls := "Exactdoubles", name := "isBack", desc := "(II)Z" } : Jvm.MethodName) prog_1_method_48_code (3 : Nat) (Option.some Jvm.ClassFile.FieldType.boolean)) ∈ ky_B := ky_mem (kc_5 _ (List.mem_of_getElem? (i := 229) rfl)) (by decide +kernel)
theorem kw_5_233 : (Jvm.Cond.methodLink "ExactdoublesLaw" (174 : Nat) ({ cls := "Exactdoubles", name := "house", desc := "(I)I" } : Jvm.MethodName)) ∈ ky_B := ky_mem (kc_5 _ (List.mem_of_getElem? (i := 233) rfl)) (by decide +kernel)
theorem kw_5_234 : (Jvm.Cond.instanceMethod ({ cls := "Exactdoubles", name := "house", desc := "(I)I" } : Jvm.MethodName)) ∈ ky_B := ky_mem (kc_5 _ (List.mem_of_getElem? (i := 234) rfl)) (by decide +kernel)
theorem kw_5_235 : (Jvm.Cond.selects "Exactdoubles" ({ cls := "Exactdoubles", name := "house", desc := "(I)I" } : Jvm.MethodName) ({ cls := "Exactdoubles", name := "house", desc := "(I)I" } : Jvm.MethodName)) ∈ ky_B := ky_mem (kc_5 _ (List.mem_of_getElem? (i := 235) rfl)) (by decide +kernel)
theorem kw_5_236 : (Jvm.Cond.code ({ cls := "Exactdoubles", name := "house", desc := "(I)I" } : Jvm.MethodName) prog_1_method_52_code (2 : Nat) (Option.some Jvm.ClassFile.FieldType.int)) ∈ ky_B := ky_mem (kc_5 _ (List.mem_of_getElem? (i := 236) rfl)) (by decide +kernel)
theorem kv_L_7 : ky_wV "ExactdoublesLaw" 7 my_X6_zero prog_1_method_2_code 3 (Option.some Jvm.ClassFile.FieldType.int) 2 := ⟨kw_4_83, kw_4_84, kw_4_85, kw_1_1, kw_4_86, by decide, by decide, by decide +kernel⟩
theorem kv_L_21 : ky_wV "ExactdoublesLaw" 21 my_X6_endless prog_1_method_3_code 3 (Option.some Jvm.ClassFile.FieldType.int) 2 := ⟨kw_4_113, kw_4_114, kw_4_115, kw_1_1, kw_4_116, by decide, by decide, by decide +kernel⟩
theorem kv_L_24 : ky_wV "ExactdoublesLaw" 24 my_X6_quarters prog_1_method_4_code 5 (Option.some Jvm.ClassFile.FieldType.int) 2 := ⟨kw_4_121, kw_4_122, kw_4_123, kw_1_1, kw_4_124, by decide, by decide, by decide +kernel⟩
theorem kv_L_28 : ky_wV "ExactdoublesLaw" 28 my_X6_power prog_1_method_5_code 4 (Option.some Jvm.ClassFile.FieldType.int) 3 := ⟨kw_4_133, kw_4_134, kw_4_135, kw_1_1, kw_4_136, by decide, by decide, by decide +kernel⟩
theorem kv_L_34 : ky_wV "ExactdoublesLaw" 34 my_X6_bits prog_1_method_6_code 6 (Option.some Jvm.ClassFile.FieldType.int) 3 := ⟨kw_4_148, kw_4_149, kw_4_150, kw_1_1, kw_4_151, by decide, by decide, by decide +kernel⟩
theorem kv_L_38 : ky_wV "ExactdoublesLaw" 38 my_X6_sample prog_1_method_7_code 6 (Option.some Jvm.ClassFile.FieldType.int) 3 := ⟨kw_4_159, kw_4_160, kw_4_161, kw_1_1, kw_4_162, by decide, by decide, by decide +kernel⟩
theorem kv_L_41 : ky_wV "ExactdoublesLaw" 41 my_X6_copy prog_1_method_8_code 3 (Option.some Jvm.ClassFile.FieldType.int) 2 := ⟨kw_4_170, kw_4_171, kw_4_172, kw_1_1, kw_4_173, by decide, by decide, by decide +kernel⟩
theorem kv_L_44 : ky_wV "ExactdoublesLaw" 44 my_X6_swap prog_1_method_9_code 6 (Option.some Jvm.ClassFile.FieldType.int) 2 := ⟨kw_4_180, kw_4_181, kw_4_182, kw_1_1, kw_4_183, by decide, by decide, by decide +kernel⟩
theorem kv_L_47 : ky_wV "ExactdoublesLaw" 47 my_X6_floor prog_1_method_10_code 3 (Option.some Jvm.ClassFile.FieldType.int) 2 := ⟨kw_4_187, kw_4_188, kw_4_189, kw_1_1, kw_4_190, by decide, by decide, by decide +kernel⟩
theorem kv_L_50 : ky_wV "ExactdoublesLaw" 50 my_X6_ceil prog_1_method_11_code 3 (Option.some Jvm.ClassFile.FieldType.int) 2 := ⟨kw_4_194, kw_4_195, kw_4_196, kw_1_1, kw_4_197, by decide, by decide, by decide +kernel⟩
theorem kv_L_53 : ky_wV "ExactdoublesLaw" 53 my_X6_rint prog_1_method_12_code 3 (Option.some Jvm.ClassFile.FieldType.int) 2 := ⟨kw_4_201, kw_4_202, kw_4_203, kw_1_1, kw_4_204, by decide, by decide, by decide +kernel⟩
theorem kv_L_56 : ky_wV "ExactdoublesLaw" 56 my_X6_size prog_1_method_13_code 3 (Option.some Jvm.ClassFile.FieldType.int) 2 := ⟨kw_4_208, kw_4_209, kw_4_210, kw_1_1, kw_4_211, by decide, by decide, by decide +kernel⟩
theorem kv_L_59 : ky_wV "ExactdoublesLaw" 59 my_X6_turn prog_1_method_14_code 3 (Option.some Jvm.ClassFile.FieldType.int) 2 := ⟨kw_4_216, kw_4_217, kw_4_218, kw_1_1, kw_4_219, by decide, by decide, by decide +kernel⟩
theorem kv_L_62 : ky_wV "ExactdoublesLaw" 62 my_X6_sign prog_1_method_15_code 3 (Option.some Jvm.ClassFile.FieldType.int) 2 := ⟨kw_4_224, kw_4_225, kw_4_226, kw_1_1, kw_4_227, by decide, by decide, by decide +kernel⟩
theorem kv_L_65 : ky_wV "ExactdoublesLaw" 65 my_X6_up prog_1_method_16_code 3 (Option.some Jvm.ClassFile.FieldType.int) 2 := ⟨kw_4_232, kw_4_233, kw_4_234, kw_1_1, kw_4_235, by decide, by decide, by decide +kernel⟩
theorem kv_L_68 : ky_wV "ExactdoublesLaw" 68 my_X6_down prog_1_method_17_code 3 (Option.some Jvm.ClassFile.FieldType.int) 2 := ⟨kw_4_239, kw_5_0, kw_5_1, kw_1_1, kw_5_2, by decide, by decide, by decide +kernel⟩
theorem kv_L_71 : ky_wV "ExactdoublesLaw" 71 my_X6_step prog_1_method_18_code 3 (Option.some Jvm.ClassFile.FieldType.int) 2 := ⟨kw_5_6, kw_5_7, kw_5_8, kw_1_1, kw_5_9, by decide, by decide, by decide +kernel⟩
theorem kv_L_74 : ky_wV "ExactdoublesLaw" 74 my_X6_unit prog_1_method_19_code 3 (Option.some Jvm.ClassFile.FieldType.int) 2 := ⟨kw_5_13, kw_5_14, kw_5_15, kw_1_1, kw_5_16, by decide, by decide, by decide +kernel⟩
theorem kv_L_77 : ky_wV "ExactdoublesLaw" 77 my_X6_times prog_1_method_20_code 4 (Option.some Jvm.ClassFile.FieldType.int) 3 := ⟨kw_5_20, kw_5_21, kw_5_22, kw_1_1, kw_5_23, by decide, by decide, by decide +kernel⟩
theorem kv_L_80 : ky_wV "ExactdoublesLaw" 80 my_X6_side prog_1_method_21_code 4 (Option.some Jvm.ClassFile.FieldType.int) 3 := ⟨kw_5_27, kw_5_28, kw_5_29, kw_1_1, kw_5_30, by decide, by decide, by decide +kernel⟩
theorem kv_L_83 : ky_wV "ExactdoublesLaw" 83 my_X6_max prog_1_method_22_code 4 (Option.some Jvm.ClassFile.FieldType.int) 3 := ⟨kw_5_35, kw_5_36, kw_5_37, kw_1_1, kw_5_38, by decide, by decide, by decide +kernel⟩
theorem kv_L_86 : ky_wV "ExactdoublesLaw" 86 my_X6_min prog_1_method_23_code 4 (Option.some Jvm.ClassFile.FieldType.int) 3 := ⟨kw_5_42, kw_5_43, kw_5_44, kw_1_1, kw_5_45, by decide, by decide, by decide +kernel⟩
theorem kv_L_89 : ky_wV "ExactdoublesLaw" 89 my_X6_walk prog_1_method_24_code 3 (Option.some Jvm.ClassFile.FieldType.int) 2 := ⟨kw_5_49, kw_5_50, kw_5_51, kw_1_1, kw_5_52, by decide, by decide, by decide +kernel⟩
theorem kv_L_92 : ky_wV "ExactdoublesLaw" 92 my_X6_kind prog_1_method_25_code 2 (Option.some Jvm.ClassFile.FieldType.int) 1 := ⟨kw_5_61, kw_5_62, kw_5_63, kw_1_1, kw_5_64, by decide, by decide, by decide +kernel⟩
theorem kv_L_96 : ky_wV "ExactdoublesLaw" 96 my_X6_digits prog_1_method_26_code 3 (Option.some Jvm.ClassFile.FieldType.int) 2 := ⟨kw_5_68, kw_5_69, kw_5_70, kw_1_1, kw_5_71, by decide, by decide, by decide +kernel⟩
theorem kv_L_99 : ky_wV "ExactdoublesLaw" 99 my_X6_text prog_1_method_27_code 2 (Option.some (Jvm.ClassFile.FieldType.object "java/lang/String")) 1 := ⟨kw_5_75, kw_5_76, kw_5_77, kw_1_1, kw_5_78, by decide, by decide, by decide +kernel⟩
theorem kv_L_107 : ky_wV "ExactdoublesLaw" 107 my_X6_exponent prog_1_method_28_code 2 (Option.some Jvm.ClassFile.FieldType.int) 1 := ⟨kw_5_82, kw_5_83, kw_5_84, kw_1_1, kw_5_85, by decide, by decide, by decide +kernel⟩
theorem kv_L_110 : ky_wV "ExactdoublesLaw" 110 my_X6_round prog_1_method_29_code 3 (Option.some Jvm.ClassFile.FieldType.int) 2 := ⟨kw_5_89, kw_5_90, kw_5_91, kw_1_1, kw_5_92, by decide, by decide, by decide +kernel⟩
theorem kv_L_113 : ky_wV "ExactdoublesLaw" 113 my_X6_rounded prog_1_method_30_code 2 (Option.some (Jvm.ClassFile.FieldType.object "java/lang/String")) 1 := ⟨kw_5_96, kw_5_97, kw_5_98, kw_1_1, kw_5_99, by decide, by decide, by decide +kernel⟩
theorem kv_L_116 : ky_wV "ExactdoublesLaw" 116 my_X6_cut prog_1_method_31_code 2 (Option.some (Jvm.ClassFile.FieldType.object "java/lang/String")) 1 := ⟨kw_5_107, kw_5_108, kw_5_109, kw_1_1, kw_5_110, by decide, by decide, by decide +kernel⟩
theorem kv_L_119 : ky_wV "ExactdoublesLaw" 119 my_X6_shortened prog_1_method_32_code 2 (Option.some Jvm.ClassFile.FieldType.int) 1 := ⟨kw_5_114, kw_5_115, kw_5_116, kw_1_1, kw_5_117, by decide, by decide, by decide +kernel⟩
theorem kv_L_122 : ky_wV "ExactdoublesLaw" 122 my_X6_signed prog_1_method_33_code 2 (Option.some Jvm.ClassFile.FieldType.int) 1 := ⟨kw_5_121, kw_5_122, kw_5_123, kw_1_1, kw_5_124, by decide, by decide, by decide +kernel⟩
theorem kv_L_125 : ky_wV "ExactdoublesLaw" 125 my_X6_isWhole prog_1_method_34_code 2 (Option.some Jvm.ClassFile.FieldType.boolean) 1 := ⟨kw_5_128, kw_5_129, kw_5_130, kw_1_1, kw_5_131, by decide, by decide, by decide +kernel⟩
theorem kv_L_129 : ky_wV "ExactdoublesLaw" 129 my_X6_compare prog_1_method_35_code 3 (Option.some Jvm.ClassFile.FieldType.int) 2 := ⟨kw_5_135, kw_5_136, kw_5_137, kw_1_1, kw_5_138, by decide, by decide, by decide +kernel⟩
theorem kv_L_132 : ky_wV "ExactdoublesLaw" 132 my_X6_areLike prog_1_method_36_code 3 (Option.some Jvm.ClassFile.FieldType.boolean) 2 := ⟨kw_5_142, kw_5_143, kw_5_144, kw_1_1, kw_5_145, by decide, by decide, by decide +kernel⟩
theorem kv_L_136 : ky_wV "ExactdoublesLaw" 136 my_X6_isBelow prog_1_method_37_code 3 (Option.some Jvm.ClassFile.FieldType.boolean) 2 := ⟨kw_5_149, kw_5_150, kw_5_151, kw_1_1, kw_5_152, by decide, by decide, by decide +kernel⟩
theorem kv_L_139 : ky_wV "ExactdoublesLaw" 139 my_X6_areSame prog_1_method_38_code 3 (Option.some Jvm.ClassFile.FieldType.boolean) 2 := ⟨kw_5_156, kw_5_157, kw_5_158, kw_1_1, kw_5_159, by decide, by decide, by decide +kernel⟩
theorem kv_L_142 : ky_wV "ExactdoublesLaw" 142 my_X6_isNext prog_1_method_39_code 3 (Option.some Jvm.ClassFile.FieldType.boolean) 2 := ⟨kw_5_163, kw_5_164, kw_5_165, kw_1_1, kw_5_166, by decide, by decide, by decide +kernel⟩
theorem kv_L_145 : ky_wV "ExactdoublesLaw" 145 my_X6_apart prog_1_method_40_code 3 (Option.some Jvm.ClassFile.FieldType.int) 2 := ⟨kw_5_170, kw_5_171, kw_5_172, kw_1_1, kw_5_173, by decide, by decide, by decide +kernel⟩
theorem kv_L_148 : ky_wV "ExactdoublesLaw" 148 my_X6_place prog_1_method_41_code 2 (Option.some Jvm.ClassFile.FieldType.int) 1 := ⟨kw_5_177, kw_5_178, kw_5_179, kw_1_1, kw_5_180, by decide, by decide, by decide +kernel⟩
theorem kv_L_151 : ky_wV "ExactdoublesLaw" 151 my_X6_floorOf prog_1_method_42_code 2 (Option.some (Jvm.ClassFile.FieldType.object "java/lang/String")) 1 := ⟨kw_5_184, kw_5_185, kw_5_186, kw_1_1, kw_5_187, by decide, by decide, by decide +kernel⟩
theorem kv_L_154 : ky_wV "ExactdoublesLaw" 154 my_X6_ceilOf prog_1_method_43_code 2 (Option.some (Jvm.ClassFile.FieldType.object "java/lang/String")) 1 := ⟨kw_5_191, kw_5_192, kw_5_193, kw_1_1, kw_5_194, by decide, by decide, by decide +kernel⟩
theorem kv_L_157 : ky_wV "ExactdoublesLaw" 157 my_X6_rintOf prog_1_method_44_code 2 (Option.some (Jvm.ClassFile.FieldType.object "java/lang/String")) 1 := ⟨kw_5_198, kw_5_199, kw_5_200, kw_1_1, kw_5_201, by decide, by decide, by decide +kernel⟩
theorem kv_L_160 : ky_wV "ExactdoublesLaw" 160 my_X6_stepOf prog_1_method_45_code 2 (Option.some (Jvm.ClassFile.FieldType.object "java/lang/String")) 1 := ⟨kw_5_205, kw_5_206, kw_5_207, kw_1_1, kw_5_208, by decide, by decide, by decide +kernel⟩
theorem kv_L_163 : ky_wV "ExactdoublesLaw" 163 my_X6_nextOf prog_1_method_46_code 3 (Option.some (Jvm.ClassFile.FieldType.object "java/lang/String")) 2 := ⟨kw_5_212, kw_5_213, kw_5_214, kw_1_1, kw_5_215, by decide, by decide, by decide +kernel⟩
theorem kv_L_167 : ky_wV "ExactdoublesLaw" 167 my_X6_timesOf prog_1_method_47_code 3 (Option.some (Jvm.ClassFile.FieldType.object "java/lang/String")) 2 := ⟨kw_5_219, kw_5_220, kw_5_221, kw_1_1, kw_5_222, by decide, by decide, by decide +kernel⟩
theorem kv_L_171 : ky_wV "ExactdoublesLaw" 171 my_X6_isBack prog_1_method_48_code 3 (Option.some Jvm.ClassFile.FieldType.boolean) 2 := ⟨kw_5_226, kw_5_227, kw_5_228, kw_1_1, kw_5_229, by decide, by decide, by decide +kernel⟩
theorem kv_L_174 : ky_wV "ExactdoublesLaw" 174 my_X6_house prog_1_method_52_code 2 (Option.some Jvm.ClassFile.FieldType.int) 1 := ⟨kw_5_233, kw_5_234, kw_5_235, kw_1_1, kw_5_236, by decide, by decide, by decide +kernel⟩
def dl_L_zero_0 : List (ByteArray × Nat × Jvm.ClassFile.Instr × Nat) := [(method_2_code, 0, .aload_n 3, 1), (method_2_code, 1, .aload_n 0, 1), (method_2_code, 2, .iload_n 1, 1), (method_2_code, 3, .iload_n 2, 1), (method_2_code, 4, .invokevirtual 7, 3), (method_2_code, 14, .astore 4, 2), (method_2_code, 16, .iconst 1, 1), (method_2_code, 17, .ireturn, 1), (method_2_code, 7, .i2l, 1), (method_2_code, 8, .putfield 13, 3), (method_2_code, 11, .goto 7, 3), (method_2_code, 18, .iconst 0, 1), (method_2_code, 19, .ireturn, 1), (method_3_code, 0, .aload_n 3, 1), (method_3_code, 1, .aload_n 0, 1), (method_3_code, 2, .iload_n 1, 1), (method_3_code, 3, .iload_n 2, 1), (method_3_code, 4, .invokevirtual 21, 3), (method_3_code, 14, .astore 4, 2), (method_3_code, 16, .iconst 1, 1), (method_3_code, 17, .ireturn, 1), (method_3_code, 7, .i2l, 1), (method_3_code, 8, .putfield 13, 3), (method_3_code, 11, .goto 7, 3), (method_3_code, 18, .iconst 0, 1), (method_3_code, 19, .ireturn, 1), (method_4_code, 0, .aload_n 3, 1), (method_4_code, 1, .aload_n 0, 1), (method_4_code, 2, .iload_n 1, 1), (method_4_code, 3, .iload_n 2, 1), (method_4_code, 4, .invokevirtual 24, 3), (method_4_code, 14, .astore 4, 2), (method_4_code, 16, .iconst 1, 1), (method_4_code, 17, .ireturn, 1), (method_4_code, 7, .i2l, 1), (method_4_code, 8, .putfield 13, 3), (method_4_code, 11, .goto 7, 3), (method_4_code, 18, .iconst 0, 1), (method_4_code, 19, .ireturn, 1), (method_5_code, 0, .aload 4, 2), (method_5_code, 2, .aload_n 0, 1), (method_5_code, 3, .iload_n 1, 1), (method_5_code, 4, .iload_n 2, 1), (method_5_code, 5, .iload_n 3, 1), (method_5_code, 6, .invokevirtual 28, 3), (method_5_code, 16, .astore 5, 2), (method_5_code, 18, .iconst 1, 1), (method_5_code, 19, .ireturn, 1), (method_5_code, 20, .astore 5, 2), (method_5_code, 22, .iconst 2, 1), (method_5_code, 23, .ireturn, 1), (method_5_code, 9, .i2l, 1), (method_5_code, 10, .putfield 13, 3), (method_5_code, 13, .goto 11, 3), (method_5_code, 24, .iconst 0, 1), (method_5_code, 25, .ireturn, 1), (method_6_code, 0, .aload 4, 2), (method_6_code, 2, .aload_n 0, 1), (method_6_code, 3, .iload_n 1, 1), (method_6_code, 4, .iload_n 2, 1)]
theorem db_L_zero_0 : dl_L_zero_0.all (fun x => decide (decode x.1 x.2.1 = .ok x.2.2)) = true := by decide +kernel
theorem dc_L_zero_0 : decode method_2_code 0 = .ok (.aload_n 3, 1) := ky_dc db_L_zero_0 0 rfl
theorem dc_L_zero_1 : decode method_2_code 1 = .ok (.aload_n 0, 1) := ky_dc db_L_zero_0 1 rfl
theorem dc_L_zero_2 : decode method_2_code 2 = .ok (.iload_n 1, 1) := ky_dc db_L_zero_0 2 rfl
theorem dc_L_zero_3 : decode method_2_code 3 = .ok (.iload_n 2, 1) := ky_dc db_L_zero_0 3 rfl
theorem dc_L_zero_4 : decode method_2_code 4 = .ok (.invokevirtual 7, 3) := ky_dc db_L_zero_0 4 rfl
theorem dc_L_zero_14 : decode method_2_code 14 = .ok (.astore 4, 2) := ky_dc db_L_zero_0 5 rfl
theorem dc_L_zero_16 : decode method_2_code 16 = .ok (.iconst 1, 1) := ky_dc db_L_zero_0 6 rfl
theorem dc_L_zero_17 : decode method_2_code 17 = .ok (.ireturn, 1) := ky_dc db_L_zero_0 7 rfl
theorem dc_L_zero_7 : decode method_2_code 7 = .ok (.i2l, 1) := ky_dc db_L_zero_0 8 rfl
theorem dc_L_zero_8 : decode method_2_code 8 = .ok (.putfield 13, 3) := ky_dc db_L_zero_0 9 rfl
theorem dc_L_zero_11 : decode method_2_code 11 = .ok (.goto 7, 3) := ky_dc db_L_zero_0 10 rfl
theorem dc_L_zero_18 : decode method_2_code 18 = .ok (.iconst 0, 1) := ky_dc db_L_zero_0 11 rfl
theorem dc_L_zero_19 : decode method_2_code 19 = .ok (.ireturn, 1) := ky_dc db_L_zero_0 12 rfl
theorem dc_L_endless_0 : decode method_3_code 0 = .ok (.aload_n 3, 1) := ky_dc db_L_zero_0 13 rfl
theorem dc_L_endless_1 : decode method_3_code 1 = .ok (.aload_n 0, 1) := ky_dc db_L_zero_0 14 rfl
theorem dc_L_endless_2 : decode method_3_code 2 = .ok (.iload_n 1, 1) := ky_dc db_L_zero_0 15 rfl
theorem dc_L_endless_3 : decode method_3_code 3 = .ok (.iload_n 2, 1) := ky_dc db_L_zero_0 16 rfl
theorem dc_L_endless_4 : decode method_3_code 4 = .ok (.invokevirtual 21, 3) := ky_dc db_L_zero_0 17 rfl
theorem dc_L_endless_14 : decode method_3_code 14 = .ok (.astore 4, 2) := ky_dc db_L_zero_0 18 rfl
theorem dc_L_endless_16 : decode method_3_code 16 = .ok (.iconst 1, 1) := ky_dc db_L_zero_0 19 rfl
theorem dc_L_endless_17 : decode method_3_code 17 = .ok (.ireturn, 1) := ky_dc db_L_zero_0 20 rfl
theorem dc_L_endless_7 : decode method_3_code 7 = .ok (.i2l, 1) := ky_dc db_L_zero_0 21 rfl
theorem dc_L_endless_8 : decode method_3_code 8 = .ok (.putfield 13, 3) := ky_dc db_L_zero_0 22 rfl
theorem dc_L_endless_11 : decode method_3_code 11 = .ok (.goto 7, 3) := ky_dc db_L_zero_0 23 rfl
theorem dc_L_endless_18 : decode method_3_code 18 = .ok (.iconst 0, 1) := ky_dc db_L_zero_0 24 rfl
theorem dc_L_endless_19 : decode method_3_code 19 = .ok (.ireturn, 1) := ky_dc db_L_zero_0 25 rfl
theorem dc_L_quarters_0 : decode method_4_code 0 = .ok (.aload_n 3, 1) := ky_dc db_L_zero_0 26 rfl
theorem dc_L_quarters_1 : decode method_4_code 1 = .ok (.aload_n 0, 1) := ky_dc db_L_zero_0 27 rfl
theorem dc_L_quarters_2 : decode method_4_code 2 = .ok (.iload_n 1, 1) := ky_dc db_L_zero_0 28 rfl
theorem dc_L_quarters_3 : decode method_4_code 3 = .ok (.iload_n 2, 1) := ky_dc db_L_zero_0 29 rfl
theorem dc_L_quarters_4 : decode method_4_code 4 = .ok (.invokevirtual 24, 3) := ky_dc db_L_zero_0 30 rfl
theorem dc_L_quarters_14 : decode method_4_code 14 = .ok (.astore 4, 2) := ky_dc db_L_zero_0 31 rfl
theorem dc_L_quarters_16 : decode method_4_code 16 = .ok (.iconst 1, 1) := ky_dc db_L_zero_0 32 rfl
theorem dc_L_quarters_17 : decode method_4_code 17 = .ok (.ireturn, 1) := ky_dc db_L_zero_0 33 rfl
theorem dc_L_quarters_7 : decode method_4_code 7 = .ok (.i2l, 1) := ky_dc db_L_zero_0 34 rfl
theorem dc_L_quarters_8 : decode method_4_code 8 = .ok (.putfield 13, 3) := ky_dc db_L_zero_0 35 rfl
theorem dc_L_quarters_11 : decode method_4_code 11 = .ok (.goto 7, 3) := ky_dc db_L_zero_0 36 rfl
theorem dc_L_quarters_18 : decode method_4_code 18 = .ok (.iconst 0, 1) := ky_dc db_L_zero_0 37 rfl
theorem dc_L_quarters_19 : decode method_4_code 19 = .ok (.ireturn, 1) := ky_dc db_L_zero_0 38 rfl
theorem dc_L_power_0 : decode method_5_code 0 = .ok (.aload 4, 2) := ky_dc db_L_zero_0 39 rfl
theorem dc_L_power_2 : decode method_5_code 2 = .ok (.aload_n 0, 1) := ky_dc db_L_zero_0 40 rfl
theorem dc_L_power_3 : decode method_5_code 3 = .ok (.iload_n 1, 1) := ky_dc db_L_zero_0 41 rfl
theorem dc_L_power_4 : decode method_5_code 4 = .ok (.iload_n 2, 1) := ky_dc db_L_zero_0 42 rfl
theorem dc_L_power_5 : decode method_5_code 5 = .ok (.iload_n 3, 1) := ky_dc db_L_zero_0 43 rfl
theorem dc_L_power_6 : decode method_5_code 6 = .ok (.invokevirtual 28, 3) := ky_dc db_L_zero_0 44 rfl
theorem dc_L_power_16 : decode method_5_code 16 = .ok (.astore 5, 2) := ky_dc db_L_zero_0 45 rfl
theorem dc_L_power_18 : decode method_5_code 18 = .ok (.iconst 1, 1) := ky_dc db_L_zero_0 46 rfl
theorem dc_L_power_19 : decode method_5_code 19 = .ok (.ireturn, 1) := ky_dc db_L_zero_0 47 rfl
theorem dc_L_power_20 : decode method_5_code 20 = .ok (.astore 5, 2) := ky_dc db_L_zero_0 48 rfl
theorem dc_L_power_22 : decode method_5_code 22 = .ok (.iconst 2, 1) := ky_dc db_L_zero_0 49 rfl
theorem dc_L_power_23 : decode method_5_code 23 = .ok (.ireturn, 1) := ky_dc db_L_zero_0 50 rfl
theorem dc_L_power_9 : decode method_5_code 9 = .ok (.i2l, 1) := ky_dc db_L_zero_0 51 rfl
theorem dc_L_power_10 : decode method_5_code 10 = .ok (.putfield 13, 3) := ky_dc db_L_zero_0 52 rfl
theorem dc_L_power_13 : decode method_5_code 13 = .ok (.goto 11, 3) := ky_dc db_L_zero_0 53 rfl
theorem dc_L_power_24 : decode method_5_code 24 = .ok (.iconst 0, 1) := ky_dc db_L_zero_0 54 rfl
theorem dc_L_power_25 : decode method_5_code 25 = .ok (.ireturn, 1) := ky_dc db_L_zero_0 55 rfl
theorem dc_L_bits_0 : decode method_6_code 0 = .ok (.aload 4, 2) := ky_dc db_L_zero_0 56 rfl
theorem dc_L_bits_2 : decode method_6_code 2 = .ok (.aload_n 0, 1) := ky_dc db_L_zero_0 57 rfl
theorem dc_L_bits_3 : decode method_6_code 3 = .ok (.iload_n 1, 1) := ky_dc db_L_zero_0 58 rfl
theorem dc_L_bits_4 : decode method_6_code 4 = .ok (.iload_n 2, 1) := ky_dc db_L_zero_0 59 rfl
def dl_L_bits_5 : List (ByteArray × Nat × Jvm.ClassFile.Instr × Nat) := [(method_6_code, 5, .iload_n 3, 1), (method_6_code, 6, .invokevirtual 34, 3), (method_6_code, 16, .astore 5, 2), (method_6_code, 18, .iconst 1, 1), (method_6_code, 19, .ireturn, 1), (method_6_code, 9, .i2l, 1), (method_6_code, 10, .putfield 13, 3), (method_6_code, 13, .goto 7, 3), (method_6_code, 20, .iconst 0, 1), (method_6_code, 21, .ireturn, 1), (method_7_code, 0, .aload 4, 2), (method_7_code, 2, .aload_n 0, 1), (method_7_code, 3, .iload_n 1, 1), (method_7_code, 4, .iload_n 2, 1), (method_7_code, 5, .iload_n 3, 1), (method_7_code, 6, .invokevirtual 38, 3), (method_7_code, 16, .astore 5, 2), (method_7_code, 18, .iconst 1, 1), (method_7_code, 19, .ireturn, 1), (method_7_code, 20, .astore 5, 2), (method_7_code, 22, .iconst 2, 1), (method_7_code, 23, .ireturn, 1), (method_7_code, 9, .i2l, 1), (method_7_code, 10, .putfield 13, 3), (method_7_code, 13, .goto 11, 3), (method_7_code, 24, .iconst 0, 1), (method_7_code, 25, .ireturn, 1), (method_8_code, 0, .aload_n 3, 1), (method_8_code, 1, .aload_n 0, 1), (method_8_code, 2, .iload_n 1, 1), (method_8_code, 3, .iload_n 2, 1), (method_8_code, 4, .invokevirtual 41, 3), (method_8_code, 14, .astore 4, 2), (method_8_code, 16, .iconst 1, 1), (method_8_code, 17, .ireturn, 1), (method_8_code, 7, .i2l, 1), (method_8_code, 8, .putfield 13, 3), (method_8_code, 11, .goto 7, 3), (method_8_code, 18, .iconst 0, 1), (method_8_code, 19, .ireturn, 1), (method_9_code, 0, .aload_n 3, 1), (method_9_code, 1, .aload_n 0, 1), (method_9_code, 2, .iload_n 1, 1), (method_9_code, 3, .iload_n 2, 1), (method_9_code, 4, .invokevirtual 44, 3), (method_9_code, 14, .astore 4, 2), (method_9_code, 16, .iconst 1, 1), (method_9_code, 17, .ireturn, 1), (method_9_code, 7, .i2l, 1), (method_9_code, 8, .putfield 13, 3), (method_9_code, 11, .goto 7, 3), (method_9_code, 18, .iconst 0, 1), (method_9_code, 19, .ireturn, 1), (method_10_code, 0, .aload_n 3, 1), (method_10_code, 1, .aload_n 0, 1), (method_10_code, 2, .iload_n 1, 1), (method_10_code, 3, .iload_n 2, 1), (method_10_code, 4, .invokevirtual 47, 3), (method_10_code, 14, .astore 4, 2), (method_10_code, 16, .iconst 1, 1)]
theorem db_L_bits_5 : dl_L_bits_5.all (fun x => decide (decode x.1 x.2.1 = .ok x.2.2)) = true := by decide +kernel
theorem dc_L_bits_5 : decode method_6_code 5 = .ok (.iload_n 3, 1) := ky_dc db_L_bits_5 0 rfl
theorem dc_L_bits_6 : decode method_6_code 6 = .ok (.invokevirtual 34, 3) := ky_dc db_L_bits_5 1 rfl
theorem dc_L_bits_16 : decode method_6_code 16 = .ok (.astore 5, 2) := ky_dc db_L_bits_5 2 rfl
theorem dc_L_bits_18 : decode method_6_code 18 = .ok (.iconst 1, 1) := ky_dc db_L_bits_5 3 rfl
theorem dc_L_bits_19 : decode method_6_code 19 = .ok (.ireturn, 1) := ky_dc db_L_bits_5 4 rfl
theorem dc_L_bits_9 : decode method_6_code 9 = .ok (.i2l, 1) := ky_dc db_L_bits_5 5 rfl
theorem dc_L_bits_10 : decode method_6_code 10 = .ok (.putfield 13, 3) := ky_dc db_L_bits_5 6 rfl
theorem dc_L_bits_13 : decode method_6_code 13 = .ok (.goto 7, 3) := ky_dc db_L_bits_5 7 rfl
theorem dc_L_bits_20 : decode method_6_code 20 = .ok (.iconst 0, 1) := ky_dc db_L_bits_5 8 rfl
theorem dc_L_bits_21 : decode method_6_code 21 = .ok (.ireturn, 1) := ky_dc db_L_bits_5 9 rfl
theorem dc_L_sample_0 : decode method_7_code 0 = .ok (.aload 4, 2) := ky_dc db_L_bits_5 10 rfl
theorem dc_L_sample_2 : decode method_7_code 2 = .ok (.aload_n 0, 1) := ky_dc db_L_bits_5 11 rfl
theorem dc_L_sample_3 : decode method_7_code 3 = .ok (.iload_n 1, 1) := ky_dc db_L_bits_5 12 rfl
theorem dc_L_sample_4 : decode method_7_code 4 = .ok (.iload_n 2, 1) := ky_dc db_L_bits_5 13 rfl
theorem dc_L_sample_5 : decode method_7_code 5 = .ok (.iload_n 3, 1) := ky_dc db_L_bits_5 14 rfl
theorem dc_L_sample_6 : decode method_7_code 6 = .ok (.invokevirtual 38, 3) := ky_dc db_L_bits_5 15 rfl
theorem dc_L_sample_16 : decode method_7_code 16 = .ok (.astore 5, 2) := ky_dc db_L_bits_5 16 rfl
theorem dc_L_sample_18 : decode method_7_code 18 = .ok (.iconst 1, 1) := ky_dc db_L_bits_5 17 rfl
theorem dc_L_sample_19 : decode method_7_code 19 = .ok (.ireturn, 1) := ky_dc db_L_bits_5 18 rfl
theorem dc_L_sample_20 : decode method_7_code 20 = .ok (.astore 5, 2) := ky_dc db_L_bits_5 19 rfl
theorem dc_L_sample_22 : decode method_7_code 22 = .ok (.iconst 2, 1) := ky_dc db_L_bits_5 20 rfl
theorem dc_L_sample_23 : decode method_7_code 23 = .ok (.ireturn, 1) := ky_dc db_L_bits_5 21 rfl
theorem dc_L_sample_9 : decode method_7_code 9 = .ok (.i2l, 1) := ky_dc db_L_bits_5 22 rfl
theorem dc_L_sample_10 : decode method_7_code 10 = .ok (.putfield 13, 3) := ky_dc db_L_bits_5 23 rfl
theorem dc_L_sample_13 : decode method_7_code 13 = .ok (.goto 11, 3) := ky_dc db_L_bits_5 24 rfl
theorem dc_L_sample_24 : decode method_7_code 24 = .ok (.iconst 0, 1) := ky_dc db_L_bits_5 25 rfl
theorem dc_L_sample_25 : decode method_7_code 25 = .ok (.ireturn, 1) := ky_dc db_L_bits_5 26 rfl
theorem dc_L_copy_0 : decode method_8_code 0 = .ok (.aload_n 3, 1) := ky_dc db_L_bits_5 27 rfl
theorem dc_L_copy_1 : decode method_8_code 1 = .ok (.aload_n 0, 1) := ky_dc db_L_bits_5 28 rfl
theorem dc_L_copy_2 : decode method_8_code 2 = .ok (.iload_n 1, 1) := ky_dc db_L_bits_5 29 rfl
theorem dc_L_copy_3 : decode method_8_code 3 = .ok (.iload_n 2, 1) := ky_dc db_L_bits_5 30 rfl
theorem dc_L_copy_4 : decode method_8_code 4 = .ok (.invokevirtual 41, 3) := ky_dc db_L_bits_5 31 rfl
theorem dc_L_copy_14 : decode method_8_code 14 = .ok (.astore 4, 2) := ky_dc db_L_bits_5 32 rfl
theorem dc_L_copy_16 : decode method_8_code 16 = .ok (.iconst 1, 1) := ky_dc db_L_bits_5 33 rfl
theorem dc_L_copy_17 : decode method_8_code 17 = .ok (.ireturn, 1) := ky_dc db_L_bits_5 34 rfl
theorem dc_L_copy_7 : decode method_8_code 7 = .ok (.i2l, 1) := ky_dc db_L_bits_5 35 rfl
theorem dc_L_copy_8 : decode method_8_code 8 = .ok (.putfield 13, 3) := ky_dc db_L_bits_5 36 rfl
theorem dc_L_copy_11 : decode method_8_code 11 = .ok (.goto 7, 3) := ky_dc db_L_bits_5 37 rfl
theorem dc_L_copy_18 : decode method_8_code 18 = .ok (.iconst 0, 1) := ky_dc db_L_bits_5 38 rfl
theorem dc_L_copy_19 : decode method_8_code 19 = .ok (.ireturn, 1) := ky_dc db_L_bits_5 39 rfl
theorem dc_L_swap_0 : decode method_9_code 0 = .ok (.aload_n 3, 1) := ky_dc db_L_bits_5 40 rfl
theorem dc_L_swap_1 : decode method_9_code 1 = .ok (.aload_n 0, 1) := ky_dc db_L_bits_5 41 rfl
theorem dc_L_swap_2 : decode method_9_code 2 = .ok (.iload_n 1, 1) := ky_dc db_L_bits_5 42 rfl
theorem dc_L_swap_3 : decode method_9_code 3 = .ok (.iload_n 2, 1) := ky_dc db_L_bits_5 43 rfl
theorem dc_L_swap_4 : decode method_9_code 4 = .ok (.invokevirtual 44, 3) := ky_dc db_L_bits_5 44 rfl
theorem dc_L_swap_14 : decode method_9_code 14 = .ok (.astore 4, 2) := ky_dc db_L_bits_5 45 rfl
theorem dc_L_swap_16 : decode method_9_code 16 = .ok (.iconst 1, 1) := ky_dc db_L_bits_5 46 rfl
theorem dc_L_swap_17 : decode method_9_code 17 = .ok (.ireturn, 1) := ky_dc db_L_bits_5 47 rfl
theorem dc_L_swap_7 : decode method_9_code 7 = .ok (.i2l, 1) := ky_dc db_L_bits_5 48 rfl
theorem dc_L_swap_8 : decode method_9_code 8 = .ok (.putfield 13, 3) := ky_dc db_L_bits_5 49 rfl
theorem dc_L_swap_11 : decode method_9_code 11 = .ok (.goto 7, 3) := ky_dc db_L_bits_5 50 rfl
theorem dc_L_swap_18 : decode method_9_code 18 = .ok (.iconst 0, 1) := ky_dc db_L_bits_5 51 rfl
theorem dc_L_swap_19 : decode method_9_code 19 = .ok (.ireturn, 1) := ky_dc db_L_bits_5 52 rfl
theorem dc_L_floor_0 : decode method_10_code 0 = .ok (.aload_n 3, 1) := ky_dc db_L_bits_5 53 rfl
theorem dc_L_floor_1 : decode method_10_code 1 = .ok (.aload_n 0, 1) := ky_dc db_L_bits_5 54 rfl
theorem dc_L_floor_2 : decode method_10_code 2 = .ok (.iload_n 1, 1) := ky_dc db_L_bits_5 55 rfl
theorem dc_L_floor_3 : decode method_10_code 3 = .ok (.iload_n 2, 1) := ky_dc db_L_bits_5 56 rfl
theorem dc_L_floor_4 : decode method_10_code 4 = .ok (.invokevirtual 47, 3) := ky_dc db_L_bits_5 57 rfl
theorem dc_L_floor_14 : decode method_10_code 14 = .ok (.astore 4, 2) := ky_dc db_L_bits_5 58 rfl
theorem dc_L_floor_16 : decode method_10_code 16 = .ok (.iconst 1, 1) := ky_dc db_L_bits_5 59 rfl
def dl_L_floor_17 : List (ByteArray × Nat × Jvm.ClassFile.Instr × Nat) := [(method_10_code, 17, .ireturn, 1), (method_10_code, 7, .i2l, 1), (method_10_code, 8, .putfield 13, 3), (method_10_code, 11, .goto 7, 3), (method_10_code, 18, .iconst 0, 1), (method_10_code, 19, .ireturn, 1), (method_11_code, 0, .aload_n 3, 1), (method_11_code, 1, .aload_n 0, 1), (method_11_code, 2, .iload_n 1, 1), (method_11_code, 3, .iload_n 2, 1), (method_11_code, 4, .invokevirtual 50, 3), (method_11_code, 14, .astore 4, 2), (method_11_code, 16, .iconst 1, 1), (method_11_code, 17, .ireturn, 1), (method_11_code, 7, .i2l, 1), (method_11_code, 8, .putfield 13, 3), (method_11_code, 11, .goto 7, 3), (method_11_code, 18, .iconst 0, 1), (method_11_code, 19, .ireturn, 1), (method_12_code, 0, .aload_n 3, 1), (method_12_code, 1, .aload_n 0, 1), (method_12_code, 2, .iload_n 1, 1), (method_12_code, 3, .iload_n 2, 1), (method_12_code, 4, .invokevirtual 53, 3), (method_12_code, 14, .astore 4, 2), (method_12_code, 16, .iconst 1, 1), (method_12_code, 17, .ireturn, 1), (method_12_code, 7, .i2l, 1), (method_12_code, 8, .putfield 13, 3), (method_12_code, 11, .goto 7, 3), (method_12_code, 18, .iconst 0, 1), (method_12_code, 19, .ireturn, 1), (method_13_code, 0, .aload_n 3, 1), (method_13_code, 1, .aload_n 0, 1), (method_13_code, 2, .iload_n 1, 1), (method_13_code, 3, .iload_n 2, 1), (method_13_code, 4, .invokevirtual 56, 3), (method_13_code, 14, .astore 4, 2), (method_13_code, 16, .iconst 1, 1), (method_13_code, 17, .ireturn, 1), (method_13_code, 7, .i2l, 1), (method_13_code, 8, .putfield 13, 3), (method_13_code, 11, .goto 7, 3), (method_13_code, 18, .iconst 0, 1), (method_13_code, 19, .ireturn, 1), (method_14_code, 0, .aload_n 3, 1), (method_14_code, 1, .aload_n 0, 1), (method_14_code, 2, .iload_n 1, 1), (method_14_code, 3, .iload_n 2, 1), (method_14_code, 4, .invokevirtual 59, 3), (method_14_code, 14, .astore 4, 2), (method_14_code, 16, .iconst 1, 1), (method_14_code, 17, .ireturn, 1), (method_14_code, 7, .i2l, 1), (method_14_code, 8, .putfield 13, 3), (method_14_code, 11, .goto 7, 3), (method_14_code, 18, .iconst 0, 1), (method_14_code, 19, .ireturn, 1), (method_15_code, 0, .aload_n 3, 1), (method_15_code, 1, .aload_n 0, 1)]
theorem db_L_floor_17 : dl_L_floor_17.all (fun x => decide (decode x.1 x.2.1 = .ok x.2.2)) = true := by decide +kernel
theorem dc_L_floor_17 : decode method_10_code 17 = .ok (.ireturn, 1) := ky_dc db_L_floor_17 0 rfl
theorem dc_L_floor_7 : decode method_10_code 7 = .ok (.i2l, 1) := ky_dc db_L_floor_17 1 rfl
theorem dc_L_floor_8 : decode method_10_code 8 = .ok (.putfield 13, 3) := ky_dc db_L_floor_17 2 rfl
theorem dc_L_floor_11 : decode method_10_code 11 = .ok (.goto 7, 3) := ky_dc db_L_floor_17 3 rfl
theorem dc_L_floor_18 : decode method_10_code 18 = .ok (.iconst 0, 1) := ky_dc db_L_floor_17 4 rfl
theorem dc_L_floor_19 : decode method_10_code 19 = .ok (.ireturn, 1) := ky_dc db_L_floor_17 5 rfl
theorem dc_L_ceil_0 : decode method_11_code 0 = .ok (.aload_n 3, 1) := ky_dc db_L_floor_17 6 rfl
theorem dc_L_ceil_1 : decode method_11_code 1 = .ok (.aload_n 0, 1) := ky_dc db_L_floor_17 7 rfl
theorem dc_L_ceil_2 : decode method_11_code 2 = .ok (.iload_n 1, 1) := ky_dc db_L_floor_17 8 rfl
theorem dc_L_ceil_3 : decode method_11_code 3 = .ok (.iload_n 2, 1) := ky_dc db_L_floor_17 9 rfl
theorem dc_L_ceil_4 : decode method_11_code 4 = .ok (.invokevirtual 50, 3) := ky_dc db_L_floor_17 10 rfl
theorem dc_L_ceil_14 : decode method_11_code 14 = .ok (.astore 4, 2) := ky_dc db_L_floor_17 11 rfl
theorem dc_L_ceil_16 : decode method_11_code 16 = .ok (.iconst 1, 1) := ky_dc db_L_floor_17 12 rfl
theorem dc_L_ceil_17 : decode method_11_code 17 = .ok (.ireturn, 1) := ky_dc db_L_floor_17 13 rfl
theorem dc_L_ceil_7 : decode method_11_code 7 = .ok (.i2l, 1) := ky_dc db_L_floor_17 14 rfl
theorem dc_L_ceil_8 : decode method_11_code 8 = .ok (.putfield 13, 3) := ky_dc db_L_floor_17 15 rfl
theorem dc_L_ceil_11 : decode method_11_code 11 = .ok (.goto 7, 3) := ky_dc db_L_floor_17 16 rfl
theorem dc_L_ceil_18 : decode method_11_code 18 = .ok (.iconst 0, 1) := ky_dc db_L_floor_17 17 rfl
theorem dc_L_ceil_19 : decode method_11_code 19 = .ok (.ireturn, 1) := ky_dc db_L_floor_17 18 rfl
theorem dc_L_rint_0 : decode method_12_code 0 = .ok (.aload_n 3, 1) := ky_dc db_L_floor_17 19 rfl
theorem dc_L_rint_1 : decode method_12_code 1 = .ok (.aload_n 0, 1) := ky_dc db_L_floor_17 20 rfl
theorem dc_L_rint_2 : decode method_12_code 2 = .ok (.iload_n 1, 1) := ky_dc db_L_floor_17 21 rfl
theorem dc_L_rint_3 : decode method_12_code 3 = .ok (.iload_n 2, 1) := ky_dc db_L_floor_17 22 rfl
theorem dc_L_rint_4 : decode method_12_code 4 = .ok (.invokevirtual 53, 3) := ky_dc db_L_floor_17 23 rfl
theorem dc_L_rint_14 : decode method_12_code 14 = .ok (.astore 4, 2) := ky_dc db_L_floor_17 24 rfl
theorem dc_L_rint_16 : decode method_12_code 16 = .ok (.iconst 1, 1) := ky_dc db_L_floor_17 25 rfl
theorem dc_L_rint_17 : decode method_12_code 17 = .ok (.ireturn, 1) := ky_dc db_L_floor_17 26 rfl
theorem dc_L_rint_7 : decode method_12_code 7 = .ok (.i2l, 1) := ky_dc db_L_floor_17 27 rfl
theorem dc_L_rint_8 : decode method_12_code 8 = .ok (.putfield 13, 3) := ky_dc db_L_floor_17 28 rfl
theorem dc_L_rint_11 : decode method_12_code 11 = .ok (.goto 7, 3) := ky_dc db_L_floor_17 29 rfl
theorem dc_L_rint_18 : decode method_12_code 18 = .ok (.iconst 0, 1) := ky_dc db_L_floor_17 30 rfl
theorem dc_L_rint_19 : decode method_12_code 19 = .ok (.ireturn, 1) := ky_dc db_L_floor_17 31 rfl
theorem dc_L_size_0 : decode method_13_code 0 = .ok (.aload_n 3, 1) := ky_dc db_L_floor_17 32 rfl
theorem dc_L_size_1 : decode method_13_code 1 = .ok (.aload_n 0, 1) := ky_dc db_L_floor_17 33 rfl
theorem dc_L_size_2 : decode method_13_code 2 = .ok (.iload_n 1, 1) := ky_dc db_L_floor_17 34 rfl
theorem dc_L_size_3 : decode method_13_code 3 = .ok (.iload_n 2, 1) := ky_dc db_L_floor_17 35 rfl
theorem dc_L_size_4 : decode method_13_code 4 = .ok (.invokevirtual 56, 3) := ky_dc db_L_floor_17 36 rfl
theorem dc_L_size_14 : decode method_13_code 14 = .ok (.astore 4, 2) := ky_dc db_L_floor_17 37 rfl
theorem dc_L_size_16 : decode method_13_code 16 = .ok (.iconst 1, 1) := ky_dc db_L_floor_17 38 rfl
theorem dc_L_size_17 : decode method_13_code 17 = .ok (.ireturn, 1) := ky_dc db_L_floor_17 39 rfl
theorem dc_L_size_7 : decode method_13_code 7 = .ok (.i2l, 1) := ky_dc db_L_floor_17 40 rfl
theorem dc_L_size_8 : decode method_13_code 8 = .ok (.putfield 13, 3) := ky_dc db_L_floor_17 41 rfl
theorem dc_L_size_11 : decode method_13_code 11 = .ok (.goto 7, 3) := ky_dc db_L_floor_17 42 rfl
theorem dc_L_size_18 : decode method_13_code 18 = .ok (.iconst 0, 1) := ky_dc db_L_floor_17 43 rfl
theorem dc_L_size_19 : decode method_13_code 19 = .ok (.ireturn, 1) := ky_dc db_L_floor_17 44 rfl
theorem dc_L_turn_0 : decode method_14_code 0 = .ok (.aload_n 3, 1) := ky_dc db_L_floor_17 45 rfl
theorem dc_L_turn_1 : decode method_14_code 1 = .ok (.aload_n 0, 1) := ky_dc db_L_floor_17 46 rfl
theorem dc_L_turn_2 : decode method_14_code 2 = .ok (.iload_n 1, 1) := ky_dc db_L_floor_17 47 rfl
theorem dc_L_turn_3 : decode method_14_code 3 = .ok (.iload_n 2, 1) := ky_dc db_L_floor_17 48 rfl
theorem dc_L_turn_4 : decode method_14_code 4 = .ok (.invokevirtual 59, 3) := ky_dc db_L_floor_17 49 rfl
theorem dc_L_turn_14 : decode method_14_code 14 = .ok (.astore 4, 2) := ky_dc db_L_floor_17 50 rfl
theorem dc_L_turn_16 : decode method_14_code 16 = .ok (.iconst 1, 1) := ky_dc db_L_floor_17 51 rfl
theorem dc_L_turn_17 : decode method_14_code 17 = .ok (.ireturn, 1) := ky_dc db_L_floor_17 52 rfl
theorem dc_L_turn_7 : decode method_14_code 7 = .ok (.i2l, 1) := ky_dc db_L_floor_17 53 rfl
theorem dc_L_turn_8 : decode method_14_code 8 = .ok (.putfield 13, 3) := ky_dc db_L_floor_17 54 rfl
theorem dc_L_turn_11 : decode method_14_code 11 = .ok (.goto 7, 3) := ky_dc db_L_floor_17 55 rfl
theorem dc_L_turn_18 : decode method_14_code 18 = .ok (.iconst 0, 1) := ky_dc db_L_floor_17 56 rfl
theorem dc_L_turn_19 : decode method_14_code 19 = .ok (.ireturn, 1) := ky_dc db_L_floor_17 57 rfl
theorem dc_L_sign_0 : decode method_15_code 0 = .ok (.aload_n 3, 1) := ky_dc db_L_floor_17 58 rfl
theorem dc_L_sign_1 : decode method_15_code 1 = .ok (.aload_n 0, 1) := ky_dc db_L_floor_17 59 rfl
def dl_L_sign_2 : List (ByteArray × Nat × Jvm.ClassFile.Instr × Nat) := [(method_15_code, 2, .iload_n 1, 1), (method_15_code, 3, .iload_n 2, 1), (method_15_code, 4, .invokevirtual 62, 3), (method_15_code, 14, .astore 4, 2), (method_15_code, 16, .iconst 1, 1), (method_15_code, 17, .ireturn, 1), (method_15_code, 7, .i2l, 1), (method_15_code, 8, .putfield 13, 3), (method_15_code, 11, .goto 7, 3), (method_15_code, 18, .iconst 0, 1), (method_15_code, 19, .ireturn, 1), (method_16_code, 0, .aload_n 3, 1), (method_16_code, 1, .aload_n 0, 1), (method_16_code, 2, .iload_n 1, 1), (method_16_code, 3, .iload_n 2, 1), (method_16_code, 4, .invokevirtual 65, 3), (method_16_code, 14, .astore 4, 2), (method_16_code, 16, .iconst 1, 1), (method_16_code, 17, .ireturn, 1), (method_16_code, 7, .i2l, 1), (method_16_code, 8, .putfield 13, 3), (method_16_code, 11, .goto 7, 3), (method_16_code, 18, .iconst 0, 1), (method_16_code, 19, .ireturn, 1), (method_17_code, 0, .aload_n 3, 1), (method_17_code, 1, .aload_n 0, 1), (method_17_code, 2, .iload_n 1, 1), (method_17_code, 3, .iload_n 2, 1), (method_17_code, 4, .invokevirtual 68, 3), (method_17_code, 14, .astore 4, 2), (method_17_code, 16, .iconst 1, 1), (method_17_code, 17, .ireturn, 1), (method_17_code, 7, .i2l, 1), (method_17_code, 8, .putfield 13, 3), (method_17_code, 11, .goto 7, 3), (method_17_code, 18, .iconst 0, 1), (method_17_code, 19, .ireturn, 1), (method_18_code, 0, .aload_n 3, 1), (method_18_code, 1, .aload_n 0, 1), (method_18_code, 2, .iload_n 1, 1), (method_18_code, 3, .iload_n 2, 1), (method_18_code, 4, .invokevirtual 71, 3), (method_18_code, 14, .astore 4, 2), (method_18_code, 16, .iconst 1, 1), (method_18_code, 17, .ireturn, 1), (method_18_code, 7, .i2l, 1), (method_18_code, 8, .putfield 13, 3), (method_18_code, 11, .goto 7, 3), (method_18_code, 18, .iconst 0, 1), (method_18_code, 19, .ireturn, 1), (method_19_code, 0, .aload_n 3, 1), (method_19_code, 1, .aload_n 0, 1), (method_19_code, 2, .iload_n 1, 1), (method_19_code, 3, .iload_n 2, 1), (method_19_code, 4, .invokevirtual 74, 3), (method_19_code, 14, .astore 4, 2), (method_19_code, 16, .iconst 1, 1), (method_19_code, 17, .ireturn, 1), (method_19_code, 7, .i2l, 1), (method_19_code, 8, .putfield 13, 3)]
theorem db_L_sign_2 : dl_L_sign_2.all (fun x => decide (decode x.1 x.2.1 = .ok x.2.2)) = true := by decide +kernel
theorem dc_L_sign_2 : decode method_15_code 2 = .ok (.iload_n 1, 1) := ky_dc db_L_sign_2 0 rfl
theorem dc_L_sign_3 : decode method_15_code 3 = .ok (.iload_n 2, 1) := ky_dc db_L_sign_2 1 rfl
theorem dc_L_sign_4 : decode method_15_code 4 = .ok (.invokevirtual 62, 3) := ky_dc db_L_sign_2 2 rfl
theorem dc_L_sign_14 : decode method_15_code 14 = .ok (.astore 4, 2) := ky_dc db_L_sign_2 3 rfl
theorem dc_L_sign_16 : decode method_15_code 16 = .ok (.iconst 1, 1) := ky_dc db_L_sign_2 4 rfl
theorem dc_L_sign_17 : decode method_15_code 17 = .ok (.ireturn, 1) := ky_dc db_L_sign_2 5 rfl
theorem dc_L_sign_7 : decode method_15_code 7 = .ok (.i2l, 1) := ky_dc db_L_sign_2 6 rfl
theorem dc_L_sign_8 : decode method_15_code 8 = .ok (.putfield 13, 3) := ky_dc db_L_sign_2 7 rfl
theorem dc_L_sign_11 : decode method_15_code 11 = .ok (.goto 7, 3) := ky_dc db_L_sign_2 8 rfl
theorem dc_L_sign_18 : decode method_15_code 18 = .ok (.iconst 0, 1) := ky_dc db_L_sign_2 9 rfl
theorem dc_L_sign_19 : decode method_15_code 19 = .ok (.ireturn, 1) := ky_dc db_L_sign_2 10 rfl
theorem dc_L_up_0 : decode method_16_code 0 = .ok (.aload_n 3, 1) := ky_dc db_L_sign_2 11 rfl
theorem dc_L_up_1 : decode method_16_code 1 = .ok (.aload_n 0, 1) := ky_dc db_L_sign_2 12 rfl
theorem dc_L_up_2 : decode method_16_code 2 = .ok (.iload_n 1, 1) := ky_dc db_L_sign_2 13 rfl
theorem dc_L_up_3 : decode method_16_code 3 = .ok (.iload_n 2, 1) := ky_dc db_L_sign_2 14 rfl
theorem dc_L_up_4 : decode method_16_code 4 = .ok (.invokevirtual 65, 3) := ky_dc db_L_sign_2 15 rfl
theorem dc_L_up_14 : decode method_16_code 14 = .ok (.astore 4, 2) := ky_dc db_L_sign_2 16 rfl
theorem dc_L_up_16 : decode method_16_code 16 = .ok (.iconst 1, 1) := ky_dc db_L_sign_2 17 rfl
theorem dc_L_up_17 : decode method_16_code 17 = .ok (.ireturn, 1) := ky_dc db_L_sign_2 18 rfl
theorem dc_L_up_7 : decode method_16_code 7 = .ok (.i2l, 1) := ky_dc db_L_sign_2 19 rfl
theorem dc_L_up_8 : decode method_16_code 8 = .ok (.putfield 13, 3) := ky_dc db_L_sign_2 20 rfl
theorem dc_L_up_11 : decode method_16_code 11 = .ok (.goto 7, 3) := ky_dc db_L_sign_2 21 rfl
theorem dc_L_up_18 : decode method_16_code 18 = .ok (.iconst 0, 1) := ky_dc db_L_sign_2 22 rfl
theorem dc_L_up_19 : decode method_16_code 19 = .ok (.ireturn, 1) := ky_dc db_L_sign_2 23 rfl
theorem dc_L_down_0 : decode method_17_code 0 = .ok (.aload_n 3, 1) := ky_dc db_L_sign_2 24 rfl
theorem dc_L_down_1 : decode method_17_code 1 = .ok (.aload_n 0, 1) := ky_dc db_L_sign_2 25 rfl
theorem dc_L_down_2 : decode method_17_code 2 = .ok (.iload_n 1, 1) := ky_dc db_L_sign_2 26 rfl
theorem dc_L_down_3 : decode method_17_code 3 = .ok (.iload_n 2, 1) := ky_dc db_L_sign_2 27 rfl
theorem dc_L_down_4 : decode method_17_code 4 = .ok (.invokevirtual 68, 3) := ky_dc db_L_sign_2 28 rfl
theorem dc_L_down_14 : decode method_17_code 14 = .ok (.astore 4, 2) := ky_dc db_L_sign_2 29 rfl
theorem dc_L_down_16 : decode method_17_code 16 = .ok (.iconst 1, 1) := ky_dc db_L_sign_2 30 rfl
theorem dc_L_down_17 : decode method_17_code 17 = .ok (.ireturn, 1) := ky_dc db_L_sign_2 31 rfl
theorem dc_L_down_7 : decode method_17_code 7 = .ok (.i2l, 1) := ky_dc db_L_sign_2 32 rfl
theorem dc_L_down_8 : decode method_17_code 8 = .ok (.putfield 13, 3) := ky_dc db_L_sign_2 33 rfl
theorem dc_L_down_11 : decode method_17_code 11 = .ok (.goto 7, 3) := ky_dc db_L_sign_2 34 rfl
theorem dc_L_down_18 : decode method_17_code 18 = .ok (.iconst 0, 1) := ky_dc db_L_sign_2 35 rfl
theorem dc_L_down_19 : decode method_17_code 19 = .ok (.ireturn, 1) := ky_dc db_L_sign_2 36 rfl
theorem dc_L_step_0 : decode method_18_code 0 = .ok (.aload_n 3, 1) := ky_dc db_L_sign_2 37 rfl
theorem dc_L_step_1 : decode method_18_code 1 = .ok (.aload_n 0, 1) := ky_dc db_L_sign_2 38 rfl
theorem dc_L_step_2 : decode method_18_code 2 = .ok (.iload_n 1, 1) := ky_dc db_L_sign_2 39 rfl
theorem dc_L_step_3 : decode method_18_code 3 = .ok (.iload_n 2, 1) := ky_dc db_L_sign_2 40 rfl
theorem dc_L_step_4 : decode method_18_code 4 = .ok (.invokevirtual 71, 3) := ky_dc db_L_sign_2 41 rfl
theorem dc_L_step_14 : decode method_18_code 14 = .ok (.astore 4, 2) := ky_dc db_L_sign_2 42 rfl
theorem dc_L_step_16 : decode method_18_code 16 = .ok (.iconst 1, 1) := ky_dc db_L_sign_2 43 rfl
theorem dc_L_step_17 : decode method_18_code 17 = .ok (.ireturn, 1) := ky_dc db_L_sign_2 44 rfl
theorem dc_L_step_7 : decode method_18_code 7 = .ok (.i2l, 1) := ky_dc db_L_sign_2 45 rfl
theorem dc_L_step_8 : decode method_18_code 8 = .ok (.putfield 13, 3) := ky_dc db_L_sign_2 46 rfl
theorem dc_L_step_11 : decode method_18_code 11 = .ok (.goto 7, 3) := ky_dc db_L_sign_2 47 rfl
theorem dc_L_step_18 : decode method_18_code 18 = .ok (.iconst 0, 1) := ky_dc db_L_sign_2 48 rfl
theorem dc_L_step_19 : decode method_18_code 19 = .ok (.ireturn, 1) := ky_dc db_L_sign_2 49 rfl
theorem dc_L_unit_0 : decode method_19_code 0 = .ok (.aload_n 3, 1) := ky_dc db_L_sign_2 50 rfl
theorem dc_L_unit_1 : decode method_19_code 1 = .ok (.aload_n 0, 1) := ky_dc db_L_sign_2 51 rfl
theorem dc_L_unit_2 : decode method_19_code 2 = .ok (.iload_n 1, 1) := ky_dc db_L_sign_2 52 rfl
theorem dc_L_unit_3 : decode method_19_code 3 = .ok (.iload_n 2, 1) := ky_dc db_L_sign_2 53 rfl
theorem dc_L_unit_4 : decode method_19_code 4 = .ok (.invokevirtual 74, 3) := ky_dc db_L_sign_2 54 rfl
theorem dc_L_unit_14 : decode method_19_code 14 = .ok (.astore 4, 2) := ky_dc db_L_sign_2 55 rfl
theorem dc_L_unit_16 : decode method_19_code 16 = .ok (.iconst 1, 1) := ky_dc db_L_sign_2 56 rfl
theorem dc_L_unit_17 : decode method_19_code 17 = .ok (.ireturn, 1) := ky_dc db_L_sign_2 57 rfl
theorem dc_L_unit_7 : decode method_19_code 7 = .ok (.i2l, 1) := ky_dc db_L_sign_2 58 rfl
theorem dc_L_unit_8 : decode method_19_code 8 = .ok (.putfield 13, 3) := ky_dc db_L_sign_2 59 rfl
def dl_L_unit_11 : List (ByteArray × Nat × Jvm.ClassFile.Instr × Nat) := [(method_19_code, 11, .goto 7, 3), (method_19_code, 18, .iconst 0, 1), (method_19_code, 19, .ireturn, 1), (method_20_code, 0, .aload 4, 2), (method_20_code, 2, .aload_n 0, 1), (method_20_code, 3, .iload_n 1, 1), (method_20_code, 4, .iload_n 2, 1), (method_20_code, 5, .iload_n 3, 1), (method_20_code, 6, .invokevirtual 77, 3), (method_20_code, 16, .astore 5, 2), (method_20_code, 18, .iconst 1, 1), (method_20_code, 19, .ireturn, 1), (method_20_code, 9, .i2l, 1), (method_20_code, 10, .putfield 13, 3), (method_20_code, 13, .goto 7, 3), (method_20_code, 20, .iconst 0, 1), (method_20_code, 21, .ireturn, 1), (method_21_code, 0, .aload 4, 2), (method_21_code, 2, .aload_n 0, 1), (method_21_code, 3, .iload_n 1, 1), (method_21_code, 4, .iload_n 2, 1), (method_21_code, 5, .iload_n 3, 1), (method_21_code, 6, .invokevirtual 80, 3), (method_21_code, 16, .astore 5, 2), (method_21_code, 18, .iconst 1, 1), (method_21_code, 19, .ireturn, 1), (method_21_code, 9, .i2l, 1), (method_21_code, 10, .putfield 13, 3), (method_21_code, 13, .goto 7, 3), (method_21_code, 20, .iconst 0, 1), (method_21_code, 21, .ireturn, 1), (method_22_code, 0, .aload 4, 2), (method_22_code, 2, .aload_n 0, 1), (method_22_code, 3, .iload_n 1, 1), (method_22_code, 4, .iload_n 2, 1), (method_22_code, 5, .iload_n 3, 1), (method_22_code, 6, .invokevirtual 83, 3), (method_22_code, 16, .astore 5, 2), (method_22_code, 18, .iconst 1, 1), (method_22_code, 19, .ireturn, 1), (method_22_code, 9, .i2l, 1), (method_22_code, 10, .putfield 13, 3), (method_22_code, 13, .goto 7, 3), (method_22_code, 20, .iconst 0, 1), (method_22_code, 21, .ireturn, 1), (method_23_code, 0, .aload 4, 2), (method_23_code, 2, .aload_n 0, 1), (method_23_code, 3, .iload_n 1, 1), (method_23_code, 4, .iload_n 2, 1), (method_23_code, 5, .iload_n 3, 1), (method_23_code, 6, .invokevirtual 86, 3), (method_23_code, 16, .astore 5, 2), (method_23_code, 18, .iconst 1, 1), (method_23_code, 19, .ireturn, 1), (method_23_code, 9, .i2l, 1), (method_23_code, 10, .putfield 13, 3), (method_23_code, 13, .goto 7, 3), (method_23_code, 20, .iconst 0, 1), (method_23_code, 21, .ireturn, 1), (method_24_code, 0, .aload_n 3, 1)]
theorem db_L_unit_11 : dl_L_unit_11.all (fun x => decide (decode x.1 x.2.1 = .ok x.2.2)) = true := by decide +kernel
theorem dc_L_unit_11 : decode method_19_code 11 = .ok (.goto 7, 3) := ky_dc db_L_unit_11 0 rfl
theorem dc_L_unit_18 : decode method_19_code 18 = .ok (.iconst 0, 1) := ky_dc db_L_unit_11 1 rfl
theorem dc_L_unit_19 : decode method_19_code 19 = .ok (.ireturn, 1) := ky_dc db_L_unit_11 2 rfl
theorem dc_L_times_0 : decode method_20_code 0 = .ok (.aload 4, 2) := ky_dc db_L_unit_11 3 rfl
theorem dc_L_times_2 : decode method_20_code 2 = .ok (.aload_n 0, 1) := ky_dc db_L_unit_11 4 rfl
theorem dc_L_times_3 : decode method_20_code 3 = .ok (.iload_n 1, 1) := ky_dc db_L_unit_11 5 rfl
theorem dc_L_times_4 : decode method_20_code 4 = .ok (.iload_n 2, 1) := ky_dc db_L_unit_11 6 rfl
theorem dc_L_times_5 : decode method_20_code 5 = .ok (.iload_n 3, 1) := ky_dc db_L_unit_11 7 rfl
theorem dc_L_times_6 : decode method_20_code 6 = .ok (.invokevirtual 77, 3) := ky_dc db_L_unit_11 8 rfl
theorem dc_L_times_16 : decode method_20_code 16 = .ok (.astore 5, 2) := ky_dc db_L_unit_11 9 rfl
theorem dc_L_times_18 : decode method_20_code 18 = .ok (.iconst 1, 1) := ky_dc db_L_unit_11 10 rfl
theorem dc_L_times_19 : decode method_20_code 19 = .ok (.ireturn, 1) := ky_dc db_L_unit_11 11 rfl
theorem dc_L_times_9 : decode method_20_code 9 = .ok (.i2l, 1) := ky_dc db_L_unit_11 12 rfl
theorem dc_L_times_10 : decode method_20_code 10 = .ok (.putfield 13, 3) := ky_dc db_L_unit_11 13 rfl
theorem dc_L_times_13 : decode method_20_code 13 = .ok (.goto 7, 3) := ky_dc db_L_unit_11 14 rfl
theorem dc_L_times_20 : decode method_20_code 20 = .ok (.iconst 0, 1) := ky_dc db_L_unit_11 15 rfl
theorem dc_L_times_21 : decode method_20_code 21 = .ok (.ireturn, 1) := ky_dc db_L_unit_11 16 rfl
theorem dc_L_side_0 : decode method_21_code 0 = .ok (.aload 4, 2) := ky_dc db_L_unit_11 17 rfl
theorem dc_L_side_2 : decode method_21_code 2 = .ok (.aload_n 0, 1) := ky_dc db_L_unit_11 18 rfl
theorem dc_L_side_3 : decode method_21_code 3 = .ok (.iload_n 1, 1) := ky_dc db_L_unit_11 19 rfl
theorem dc_L_side_4 : decode method_21_code 4 = .ok (.iload_n 2, 1) := ky_dc db_L_unit_11 20 rfl
theorem dc_L_side_5 : decode method_21_code 5 = .ok (.iload_n 3, 1) := ky_dc db_L_unit_11 21 rfl
theorem dc_L_side_6 : decode method_21_code 6 = .ok (.invokevirtual 80, 3) := ky_dc db_L_unit_11 22 rfl
theorem dc_L_side_16 : decode method_21_code 16 = .ok (.astore 5, 2) := ky_dc db_L_unit_11 23 rfl
theorem dc_L_side_18 : decode method_21_code 18 = .ok (.iconst 1, 1) := ky_dc db_L_unit_11 24 rfl
theorem dc_L_side_19 : decode method_21_code 19 = .ok (.ireturn, 1) := ky_dc db_L_unit_11 25 rfl
theorem dc_L_side_9 : decode method_21_code 9 = .ok (.i2l, 1) := ky_dc db_L_unit_11 26 rfl
theorem dc_L_side_10 : decode method_21_code 10 = .ok (.putfield 13, 3) := ky_dc db_L_unit_11 27 rfl
theorem dc_L_side_13 : decode method_21_code 13 = .ok (.goto 7, 3) := ky_dc db_L_unit_11 28 rfl
theorem dc_L_side_20 : decode method_21_code 20 = .ok (.iconst 0, 1) := ky_dc db_L_unit_11 29 rfl
theorem dc_L_side_21 : decode method_21_code 21 = .ok (.ireturn, 1) := ky_dc db_L_unit_11 30 rfl
theorem dc_L_max_0 : decode method_22_code 0 = .ok (.aload 4, 2) := ky_dc db_L_unit_11 31 rfl
theorem dc_L_max_2 : decode method_22_code 2 = .ok (.aload_n 0, 1) := ky_dc db_L_unit_11 32 rfl
theorem dc_L_max_3 : decode method_22_code 3 = .ok (.iload_n 1, 1) := ky_dc db_L_unit_11 33 rfl
theorem dc_L_max_4 : decode method_22_code 4 = .ok (.iload_n 2, 1) := ky_dc db_L_unit_11 34 rfl
theorem dc_L_max_5 : decode method_22_code 5 = .ok (.iload_n 3, 1) := ky_dc db_L_unit_11 35 rfl
theorem dc_L_max_6 : decode method_22_code 6 = .ok (.invokevirtual 83, 3) := ky_dc db_L_unit_11 36 rfl
theorem dc_L_max_16 : decode method_22_code 16 = .ok (.astore 5, 2) := ky_dc db_L_unit_11 37 rfl
theorem dc_L_max_18 : decode method_22_code 18 = .ok (.iconst 1, 1) := ky_dc db_L_unit_11 38 rfl
theorem dc_L_max_19 : decode method_22_code 19 = .ok (.ireturn, 1) := ky_dc db_L_unit_11 39 rfl
theorem dc_L_max_9 : decode method_22_code 9 = .ok (.i2l, 1) := ky_dc db_L_unit_11 40 rfl
theorem dc_L_max_10 : decode method_22_code 10 = .ok (.putfield 13, 3) := ky_dc db_L_unit_11 41 rfl
theorem dc_L_max_13 : decode method_22_code 13 = .ok (.goto 7, 3) := ky_dc db_L_unit_11 42 rfl
theorem dc_L_max_20 : decode method_22_code 20 = .ok (.iconst 0, 1) := ky_dc db_L_unit_11 43 rfl
theorem dc_L_max_21 : decode method_22_code 21 = .ok (.ireturn, 1) := ky_dc db_L_unit_11 44 rfl
theorem dc_L_min_0 : decode method_23_code 0 = .ok (.aload 4, 2) := ky_dc db_L_unit_11 45 rfl
theorem dc_L_min_2 : decode method_23_code 2 = .ok (.aload_n 0, 1) := ky_dc db_L_unit_11 46 rfl
theorem dc_L_min_3 : decode method_23_code 3 = .ok (.iload_n 1, 1) := ky_dc db_L_unit_11 47 rfl
theorem dc_L_min_4 : decode method_23_code 4 = .ok (.iload_n 2, 1) := ky_dc db_L_unit_11 48 rfl
theorem dc_L_min_5 : decode method_23_code 5 = .ok (.iload_n 3, 1) := ky_dc db_L_unit_11 49 rfl
theorem dc_L_min_6 : decode method_23_code 6 = .ok (.invokevirtual 86, 3) := ky_dc db_L_unit_11 50 rfl
theorem dc_L_min_16 : decode method_23_code 16 = .ok (.astore 5, 2) := ky_dc db_L_unit_11 51 rfl
theorem dc_L_min_18 : decode method_23_code 18 = .ok (.iconst 1, 1) := ky_dc db_L_unit_11 52 rfl
theorem dc_L_min_19 : decode method_23_code 19 = .ok (.ireturn, 1) := ky_dc db_L_unit_11 53 rfl
theorem dc_L_min_9 : decode method_23_code 9 = .ok (.i2l, 1) := ky_dc db_L_unit_11 54 rfl
theorem dc_L_min_10 : decode method_23_code 10 = .ok (.putfield 13, 3) := ky_dc db_L_unit_11 55 rfl
theorem dc_L_min_13 : decode method_23_code 13 = .ok (.goto 7, 3) := ky_dc db_L_unit_11 56 rfl
theorem dc_L_min_20 : decode method_23_code 20 = .ok (.iconst 0, 1) := ky_dc db_L_unit_11 57 rfl
theorem dc_L_min_21 : decode method_23_code 21 = .ok (.ireturn, 1) := ky_dc db_L_unit_11 58 rfl
theorem dc_L_walk_0 : decode method_24_code 0 = .ok (.aload_n 3, 1) := ky_dc db_L_unit_11 59 rfl
def dl_L_walk_1 : List (ByteArray × Nat × Jvm.ClassFile.Instr × Nat) := [(method_24_code, 1, .aload_n 0, 1), (method_24_code, 2, .iload_n 1, 1), (method_24_code, 3, .iload_n 2, 1), (method_24_code, 4, .invokevirtual 89, 3), (method_24_code, 14, .astore 4, 2), (method_24_code, 16, .iconst 1, 1), (method_24_code, 17, .ireturn, 1), (method_24_code, 18, .astore 4, 2), (method_24_code, 20, .iconst 2, 1), (method_24_code, 21, .ireturn, 1), (method_24_code, 7, .i2l, 1), (method_24_code, 8, .putfield 13, 3), (method_24_code, 11, .goto 11, 3), (method_24_code, 22, .iconst 0, 1), (method_24_code, 23, .ireturn, 1), (method_25_code, 0, .aload_n 2, 1), (method_25_code, 1, .aload_n 0, 1), (method_25_code, 2, .iload_n 1, 1), (method_25_code, 3, .invokevirtual 92, 3), (method_25_code, 13, .astore_n 3, 1), (method_25_code, 14, .iconst 1, 1), (method_25_code, 15, .ireturn, 1), (method_25_code, 6, .i2l, 1), (method_25_code, 7, .putfield 13, 3), (method_25_code, 10, .goto 6, 3), (method_25_code, 16, .iconst 0, 1), (method_25_code, 17, .ireturn, 1), (method_26_code, 0, .aload_n 3, 1), (method_26_code, 1, .aload_n 0, 1), (method_26_code, 2, .iload_n 1, 1), (method_26_code, 3, .iload_n 2, 1), (method_26_code, 4, .invokevirtual 96, 3), (method_26_code, 14, .astore 4, 2), (method_26_code, 16, .iconst 1, 1), (method_26_code, 17, .ireturn, 1), (method_26_code, 18, .astore 4, 2), (method_26_code, 20, .iconst 2, 1), (method_26_code, 21, .ireturn, 1), (method_26_code, 7, .i2l, 1), (method_26_code, 8, .putfield 13, 3), (method_26_code, 11, .goto 11, 3), (method_26_code, 22, .iconst 0, 1), (method_26_code, 23, .ireturn, 1), (method_27_code, 0, .aload_n 2, 1), (method_27_code, 1, .aload_n 0, 1), (method_27_code, 2, .iload_n 1, 1), (method_27_code, 3, .invokevirtual 99, 3), (method_27_code, 12, .astore_n 3, 1), (method_27_code, 13, .iconst 1, 1), (method_27_code, 14, .ireturn, 1), (method_27_code, 6, .putfield 103, 3), (method_27_code, 9, .goto 6, 3), (method_27_code, 15, .iconst 0, 1), (method_27_code, 16, .ireturn, 1), (method_28_code, 0, .aload_n 2, 1), (method_28_code, 1, .aload_n 0, 1), (method_28_code, 2, .iload_n 1, 1), (method_28_code, 3, .invokevirtual 107, 3), (method_28_code, 13, .astore_n 3, 1), (method_28_code, 14, .iconst 1, 1)]
theorem db_L_walk_1 : dl_L_walk_1.all (fun x => decide (decode x.1 x.2.1 = .ok x.2.2)) = true := by decide +kernel
theorem dc_L_walk_1 : decode method_24_code 1 = .ok (.aload_n 0, 1) := ky_dc db_L_walk_1 0 rfl
theorem dc_L_walk_2 : decode method_24_code 2 = .ok (.iload_n 1, 1) := ky_dc db_L_walk_1 1 rfl
theorem dc_L_walk_3 : decode method_24_code 3 = .ok (.iload_n 2, 1) := ky_dc db_L_walk_1 2 rfl
theorem dc_L_walk_4 : decode method_24_code 4 = .ok (.invokevirtual 89, 3) := ky_dc db_L_walk_1 3 rfl
theorem dc_L_walk_14 : decode method_24_code 14 = .ok (.astore 4, 2) := ky_dc db_L_walk_1 4 rfl
theorem dc_L_walk_16 : decode method_24_code 16 = .ok (.iconst 1, 1) := ky_dc db_L_walk_1 5 rfl
theorem dc_L_walk_17 : decode method_24_code 17 = .ok (.ireturn, 1) := ky_dc db_L_walk_1 6 rfl
theorem dc_L_walk_18 : decode method_24_code 18 = .ok (.astore 4, 2) := ky_dc db_L_walk_1 7 rfl
theorem dc_L_walk_20 : decode method_24_code 20 = .ok (.iconst 2, 1) := ky_dc db_L_walk_1 8 rfl
theorem dc_L_walk_21 : decode method_24_code 21 = .ok (.ireturn, 1) := ky_dc db_L_walk_1 9 rfl
theorem dc_L_walk_7 : decode method_24_code 7 = .ok (.i2l, 1) := ky_dc db_L_walk_1 10 rfl
theorem dc_L_walk_8 : decode method_24_code 8 = .ok (.putfield 13, 3) := ky_dc db_L_walk_1 11 rfl
theorem dc_L_walk_11 : decode method_24_code 11 = .ok (.goto 11, 3) := ky_dc db_L_walk_1 12 rfl
theorem dc_L_walk_22 : decode method_24_code 22 = .ok (.iconst 0, 1) := ky_dc db_L_walk_1 13 rfl
theorem dc_L_walk_23 : decode method_24_code 23 = .ok (.ireturn, 1) := ky_dc db_L_walk_1 14 rfl
theorem dc_L_kind_0 : decode method_25_code 0 = .ok (.aload_n 2, 1) := ky_dc db_L_walk_1 15 rfl
theorem dc_L_kind_1 : decode method_25_code 1 = .ok (.aload_n 0, 1) := ky_dc db_L_walk_1 16 rfl
theorem dc_L_kind_2 : decode method_25_code 2 = .ok (.iload_n 1, 1) := ky_dc db_L_walk_1 17 rfl
theorem dc_L_kind_3 : decode method_25_code 3 = .ok (.invokevirtual 92, 3) := ky_dc db_L_walk_1 18 rfl
theorem dc_L_kind_13 : decode method_25_code 13 = .ok (.astore_n 3, 1) := ky_dc db_L_walk_1 19 rfl
theorem dc_L_kind_14 : decode method_25_code 14 = .ok (.iconst 1, 1) := ky_dc db_L_walk_1 20 rfl
theorem dc_L_kind_15 : decode method_25_code 15 = .ok (.ireturn, 1) := ky_dc db_L_walk_1 21 rfl
theorem dc_L_kind_6 : decode method_25_code 6 = .ok (.i2l, 1) := ky_dc db_L_walk_1 22 rfl
theorem dc_L_kind_7 : decode method_25_code 7 = .ok (.putfield 13, 3) := ky_dc db_L_walk_1 23 rfl
theorem dc_L_kind_10 : decode method_25_code 10 = .ok (.goto 6, 3) := ky_dc db_L_walk_1 24 rfl
theorem dc_L_kind_16 : decode method_25_code 16 = .ok (.iconst 0, 1) := ky_dc db_L_walk_1 25 rfl
theorem dc_L_kind_17 : decode method_25_code 17 = .ok (.ireturn, 1) := ky_dc db_L_walk_1 26 rfl
theorem dc_L_digits_0 : decode method_26_code 0 = .ok (.aload_n 3, 1) := ky_dc db_L_walk_1 27 rfl
theorem dc_L_digits_1 : decode method_26_code 1 = .ok (.aload_n 0, 1) := ky_dc db_L_walk_1 28 rfl
theorem dc_L_digits_2 : decode method_26_code 2 = .ok (.iload_n 1, 1) := ky_dc db_L_walk_1 29 rfl
theorem dc_L_digits_3 : decode method_26_code 3 = .ok (.iload_n 2, 1) := ky_dc db_L_walk_1 30 rfl
theorem dc_L_digits_4 : decode method_26_code 4 = .ok (.invokevirtual 96, 3) := ky_dc db_L_walk_1 31 rfl
theorem dc_L_digits_14 : decode method_26_code 14 = .ok (.astore 4, 2) := ky_dc db_L_walk_1 32 rfl
theorem dc_L_digits_16 : decode method_26_code 16 = .ok (.iconst 1, 1) := ky_dc db_L_walk_1 33 rfl
theorem dc_L_digits_17 : decode method_26_code 17 = .ok (.ireturn, 1) := ky_dc db_L_walk_1 34 rfl
theorem dc_L_digits_18 : decode method_26_code 18 = .ok (.astore 4, 2) := ky_dc db_L_walk_1 35 rfl
theorem dc_L_digits_20 : decode method_26_code 20 = .ok (.iconst 2, 1) := ky_dc db_L_walk_1 36 rfl
theorem dc_L_digits_21 : decode method_26_code 21 = .ok (.ireturn, 1) := ky_dc db_L_walk_1 37 rfl
theorem dc_L_digits_7 : decode method_26_code 7 = .ok (.i2l, 1) := ky_dc db_L_walk_1 38 rfl
theorem dc_L_digits_8 : decode method_26_code 8 = .ok (.putfield 13, 3) := ky_dc db_L_walk_1 39 rfl
theorem dc_L_digits_11 : decode method_26_code 11 = .ok (.goto 11, 3) := ky_dc db_L_walk_1 40 rfl
theorem dc_L_digits_22 : decode method_26_code 22 = .ok (.iconst 0, 1) := ky_dc db_L_walk_1 41 rfl
theorem dc_L_digits_23 : decode method_26_code 23 = .ok (.ireturn, 1) := ky_dc db_L_walk_1 42 rfl
theorem dc_L_text_0 : decode method_27_code 0 = .ok (.aload_n 2, 1) := ky_dc db_L_walk_1 43 rfl
theorem dc_L_text_1 : decode method_27_code 1 = .ok (.aload_n 0, 1) := ky_dc db_L_walk_1 44 rfl
theorem dc_L_text_2 : decode method_27_code 2 = .ok (.iload_n 1, 1) := ky_dc db_L_walk_1 45 rfl
theorem dc_L_text_3 : decode method_27_code 3 = .ok (.invokevirtual 99, 3) := ky_dc db_L_walk_1 46 rfl
theorem dc_L_text_12 : decode method_27_code 12 = .ok (.astore_n 3, 1) := ky_dc db_L_walk_1 47 rfl
theorem dc_L_text_13 : decode method_27_code 13 = .ok (.iconst 1, 1) := ky_dc db_L_walk_1 48 rfl
theorem dc_L_text_14 : decode method_27_code 14 = .ok (.ireturn, 1) := ky_dc db_L_walk_1 49 rfl
theorem dc_L_text_6 : decode method_27_code 6 = .ok (.putfield 103, 3) := ky_dc db_L_walk_1 50 rfl
theorem dc_L_text_9 : decode method_27_code 9 = .ok (.goto 6, 3) := ky_dc db_L_walk_1 51 rfl
theorem dc_L_text_15 : decode method_27_code 15 = .ok (.iconst 0, 1) := ky_dc db_L_walk_1 52 rfl
theorem dc_L_text_16 : decode method_27_code 16 = .ok (.ireturn, 1) := ky_dc db_L_walk_1 53 rfl
theorem dc_L_exponent_0 : decode method_28_code 0 = .ok (.aload_n 2, 1) := ky_dc db_L_walk_1 54 rfl
theorem dc_L_exponent_1 : decode method_28_code 1 = .ok (.aload_n 0, 1) := ky_dc db_L_walk_1 55 rfl
theorem dc_L_exponent_2 : decode method_28_code 2 = .ok (.iload_n 1, 1) := ky_dc db_L_walk_1 56 rfl
theorem dc_L_exponent_3 : decode method_28_code 3 = .ok (.invokevirtual 107, 3) := ky_dc db_L_walk_1 57 rfl
theorem dc_L_exponent_13 : decode method_28_code 13 = .ok (.astore_n 3, 1) := ky_dc db_L_walk_1 58 rfl
theorem dc_L_exponent_14 : decode method_28_code 14 = .ok (.iconst 1, 1) := ky_dc db_L_walk_1 59 rfl
def dl_L_exponent_15 : List (ByteArray × Nat × Jvm.ClassFile.Instr × Nat) := [(method_28_code, 15, .ireturn, 1), (method_28_code, 6, .i2l, 1), (method_28_code, 7, .putfield 13, 3), (method_28_code, 10, .goto 6, 3), (method_28_code, 16, .iconst 0, 1), (method_28_code, 17, .ireturn, 1), (method_29_code, 0, .aload_n 3, 1), (method_29_code, 1, .aload_n 0, 1), (method_29_code, 2, .iload_n 1, 1), (method_29_code, 3, .iload_n 2, 1), (method_29_code, 4, .invokevirtual 110, 3), (method_29_code, 14, .astore 4, 2), (method_29_code, 16, .iconst 1, 1), (method_29_code, 17, .ireturn, 1), (method_29_code, 7, .i2l, 1), (method_29_code, 8, .putfield 13, 3), (method_29_code, 11, .goto 7, 3), (method_29_code, 18, .iconst 0, 1), (method_29_code, 19, .ireturn, 1), (method_30_code, 0, .aload_n 2, 1), (method_30_code, 1, .aload_n 0, 1), (method_30_code, 2, .iload_n 1, 1), (method_30_code, 3, .invokevirtual 113, 3), (method_30_code, 12, .astore_n 3, 1), (method_30_code, 13, .iconst 1, 1), (method_30_code, 14, .ireturn, 1), (method_30_code, 6, .putfield 103, 3), (method_30_code, 9, .goto 6, 3), (method_30_code, 15, .iconst 0, 1), (method_30_code, 16, .ireturn, 1), (method_31_code, 0, .aload_n 2, 1), (method_31_code, 1, .aload_n 0, 1), (method_31_code, 2, .iload_n 1, 1), (method_31_code, 3, .invokevirtual 116, 3), (method_31_code, 12, .astore_n 3, 1), (method_31_code, 13, .iconst 1, 1), (method_31_code, 14, .ireturn, 1), (method_31_code, 6, .putfield 103, 3), (method_31_code, 9, .goto 6, 3), (method_31_code, 15, .iconst 0, 1), (method_31_code, 16, .ireturn, 1), (method_32_code, 0, .aload_n 2, 1), (method_32_code, 1, .aload_n 0, 1), (method_32_code, 2, .iload_n 1, 1), (method_32_code, 3, .invokevirtual 119, 3), (method_32_code, 13, .astore_n 3, 1), (method_32_code, 14, .iconst 1, 1), (method_32_code, 15, .ireturn, 1), (method_32_code, 6, .i2l, 1), (method_32_code, 7, .putfield 13, 3), (method_32_code, 10, .goto 6, 3), (method_32_code, 16, .iconst 0, 1), (method_32_code, 17, .ireturn, 1), (method_33_code, 0, .aload_n 2, 1), (method_33_code, 1, .aload_n 0, 1), (method_33_code, 2, .iload_n 1, 1), (method_33_code, 3, .invokevirtual 122, 3), (method_33_code, 13, .astore_n 3, 1), (method_33_code, 14, .iconst 1, 1), (method_33_code, 15, .ireturn, 1)]
theorem db_L_exponent_15 : dl_L_exponent_15.all (fun x => decide (decode x.1 x.2.1 = .ok x.2.2)) = true := by decide +kernel
theorem dc_L_exponent_15 : decode method_28_code 15 = .ok (.ireturn, 1) := ky_dc db_L_exponent_15 0 rfl
theorem dc_L_exponent_6 : decode method_28_code 6 = .ok (.i2l, 1) := ky_dc db_L_exponent_15 1 rfl
theorem dc_L_exponent_7 : decode method_28_code 7 = .ok (.putfield 13, 3) := ky_dc db_L_exponent_15 2 rfl
theorem dc_L_exponent_10 : decode method_28_code 10 = .ok (.goto 6, 3) := ky_dc db_L_exponent_15 3 rfl
theorem dc_L_exponent_16 : decode method_28_code 16 = .ok (.iconst 0, 1) := ky_dc db_L_exponent_15 4 rfl
theorem dc_L_exponent_17 : decode method_28_code 17 = .ok (.ireturn, 1) := ky_dc db_L_exponent_15 5 rfl
theorem dc_L_round_0 : decode method_29_code 0 = .ok (.aload_n 3, 1) := ky_dc db_L_exponent_15 6 rfl
theorem dc_L_round_1 : decode method_29_code 1 = .ok (.aload_n 0, 1) := ky_dc db_L_exponent_15 7 rfl
theorem dc_L_round_2 : decode method_29_code 2 = .ok (.iload_n 1, 1) := ky_dc db_L_exponent_15 8 rfl
theorem dc_L_round_3 : decode method_29_code 3 = .ok (.iload_n 2, 1) := ky_dc db_L_exponent_15 9 rfl
theorem dc_L_round_4 : decode method_29_code 4 = .ok (.invokevirtual 110, 3) := ky_dc db_L_exponent_15 10 rfl
theorem dc_L_round_14 : decode method_29_code 14 = .ok (.astore 4, 2) := ky_dc db_L_exponent_15 11 rfl
theorem dc_L_round_16 : decode method_29_code 16 = .ok (.iconst 1, 1) := ky_dc db_L_exponent_15 12 rfl
theorem dc_L_round_17 : decode method_29_code 17 = .ok (.ireturn, 1) := ky_dc db_L_exponent_15 13 rfl
theorem dc_L_round_7 : decode method_29_code 7 = .ok (.i2l, 1) := ky_dc db_L_exponent_15 14 rfl
theorem dc_L_round_8 : decode method_29_code 8 = .ok (.putfield 13, 3) := ky_dc db_L_exponent_15 15 rfl
theorem dc_L_round_11 : decode method_29_code 11 = .ok (.goto 7, 3) := ky_dc db_L_exponent_15 16 rfl
theorem dc_L_round_18 : decode method_29_code 18 = .ok (.iconst 0, 1) := ky_dc db_L_exponent_15 17 rfl
theorem dc_L_round_19 : decode method_29_code 19 = .ok (.ireturn, 1) := ky_dc db_L_exponent_15 18 rfl
theorem dc_L_rounded_0 : decode method_30_code 0 = .ok (.aload_n 2, 1) := ky_dc db_L_exponent_15 19 rfl
theorem dc_L_rounded_1 : decode method_30_code 1 = .ok (.aload_n 0, 1) := ky_dc db_L_exponent_15 20 rfl
theorem dc_L_rounded_2 : decode method_30_code 2 = .ok (.iload_n 1, 1) := ky_dc db_L_exponent_15 21 rfl
theorem dc_L_rounded_3 : decode method_30_code 3 = .ok (.invokevirtual 113, 3) := ky_dc db_L_exponent_15 22 rfl
theorem dc_L_rounded_12 : decode method_30_code 12 = .ok (.astore_n 3, 1) := ky_dc db_L_exponent_15 23 rfl
theorem dc_L_rounded_13 : decode method_30_code 13 = .ok (.iconst 1, 1) := ky_dc db_L_exponent_15 24 rfl
theorem dc_L_rounded_14 : decode method_30_code 14 = .ok (.ireturn, 1) := ky_dc db_L_exponent_15 25 rfl
theorem dc_L_rounded_6 : decode method_30_code 6 = .ok (.putfield 103, 3) := ky_dc db_L_exponent_15 26 rfl
theorem dc_L_rounded_9 : decode method_30_code 9 = .ok (.goto 6, 3) := ky_dc db_L_exponent_15 27 rfl
theorem dc_L_rounded_15 : decode method_30_code 15 = .ok (.iconst 0, 1) := ky_dc db_L_exponent_15 28 rfl
theorem dc_L_rounded_16 : decode method_30_code 16 = .ok (.ireturn, 1) := ky_dc db_L_exponent_15 29 rfl
theorem dc_L_cut_0 : decode method_31_code 0 = .ok (.aload_n 2, 1) := ky_dc db_L_exponent_15 30 rfl
theorem dc_L_cut_1 : decode method_31_code 1 = .ok (.aload_n 0, 1) := ky_dc db_L_exponent_15 31 rfl
theorem dc_L_cut_2 : decode method_31_code 2 = .ok (.iload_n 1, 1) := ky_dc db_L_exponent_15 32 rfl
theorem dc_L_cut_3 : decode method_31_code 3 = .ok (.invokevirtual 116, 3) := ky_dc db_L_exponent_15 33 rfl
theorem dc_L_cut_12 : decode method_31_code 12 = .ok (.astore_n 3, 1) := ky_dc db_L_exponent_15 34 rfl
theorem dc_L_cut_13 : decode method_31_code 13 = .ok (.iconst 1, 1) := ky_dc db_L_exponent_15 35 rfl
theorem dc_L_cut_14 : decode method_31_code 14 = .ok (.ireturn, 1) := ky_dc db_L_exponent_15 36 rfl
theorem dc_L_cut_6 : decode method_31_code 6 = .ok (.putfield 103, 3) := ky_dc db_L_exponent_15 37 rfl
theorem dc_L_cut_9 : decode method_31_code 9 = .ok (.goto 6, 3) := ky_dc db_L_exponent_15 38 rfl
theorem dc_L_cut_15 : decode method_31_code 15 = .ok (.iconst 0, 1) := ky_dc db_L_exponent_15 39 rfl
theorem dc_L_cut_16 : decode method_31_code 16 = .ok (.ireturn, 1) := ky_dc db_L_exponent_15 40 rfl
theorem dc_L_shortened_0 : decode method_32_code 0 = .ok (.aload_n 2, 1) := ky_dc db_L_exponent_15 41 rfl
theorem dc_L_shortened_1 : decode method_32_code 1 = .ok (.aload_n 0, 1) := ky_dc db_L_exponent_15 42 rfl
theorem dc_L_shortened_2 : decode method_32_code 2 = .ok (.iload_n 1, 1) := ky_dc db_L_exponent_15 43 rfl
theorem dc_L_shortened_3 : decode method_32_code 3 = .ok (.invokevirtual 119, 3) := ky_dc db_L_exponent_15 44 rfl
theorem dc_L_shortened_13 : decode method_32_code 13 = .ok (.astore_n 3, 1) := ky_dc db_L_exponent_15 45 rfl
theorem dc_L_shortened_14 : decode method_32_code 14 = .ok (.iconst 1, 1) := ky_dc db_L_exponent_15 46 rfl
theorem dc_L_shortened_15 : decode method_32_code 15 = .ok (.ireturn, 1) := ky_dc db_L_exponent_15 47 rfl
theorem dc_L_shortened_6 : decode method_32_code 6 = .ok (.i2l, 1) := ky_dc db_L_exponent_15 48 rfl
theorem dc_L_shortened_7 : decode method_32_code 7 = .ok (.putfield 13, 3) := ky_dc db_L_exponent_15 49 rfl
theorem dc_L_shortened_10 : decode method_32_code 10 = .ok (.goto 6, 3) := ky_dc db_L_exponent_15 50 rfl
theorem dc_L_shortened_16 : decode method_32_code 16 = .ok (.iconst 0, 1) := ky_dc db_L_exponent_15 51 rfl
theorem dc_L_shortened_17 : decode method_32_code 17 = .ok (.ireturn, 1) := ky_dc db_L_exponent_15 52 rfl
theorem dc_L_signed_0 : decode method_33_code 0 = .ok (.aload_n 2, 1) := ky_dc db_L_exponent_15 53 rfl
theorem dc_L_signed_1 : decode method_33_code 1 = .ok (.aload_n 0, 1) := ky_dc db_L_exponent_15 54 rfl
theorem dc_L_signed_2 : decode method_33_code 2 = .ok (.iload_n 1, 1) := ky_dc db_L_exponent_15 55 rfl
theorem dc_L_signed_3 : decode method_33_code 3 = .ok (.invokevirtual 122, 3) := ky_dc db_L_exponent_15 56 rfl
theorem dc_L_signed_13 : decode method_33_code 13 = .ok (.astore_n 3, 1) := ky_dc db_L_exponent_15 57 rfl
theorem dc_L_signed_14 : decode method_33_code 14 = .ok (.iconst 1, 1) := ky_dc db_L_exponent_15 58 rfl
theorem dc_L_signed_15 : decode method_33_code 15 = .ok (.ireturn, 1) := ky_dc db_L_exponent_15 59 rfl
def dl_L_signed_6 : List (ByteArray × Nat × Jvm.ClassFile.Instr × Nat) := [(method_33_code, 6, .i2l, 1), (method_33_code, 7, .putfield 13, 3), (method_33_code, 10, .goto 6, 3), (method_33_code, 16, .iconst 0, 1), (method_33_code, 17, .ireturn, 1), (method_34_code, 0, .aload_n 2, 1), (method_34_code, 1, .aload_n 0, 1), (method_34_code, 2, .iload_n 1, 1), (method_34_code, 3, .invokevirtual 125, 3), (method_34_code, 20, .astore_n 3, 1), (method_34_code, 21, .iconst 1, 1), (method_34_code, 22, .ireturn, 1), (method_34_code, 6, .ifCond .eq 7, 3), (method_34_code, 13, .lconst 0, 1), (method_34_code, 14, .putfield 13, 3), (method_34_code, 17, .goto 6, 3), (method_34_code, 23, .iconst 0, 1), (method_34_code, 24, .ireturn, 1), (method_34_code, 9, .lconst 1, 1), (method_34_code, 10, .goto 4, 3), (method_35_code, 0, .aload_n 3, 1), (method_35_code, 1, .aload_n 0, 1), (method_35_code, 2, .iload_n 1, 1), (method_35_code, 3, .iload_n 2, 1), (method_35_code, 4, .invokevirtual 129, 3), (method_35_code, 14, .astore 4, 2), (method_35_code, 16, .iconst 1, 1), (method_35_code, 17, .ireturn, 1), (method_35_code, 7, .i2l, 1), (method_35_code, 8, .putfield 13, 3), (method_35_code, 11, .goto 7, 3), (method_35_code, 18, .iconst 0, 1), (method_35_code, 19, .ireturn, 1), (method_36_code, 0, .aload_n 3, 1), (method_36_code, 1, .aload_n 0, 1), (method_36_code, 2, .iload_n 1, 1), (method_36_code, 3, .iload_n 2, 1), (method_36_code, 4, .invokevirtual 132, 3), (method_36_code, 21, .astore 4, 2), (method_36_code, 23, .iconst 1, 1), (method_36_code, 24, .ireturn, 1), (method_36_code, 7, .ifCond .eq 7, 3), (method_36_code, 14, .lconst 0, 1), (method_36_code, 15, .putfield 13, 3), (method_36_code, 18, .goto 7, 3), (method_36_code, 25, .iconst 0, 1), (method_36_code, 26, .ireturn, 1), (method_36_code, 10, .lconst 1, 1), (method_36_code, 11, .goto 4, 3), (method_37_code, 0, .aload_n 3, 1), (method_37_code, 1, .aload_n 0, 1), (method_37_code, 2, .iload_n 1, 1), (method_37_code, 3, .iload_n 2, 1), (method_37_code, 4, .invokevirtual 136, 3), (method_37_code, 21, .astore 4, 2), (method_37_code, 23, .iconst 1, 1), (method_37_code, 24, .ireturn, 1), (method_37_code, 7, .ifCond .eq 7, 3), (method_37_code, 14, .lconst 0, 1), (method_37_code, 15, .putfield 13, 3)]
theorem db_L_signed_6 : dl_L_signed_6.all (fun x => decide (decode x.1 x.2.1 = .ok x.2.2)) = true := by decide +kernel
theorem dc_L_signed_6 : decode method_33_code 6 = .ok (.i2l, 1) := ky_dc db_L_signed_6 0 rfl
theorem dc_L_signed_7 : decode method_33_code 7 = .ok (.putfield 13, 3) := ky_dc db_L_signed_6 1 rfl
theorem dc_L_signed_10 : decode method_33_code 10 = .ok (.goto 6, 3) := ky_dc db_L_signed_6 2 rfl
theorem dc_L_signed_16 : decode method_33_code 16 = .ok (.iconst 0, 1) := ky_dc db_L_signed_6 3 rfl
theorem dc_L_signed_17 : decode method_33_code 17 = .ok (.ireturn, 1) := ky_dc db_L_signed_6 4 rfl
theorem dc_L_isWhole_0 : decode method_34_code 0 = .ok (.aload_n 2, 1) := ky_dc db_L_signed_6 5 rfl
theorem dc_L_isWhole_1 : decode method_34_code 1 = .ok (.aload_n 0, 1) := ky_dc db_L_signed_6 6 rfl
theorem dc_L_isWhole_2 : decode method_34_code 2 = .ok (.iload_n 1, 1) := ky_dc db_L_signed_6 7 rfl
theorem dc_L_isWhole_3 : decode method_34_code 3 = .ok (.invokevirtual 125, 3) := ky_dc db_L_signed_6 8 rfl
theorem dc_L_isWhole_20 : decode method_34_code 20 = .ok (.astore_n 3, 1) := ky_dc db_L_signed_6 9 rfl
theorem dc_L_isWhole_21 : decode method_34_code 21 = .ok (.iconst 1, 1) := ky_dc db_L_signed_6 10 rfl
theorem dc_L_isWhole_22 : decode method_34_code 22 = .ok (.ireturn, 1) := ky_dc db_L_signed_6 11 rfl
theorem dc_L_isWhole_6 : decode method_34_code 6 = .ok (.ifCond .eq 7, 3) := ky_dc db_L_signed_6 12 rfl
theorem dc_L_isWhole_13 : decode method_34_code 13 = .ok (.lconst 0, 1) := ky_dc db_L_signed_6 13 rfl
theorem dc_L_isWhole_14 : decode method_34_code 14 = .ok (.putfield 13, 3) := ky_dc db_L_signed_6 14 rfl
theorem dc_L_isWhole_17 : decode method_34_code 17 = .ok (.goto 6, 3) := ky_dc db_L_signed_6 15 rfl
theorem dc_L_isWhole_23 : decode method_34_code 23 = .ok (.iconst 0, 1) := ky_dc db_L_signed_6 16 rfl
theorem dc_L_isWhole_24 : decode method_34_code 24 = .ok (.ireturn, 1) := ky_dc db_L_signed_6 17 rfl
theorem dc_L_isWhole_9 : decode method_34_code 9 = .ok (.lconst 1, 1) := ky_dc db_L_signed_6 18 rfl
theorem dc_L_isWhole_10 : decode method_34_code 10 = .ok (.goto 4, 3) := ky_dc db_L_signed_6 19 rfl
theorem dc_L_compare_0 : decode method_35_code 0 = .ok (.aload_n 3, 1) := ky_dc db_L_signed_6 20 rfl
theorem dc_L_compare_1 : decode method_35_code 1 = .ok (.aload_n 0, 1) := ky_dc db_L_signed_6 21 rfl
theorem dc_L_compare_2 : decode method_35_code 2 = .ok (.iload_n 1, 1) := ky_dc db_L_signed_6 22 rfl
theorem dc_L_compare_3 : decode method_35_code 3 = .ok (.iload_n 2, 1) := ky_dc db_L_signed_6 23 rfl
theorem dc_L_compare_4 : decode method_35_code 4 = .ok (.invokevirtual 129, 3) := ky_dc db_L_signed_6 24 rfl
theorem dc_L_compare_14 : decode method_35_code 14 = .ok (.astore 4, 2) := ky_dc db_L_signed_6 25 rfl
theorem dc_L_compare_16 : decode method_35_code 16 = .ok (.iconst 1, 1) := ky_dc db_L_signed_6 26 rfl
theorem dc_L_compare_17 : decode method_35_code 17 = .ok (.ireturn, 1) := ky_dc db_L_signed_6 27 rfl
theorem dc_L_compare_7 : decode method_35_code 7 = .ok (.i2l, 1) := ky_dc db_L_signed_6 28 rfl
theorem dc_L_compare_8 : decode method_35_code 8 = .ok (.putfield 13, 3) := ky_dc db_L_signed_6 29 rfl
theorem dc_L_compare_11 : decode method_35_code 11 = .ok (.goto 7, 3) := ky_dc db_L_signed_6 30 rfl
theorem dc_L_compare_18 : decode method_35_code 18 = .ok (.iconst 0, 1) := ky_dc db_L_signed_6 31 rfl
theorem dc_L_compare_19 : decode method_35_code 19 = .ok (.ireturn, 1) := ky_dc db_L_signed_6 32 rfl
theorem dc_L_areLike_0 : decode method_36_code 0 = .ok (.aload_n 3, 1) := ky_dc db_L_signed_6 33 rfl
theorem dc_L_areLike_1 : decode method_36_code 1 = .ok (.aload_n 0, 1) := ky_dc db_L_signed_6 34 rfl
theorem dc_L_areLike_2 : decode method_36_code 2 = .ok (.iload_n 1, 1) := ky_dc db_L_signed_6 35 rfl
theorem dc_L_areLike_3 : decode method_36_code 3 = .ok (.iload_n 2, 1) := ky_dc db_L_signed_6 36 rfl
theorem dc_L_areLike_4 : decode method_36_code 4 = .ok (.invokevirtual 132, 3) := ky_dc db_L_signed_6 37 rfl
theorem dc_L_areLike_21 : decode method_36_code 21 = .ok (.astore 4, 2) := ky_dc db_L_signed_6 38 rfl
theorem dc_L_areLike_23 : decode method_36_code 23 = .ok (.iconst 1, 1) := ky_dc db_L_signed_6 39 rfl
theorem dc_L_areLike_24 : decode method_36_code 24 = .ok (.ireturn, 1) := ky_dc db_L_signed_6 40 rfl
theorem dc_L_areLike_7 : decode method_36_code 7 = .ok (.ifCond .eq 7, 3) := ky_dc db_L_signed_6 41 rfl
theorem dc_L_areLike_14 : decode method_36_code 14 = .ok (.lconst 0, 1) := ky_dc db_L_signed_6 42 rfl
theorem dc_L_areLike_15 : decode method_36_code 15 = .ok (.putfield 13, 3) := ky_dc db_L_signed_6 43 rfl
theorem dc_L_areLike_18 : decode method_36_code 18 = .ok (.goto 7, 3) := ky_dc db_L_signed_6 44 rfl
theorem dc_L_areLike_25 : decode method_36_code 25 = .ok (.iconst 0, 1) := ky_dc db_L_signed_6 45 rfl
theorem dc_L_areLike_26 : decode method_36_code 26 = .ok (.ireturn, 1) := ky_dc db_L_signed_6 46 rfl
theorem dc_L_areLike_10 : decode method_36_code 10 = .ok (.lconst 1, 1) := ky_dc db_L_signed_6 47 rfl
theorem dc_L_areLike_11 : decode method_36_code 11 = .ok (.goto 4, 3) := ky_dc db_L_signed_6 48 rfl
theorem dc_L_isBelow_0 : decode method_37_code 0 = .ok (.aload_n 3, 1) := ky_dc db_L_signed_6 49 rfl
theorem dc_L_isBelow_1 : decode method_37_code 1 = .ok (.aload_n 0, 1) := ky_dc db_L_signed_6 50 rfl
theorem dc_L_isBelow_2 : decode method_37_code 2 = .ok (.iload_n 1, 1) := ky_dc db_L_signed_6 51 rfl
theorem dc_L_isBelow_3 : decode method_37_code 3 = .ok (.iload_n 2, 1) := ky_dc db_L_signed_6 52 rfl
theorem dc_L_isBelow_4 : decode method_37_code 4 = .ok (.invokevirtual 136, 3) := ky_dc db_L_signed_6 53 rfl
theorem dc_L_isBelow_21 : decode method_37_code 21 = .ok (.astore 4, 2) := ky_dc db_L_signed_6 54 rfl
theorem dc_L_isBelow_23 : decode method_37_code 23 = .ok (.iconst 1, 1) := ky_dc db_L_signed_6 55 rfl
theorem dc_L_isBelow_24 : decode method_37_code 24 = .ok (.ireturn, 1) := ky_dc db_L_signed_6 56 rfl
theorem dc_L_isBelow_7 : decode method_37_code 7 = .ok (.ifCond .eq 7, 3) := ky_dc db_L_signed_6 57 rfl
theorem dc_L_isBelow_14 : decode method_37_code 14 = .ok (.lconst 0, 1) := ky_dc db_L_signed_6 58 rfl
theorem dc_L_isBelow_15 : decode method_37_code 15 = .ok (.putfield 13, 3) := ky_dc db_L_signed_6 59 rfl
def dl_L_isBelow_18 : List (ByteArray × Nat × Jvm.ClassFile.Instr × Nat) := [(method_37_code, 18, .goto 7, 3), (method_37_code, 25, .iconst 0, 1), (method_37_code, 26, .ireturn, 1), (method_37_code, 10, .lconst 1, 1), (method_37_code, 11, .goto 4, 3), (method_38_code, 0, .aload_n 3, 1), (method_38_code, 1, .aload_n 0, 1), (method_38_code, 2, .iload_n 1, 1), (method_38_code, 3, .iload_n 2, 1), (method_38_code, 4, .invokevirtual 139, 3), (method_38_code, 21, .astore 4, 2), (method_38_code, 23, .iconst 1, 1), (method_38_code, 24, .ireturn, 1), (method_38_code, 7, .ifCond .eq 7, 3), (method_38_code, 14, .lconst 0, 1), (method_38_code, 15, .putfield 13, 3), (method_38_code, 18, .goto 7, 3), (method_38_code, 25, .iconst 0, 1), (method_38_code, 26, .ireturn, 1), (method_38_code, 10, .lconst 1, 1), (method_38_code, 11, .goto 4, 3), (method_39_code, 0, .aload_n 3, 1), (method_39_code, 1, .aload_n 0, 1), (method_39_code, 2, .iload_n 1, 1), (method_39_code, 3, .iload_n 2, 1), (method_39_code, 4, .invokevirtual 142, 3), (method_39_code, 21, .astore 4, 2), (method_39_code, 23, .iconst 1, 1), (method_39_code, 24, .ireturn, 1), (method_39_code, 7, .ifCond .eq 7, 3), (method_39_code, 14, .lconst 0, 1), (method_39_code, 15, .putfield 13, 3), (method_39_code, 18, .goto 7, 3), (method_39_code, 25, .iconst 0, 1), (method_39_code, 26, .ireturn, 1), (method_39_code, 10, .lconst 1, 1), (method_39_code, 11, .goto 4, 3), (method_40_code, 0, .aload_n 3, 1), (method_40_code, 1, .aload_n 0, 1), (method_40_code, 2, .iload_n 1, 1), (method_40_code, 3, .iload_n 2, 1), (method_40_code, 4, .invokevirtual 145, 3), (method_40_code, 14, .astore 4, 2), (method_40_code, 16, .iconst 1, 1), (method_40_code, 17, .ireturn, 1), (method_40_code, 7, .i2l, 1), (method_40_code, 8, .putfield 13, 3), (method_40_code, 11, .goto 7, 3), (method_40_code, 18, .iconst 0, 1), (method_40_code, 19, .ireturn, 1), (method_41_code, 0, .aload_n 2, 1), (method_41_code, 1, .aload_n 0, 1), (method_41_code, 2, .iload_n 1, 1), (method_41_code, 3, .invokevirtual 148, 3), (method_41_code, 13, .astore_n 3, 1), (method_41_code, 14, .iconst 1, 1), (method_41_code, 15, .ireturn, 1), (method_41_code, 6, .i2l, 1), (method_41_code, 7, .putfield 13, 3), (method_41_code, 10, .goto 6, 3)]
theorem db_L_isBelow_18 : dl_L_isBelow_18.all (fun x => decide (decode x.1 x.2.1 = .ok x.2.2)) = true := by decide +kernel
theorem dc_L_isBelow_18 : decode method_37_code 18 = .ok (.goto 7, 3) := ky_dc db_L_isBelow_18 0 rfl
theorem dc_L_isBelow_25 : decode method_37_code 25 = .ok (.iconst 0, 1) := ky_dc db_L_isBelow_18 1 rfl
theorem dc_L_isBelow_26 : decode method_37_code 26 = .ok (.ireturn, 1) := ky_dc db_L_isBelow_18 2 rfl
theorem dc_L_isBelow_10 : decode method_37_code 10 = .ok (.lconst 1, 1) := ky_dc db_L_isBelow_18 3 rfl
theorem dc_L_isBelow_11 : decode method_37_code 11 = .ok (.goto 4, 3) := ky_dc db_L_isBelow_18 4 rfl
theorem dc_L_areSame_0 : decode method_38_code 0 = .ok (.aload_n 3, 1) := ky_dc db_L_isBelow_18 5 rfl
theorem dc_L_areSame_1 : decode method_38_code 1 = .ok (.aload_n 0, 1) := ky_dc db_L_isBelow_18 6 rfl
theorem dc_L_areSame_2 : decode method_38_code 2 = .ok (.iload_n 1, 1) := ky_dc db_L_isBelow_18 7 rfl
theorem dc_L_areSame_3 : decode method_38_code 3 = .ok (.iload_n 2, 1) := ky_dc db_L_isBelow_18 8 rfl
theorem dc_L_areSame_4 : decode method_38_code 4 = .ok (.invokevirtual 139, 3) := ky_dc db_L_isBelow_18 9 rfl
theorem dc_L_areSame_21 : decode method_38_code 21 = .ok (.astore 4, 2) := ky_dc db_L_isBelow_18 10 rfl
theorem dc_L_areSame_23 : decode method_38_code 23 = .ok (.iconst 1, 1) := ky_dc db_L_isBelow_18 11 rfl
theorem dc_L_areSame_24 : decode method_38_code 24 = .ok (.ireturn, 1) := ky_dc db_L_isBelow_18 12 rfl
theorem dc_L_areSame_7 : decode method_38_code 7 = .ok (.ifCond .eq 7, 3) := ky_dc db_L_isBelow_18 13 rfl
theorem dc_L_areSame_14 : decode method_38_code 14 = .ok (.lconst 0, 1) := ky_dc db_L_isBelow_18 14 rfl
theorem dc_L_areSame_15 : decode method_38_code 15 = .ok (.putfield 13, 3) := ky_dc db_L_isBelow_18 15 rfl
theorem dc_L_areSame_18 : decode method_38_code 18 = .ok (.goto 7, 3) := ky_dc db_L_isBelow_18 16 rfl
theorem dc_L_areSame_25 : decode method_38_code 25 = .ok (.iconst 0, 1) := ky_dc db_L_isBelow_18 17 rfl
theorem dc_L_areSame_26 : decode method_38_code 26 = .ok (.ireturn, 1) := ky_dc db_L_isBelow_18 18 rfl
theorem dc_L_areSame_10 : decode method_38_code 10 = .ok (.lconst 1, 1) := ky_dc db_L_isBelow_18 19 rfl
theorem dc_L_areSame_11 : decode method_38_code 11 = .ok (.goto 4, 3) := ky_dc db_L_isBelow_18 20 rfl
theorem dc_L_isNext_0 : decode method_39_code 0 = .ok (.aload_n 3, 1) := ky_dc db_L_isBelow_18 21 rfl
theorem dc_L_isNext_1 : decode method_39_code 1 = .ok (.aload_n 0, 1) := ky_dc db_L_isBelow_18 22 rfl
theorem dc_L_isNext_2 : decode method_39_code 2 = .ok (.iload_n 1, 1) := ky_dc db_L_isBelow_18 23 rfl
theorem dc_L_isNext_3 : decode method_39_code 3 = .ok (.iload_n 2, 1) := ky_dc db_L_isBelow_18 24 rfl
theorem dc_L_isNext_4 : decode method_39_code 4 = .ok (.invokevirtual 142, 3) := ky_dc db_L_isBelow_18 25 rfl
theorem dc_L_isNext_21 : decode method_39_code 21 = .ok (.astore 4, 2) := ky_dc db_L_isBelow_18 26 rfl
theorem dc_L_isNext_23 : decode method_39_code 23 = .ok (.iconst 1, 1) := ky_dc db_L_isBelow_18 27 rfl
theorem dc_L_isNext_24 : decode method_39_code 24 = .ok (.ireturn, 1) := ky_dc db_L_isBelow_18 28 rfl
theorem dc_L_isNext_7 : decode method_39_code 7 = .ok (.ifCond .eq 7, 3) := ky_dc db_L_isBelow_18 29 rfl
theorem dc_L_isNext_14 : decode method_39_code 14 = .ok (.lconst 0, 1) := ky_dc db_L_isBelow_18 30 rfl
theorem dc_L_isNext_15 : decode method_39_code 15 = .ok (.putfield 13, 3) := ky_dc db_L_isBelow_18 31 rfl
theorem dc_L_isNext_18 : decode method_39_code 18 = .ok (.goto 7, 3) := ky_dc db_L_isBelow_18 32 rfl
theorem dc_L_isNext_25 : decode method_39_code 25 = .ok (.iconst 0, 1) := ky_dc db_L_isBelow_18 33 rfl
theorem dc_L_isNext_26 : decode method_39_code 26 = .ok (.ireturn, 1) := ky_dc db_L_isBelow_18 34 rfl
theorem dc_L_isNext_10 : decode method_39_code 10 = .ok (.lconst 1, 1) := ky_dc db_L_isBelow_18 35 rfl
theorem dc_L_isNext_11 : decode method_39_code 11 = .ok (.goto 4, 3) := ky_dc db_L_isBelow_18 36 rfl
theorem dc_L_apart_0 : decode method_40_code 0 = .ok (.aload_n 3, 1) := ky_dc db_L_isBelow_18 37 rfl
theorem dc_L_apart_1 : decode method_40_code 1 = .ok (.aload_n 0, 1) := ky_dc db_L_isBelow_18 38 rfl
theorem dc_L_apart_2 : decode method_40_code 2 = .ok (.iload_n 1, 1) := ky_dc db_L_isBelow_18 39 rfl
theorem dc_L_apart_3 : decode method_40_code 3 = .ok (.iload_n 2, 1) := ky_dc db_L_isBelow_18 40 rfl
theorem dc_L_apart_4 : decode method_40_code 4 = .ok (.invokevirtual 145, 3) := ky_dc db_L_isBelow_18 41 rfl
theorem dc_L_apart_14 : decode method_40_code 14 = .ok (.astore 4, 2) := ky_dc db_L_isBelow_18 42 rfl
theorem dc_L_apart_16 : decode method_40_code 16 = .ok (.iconst 1, 1) := ky_dc db_L_isBelow_18 43 rfl
theorem dc_L_apart_17 : decode method_40_code 17 = .ok (.ireturn, 1) := ky_dc db_L_isBelow_18 44 rfl
theorem dc_L_apart_7 : decode method_40_code 7 = .ok (.i2l, 1) := ky_dc db_L_isBelow_18 45 rfl
theorem dc_L_apart_8 : decode method_40_code 8 = .ok (.putfield 13, 3) := ky_dc db_L_isBelow_18 46 rfl
theorem dc_L_apart_11 : decode method_40_code 11 = .ok (.goto 7, 3) := ky_dc db_L_isBelow_18 47 rfl
theorem dc_L_apart_18 : decode method_40_code 18 = .ok (.iconst 0, 1) := ky_dc db_L_isBelow_18 48 rfl
theorem dc_L_apart_19 : decode method_40_code 19 = .ok (.ireturn, 1) := ky_dc db_L_isBelow_18 49 rfl
theorem dc_L_place_0 : decode method_41_code 0 = .ok (.aload_n 2, 1) := ky_dc db_L_isBelow_18 50 rfl
theorem dc_L_place_1 : decode method_41_code 1 = .ok (.aload_n 0, 1) := ky_dc db_L_isBelow_18 51 rfl
theorem dc_L_place_2 : decode method_41_code 2 = .ok (.iload_n 1, 1) := ky_dc db_L_isBelow_18 52 rfl
theorem dc_L_place_3 : decode method_41_code 3 = .ok (.invokevirtual 148, 3) := ky_dc db_L_isBelow_18 53 rfl
theorem dc_L_place_13 : decode method_41_code 13 = .ok (.astore_n 3, 1) := ky_dc db_L_isBelow_18 54 rfl
theorem dc_L_place_14 : decode method_41_code 14 = .ok (.iconst 1, 1) := ky_dc db_L_isBelow_18 55 rfl
theorem dc_L_place_15 : decode method_41_code 15 = .ok (.ireturn, 1) := ky_dc db_L_isBelow_18 56 rfl
theorem dc_L_place_6 : decode method_41_code 6 = .ok (.i2l, 1) := ky_dc db_L_isBelow_18 57 rfl
theorem dc_L_place_7 : decode method_41_code 7 = .ok (.putfield 13, 3) := ky_dc db_L_isBelow_18 58 rfl
theorem dc_L_place_10 : decode method_41_code 10 = .ok (.goto 6, 3) := ky_dc db_L_isBelow_18 59 rfl
def dl_L_place_16 : List (ByteArray × Nat × Jvm.ClassFile.Instr × Nat) := [(method_41_code, 16, .iconst 0, 1), (method_41_code, 17, .ireturn, 1), (method_42_code, 0, .aload_n 2, 1), (method_42_code, 1, .aload_n 0, 1), (method_42_code, 2, .iload_n 1, 1), (method_42_code, 3, .invokevirtual 151, 3), (method_42_code, 12, .astore_n 3, 1), (method_42_code, 13, .iconst 1, 1), (method_42_code, 14, .ireturn, 1), (method_42_code, 6, .putfield 103, 3), (method_42_code, 9, .goto 6, 3), (method_42_code, 15, .iconst 0, 1), (method_42_code, 16, .ireturn, 1), (method_43_code, 0, .aload_n 2, 1), (method_43_code, 1, .aload_n 0, 1), (method_43_code, 2, .iload_n 1, 1), (method_43_code, 3, .invokevirtual 154, 3), (method_43_code, 12, .astore_n 3, 1), (method_43_code, 13, .iconst 1, 1), (method_43_code, 14, .ireturn, 1), (method_43_code, 6, .putfield 103, 3), (method_43_code, 9, .goto 6, 3), (method_43_code, 15, .iconst 0, 1), (method_43_code, 16, .ireturn, 1), (method_44_code, 0, .aload_n 2, 1), (method_44_code, 1, .aload_n 0, 1), (method_44_code, 2, .iload_n 1, 1), (method_44_code, 3, .invokevirtual 157, 3), (method_44_code, 12, .astore_n 3, 1), (method_44_code, 13, .iconst 1, 1), (method_44_code, 14, .ireturn, 1), (method_44_code, 6, .putfield 103, 3), (method_44_code, 9, .goto 6, 3), (method_44_code, 15, .iconst 0, 1), (method_44_code, 16, .ireturn, 1), (method_45_code, 0, .aload_n 2, 1), (method_45_code, 1, .aload_n 0, 1), (method_45_code, 2, .iload_n 1, 1), (method_45_code, 3, .invokevirtual 160, 3), (method_45_code, 12, .astore_n 3, 1), (method_45_code, 13, .iconst 1, 1), (method_45_code, 14, .ireturn, 1), (method_45_code, 6, .putfield 103, 3), (method_45_code, 9, .goto 6, 3), (method_45_code, 15, .iconst 0, 1), (method_45_code, 16, .ireturn, 1), (method_46_code, 0, .aload_n 3, 1), (method_46_code, 1, .aload_n 0, 1), (method_46_code, 2, .iload_n 1, 1), (method_46_code, 3, .iload_n 2, 1), (method_46_code, 4, .invokevirtual 163, 3), (method_46_code, 13, .astore 4, 2), (method_46_code, 15, .iconst 1, 1), (method_46_code, 16, .ireturn, 1), (method_46_code, 7, .putfield 103, 3), (method_46_code, 10, .goto 7, 3), (method_46_code, 17, .iconst 0, 1), (method_46_code, 18, .ireturn, 1), (method_47_code, 0, .aload_n 3, 1), (method_47_code, 1, .aload_n 0, 1)]
theorem db_L_place_16 : dl_L_place_16.all (fun x => decide (decode x.1 x.2.1 = .ok x.2.2)) = true := by decide +kernel
theorem dc_L_place_16 : decode method_41_code 16 = .ok (.iconst 0, 1) := ky_dc db_L_place_16 0 rfl
theorem dc_L_place_17 : decode method_41_code 17 = .ok (.ireturn, 1) := ky_dc db_L_place_16 1 rfl
theorem dc_L_floorOf_0 : decode method_42_code 0 = .ok (.aload_n 2, 1) := ky_dc db_L_place_16 2 rfl
theorem dc_L_floorOf_1 : decode method_42_code 1 = .ok (.aload_n 0, 1) := ky_dc db_L_place_16 3 rfl
theorem dc_L_floorOf_2 : decode method_42_code 2 = .ok (.iload_n 1, 1) := ky_dc db_L_place_16 4 rfl
theorem dc_L_floorOf_3 : decode method_42_code 3 = .ok (.invokevirtual 151, 3) := ky_dc db_L_place_16 5 rfl
theorem dc_L_floorOf_12 : decode method_42_code 12 = .ok (.astore_n 3, 1) := ky_dc db_L_place_16 6 rfl
theorem dc_L_floorOf_13 : decode method_42_code 13 = .ok (.iconst 1, 1) := ky_dc db_L_place_16 7 rfl
theorem dc_L_floorOf_14 : decode method_42_code 14 = .ok (.ireturn, 1) := ky_dc db_L_place_16 8 rfl
theorem dc_L_floorOf_6 : decode method_42_code 6 = .ok (.putfield 103, 3) := ky_dc db_L_place_16 9 rfl
theorem dc_L_floorOf_9 : decode method_42_code 9 = .ok (.goto 6, 3) := ky_dc db_L_place_16 10 rfl
theorem dc_L_floorOf_15 : decode method_42_code 15 = .ok (.iconst 0, 1) := ky_dc db_L_place_16 11 rfl
theorem dc_L_floorOf_16 : decode method_42_code 16 = .ok (.ireturn, 1) := ky_dc db_L_place_16 12 rfl
theorem dc_L_ceilOf_0 : decode method_43_code 0 = .ok (.aload_n 2, 1) := ky_dc db_L_place_16 13 rfl
theorem dc_L_ceilOf_1 : decode method_43_code 1 = .ok (.aload_n 0, 1) := ky_dc db_L_place_16 14 rfl
theorem dc_L_ceilOf_2 : decode method_43_code 2 = .ok (.iload_n 1, 1) := ky_dc db_L_place_16 15 rfl
theorem dc_L_ceilOf_3 : decode method_43_code 3 = .ok (.invokevirtual 154, 3) := ky_dc db_L_place_16 16 rfl
theorem dc_L_ceilOf_12 : decode method_43_code 12 = .ok (.astore_n 3, 1) := ky_dc db_L_place_16 17 rfl
theorem dc_L_ceilOf_13 : decode method_43_code 13 = .ok (.iconst 1, 1) := ky_dc db_L_place_16 18 rfl
theorem dc_L_ceilOf_14 : decode method_43_code 14 = .ok (.ireturn, 1) := ky_dc db_L_place_16 19 rfl
theorem dc_L_ceilOf_6 : decode method_43_code 6 = .ok (.putfield 103, 3) := ky_dc db_L_place_16 20 rfl
theorem dc_L_ceilOf_9 : decode method_43_code 9 = .ok (.goto 6, 3) := ky_dc db_L_place_16 21 rfl
theorem dc_L_ceilOf_15 : decode method_43_code 15 = .ok (.iconst 0, 1) := ky_dc db_L_place_16 22 rfl
theorem dc_L_ceilOf_16 : decode method_43_code 16 = .ok (.ireturn, 1) := ky_dc db_L_place_16 23 rfl
theorem dc_L_rintOf_0 : decode method_44_code 0 = .ok (.aload_n 2, 1) := ky_dc db_L_place_16 24 rfl
theorem dc_L_rintOf_1 : decode method_44_code 1 = .ok (.aload_n 0, 1) := ky_dc db_L_place_16 25 rfl
theorem dc_L_rintOf_2 : decode method_44_code 2 = .ok (.iload_n 1, 1) := ky_dc db_L_place_16 26 rfl
theorem dc_L_rintOf_3 : decode method_44_code 3 = .ok (.invokevirtual 157, 3) := ky_dc db_L_place_16 27 rfl
theorem dc_L_rintOf_12 : decode method_44_code 12 = .ok (.astore_n 3, 1) := ky_dc db_L_place_16 28 rfl
theorem dc_L_rintOf_13 : decode method_44_code 13 = .ok (.iconst 1, 1) := ky_dc db_L_place_16 29 rfl
theorem dc_L_rintOf_14 : decode method_44_code 14 = .ok (.ireturn, 1) := ky_dc db_L_place_16 30 rfl
theorem dc_L_rintOf_6 : decode method_44_code 6 = .ok (.putfield 103, 3) := ky_dc db_L_place_16 31 rfl
theorem dc_L_rintOf_9 : decode method_44_code 9 = .ok (.goto 6, 3) := ky_dc db_L_place_16 32 rfl
theorem dc_L_rintOf_15 : decode method_44_code 15 = .ok (.iconst 0, 1) := ky_dc db_L_place_16 33 rfl
theorem dc_L_rintOf_16 : decode method_44_code 16 = .ok (.ireturn, 1) := ky_dc db_L_place_16 34 rfl
theorem dc_L_stepOf_0 : decode method_45_code 0 = .ok (.aload_n 2, 1) := ky_dc db_L_place_16 35 rfl
theorem dc_L_stepOf_1 : decode method_45_code 1 = .ok (.aload_n 0, 1) := ky_dc db_L_place_16 36 rfl
theorem dc_L_stepOf_2 : decode method_45_code 2 = .ok (.iload_n 1, 1) := ky_dc db_L_place_16 37 rfl
theorem dc_L_stepOf_3 : decode method_45_code 3 = .ok (.invokevirtual 160, 3) := ky_dc db_L_place_16 38 rfl
theorem dc_L_stepOf_12 : decode method_45_code 12 = .ok (.astore_n 3, 1) := ky_dc db_L_place_16 39 rfl
theorem dc_L_stepOf_13 : decode method_45_code 13 = .ok (.iconst 1, 1) := ky_dc db_L_place_16 40 rfl
theorem dc_L_stepOf_14 : decode method_45_code 14 = .ok (.ireturn, 1) := ky_dc db_L_place_16 41 rfl
theorem dc_L_stepOf_6 : decode method_45_code 6 = .ok (.putfield 103, 3) := ky_dc db_L_place_16 42 rfl
theorem dc_L_stepOf_9 : decode method_45_code 9 = .ok (.goto 6, 3) := ky_dc db_L_place_16 43 rfl
theorem dc_L_stepOf_15 : decode method_45_code 15 = .ok (.iconst 0, 1) := ky_dc db_L_place_16 44 rfl
theorem dc_L_stepOf_16 : decode method_45_code 16 = .ok (.ireturn, 1) := ky_dc db_L_place_16 45 rfl
theorem dc_L_nextOf_0 : decode method_46_code 0 = .ok (.aload_n 3, 1) := ky_dc db_L_place_16 46 rfl
theorem dc_L_nextOf_1 : decode method_46_code 1 = .ok (.aload_n 0, 1) := ky_dc db_L_place_16 47 rfl
theorem dc_L_nextOf_2 : decode method_46_code 2 = .ok (.iload_n 1, 1) := ky_dc db_L_place_16 48 rfl
theorem dc_L_nextOf_3 : decode method_46_code 3 = .ok (.iload_n 2, 1) := ky_dc db_L_place_16 49 rfl
theorem dc_L_nextOf_4 : decode method_46_code 4 = .ok (.invokevirtual 163, 3) := ky_dc db_L_place_16 50 rfl
theorem dc_L_nextOf_13 : decode method_46_code 13 = .ok (.astore 4, 2) := ky_dc db_L_place_16 51 rfl
theorem dc_L_nextOf_15 : decode method_46_code 15 = .ok (.iconst 1, 1) := ky_dc db_L_place_16 52 rfl
theorem dc_L_nextOf_16 : decode method_46_code 16 = .ok (.ireturn, 1) := ky_dc db_L_place_16 53 rfl
theorem dc_L_nextOf_7 : decode method_46_code 7 = .ok (.putfield 103, 3) := ky_dc db_L_place_16 54 rfl
theorem dc_L_nextOf_10 : decode method_46_code 10 = .ok (.goto 7, 3) := ky_dc db_L_place_16 55 rfl
theorem dc_L_nextOf_17 : decode method_46_code 17 = .ok (.iconst 0, 1) := ky_dc db_L_place_16 56 rfl
theorem dc_L_nextOf_18 : decode method_46_code 18 = .ok (.ireturn, 1) := ky_dc db_L_place_16 57 rfl
theorem dc_L_timesOf_0 : decode method_47_code 0 = .ok (.aload_n 3, 1) := ky_dc db_L_place_16 58 rfl
theorem dc_L_timesOf_1 : decode method_47_code 1 = .ok (.aload_n 0, 1) := ky_dc db_L_place_16 59 rfl
def dl_L_timesOf_2 : List (ByteArray × Nat × Jvm.ClassFile.Instr × Nat) := [(method_47_code, 2, .iload_n 1, 1), (method_47_code, 3, .iload_n 2, 1), (method_47_code, 4, .invokevirtual 167, 3), (method_47_code, 13, .astore 4, 2), (method_47_code, 15, .iconst 1, 1), (method_47_code, 16, .ireturn, 1), (method_47_code, 7, .putfield 103, 3), (method_47_code, 10, .goto 7, 3), (method_47_code, 17, .iconst 0, 1), (method_47_code, 18, .ireturn, 1), (method_48_code, 0, .aload_n 3, 1), (method_48_code, 1, .aload_n 0, 1), (method_48_code, 2, .iload_n 1, 1), (method_48_code, 3, .iload_n 2, 1), (method_48_code, 4, .invokevirtual 171, 3), (method_48_code, 21, .astore 4, 2), (method_48_code, 23, .iconst 1, 1), (method_48_code, 24, .ireturn, 1), (method_48_code, 25, .astore 4, 2), (method_48_code, 27, .iconst 2, 1), (method_48_code, 28, .ireturn, 1), (method_48_code, 7, .ifCond .eq 7, 3), (method_48_code, 14, .lconst 0, 1), (method_48_code, 15, .putfield 13, 3), (method_48_code, 18, .goto 11, 3), (method_48_code, 29, .iconst 0, 1), (method_48_code, 30, .ireturn, 1), (method_48_code, 10, .lconst 1, 1), (method_48_code, 11, .goto 4, 3), (method_49_code, 0, .aload_n 2, 1), (method_49_code, 1, .aload_n 0, 1), (method_49_code, 2, .iload_n 1, 1), (method_49_code, 3, .invokevirtual 174, 3), (method_49_code, 13, .astore_n 3, 1), (method_49_code, 14, .iconst 1, 1), (method_49_code, 15, .ireturn, 1), (method_49_code, 6, .i2l, 1), (method_49_code, 7, .putfield 13, 3), (method_49_code, 10, .goto 6, 3), (method_49_code, 16, .iconst 0, 1), (method_49_code, 17, .ireturn, 1)]
theorem db_L_timesOf_2 : dl_L_timesOf_2.all (fun x => decide (decode x.1 x.2.1 = .ok x.2.2)) = true := by decide +kernel
theorem dc_L_timesOf_2 : decode method_47_code 2 = .ok (.iload_n 1, 1) := ky_dc db_L_timesOf_2 0 rfl
theorem dc_L_timesOf_3 : decode method_47_code 3 = .ok (.iload_n 2, 1) := ky_dc db_L_timesOf_2 1 rfl
theorem dc_L_timesOf_4 : decode method_47_code 4 = .ok (.invokevirtual 167, 3) := ky_dc db_L_timesOf_2 2 rfl
theorem dc_L_timesOf_13 : decode method_47_code 13 = .ok (.astore 4, 2) := ky_dc db_L_timesOf_2 3 rfl
theorem dc_L_timesOf_15 : decode method_47_code 15 = .ok (.iconst 1, 1) := ky_dc db_L_timesOf_2 4 rfl
theorem dc_L_timesOf_16 : decode method_47_code 16 = .ok (.ireturn, 1) := ky_dc db_L_timesOf_2 5 rfl
theorem dc_L_timesOf_7 : decode method_47_code 7 = .ok (.putfield 103, 3) := ky_dc db_L_timesOf_2 6 rfl
theorem dc_L_timesOf_10 : decode method_47_code 10 = .ok (.goto 7, 3) := ky_dc db_L_timesOf_2 7 rfl
theorem dc_L_timesOf_17 : decode method_47_code 17 = .ok (.iconst 0, 1) := ky_dc db_L_timesOf_2 8 rfl
theorem dc_L_timesOf_18 : decode method_47_code 18 = .ok (.ireturn, 1) := ky_dc db_L_timesOf_2 9 rfl
theorem dc_L_isBack_0 : decode method_48_code 0 = .ok (.aload_n 3, 1) := ky_dc db_L_timesOf_2 10 rfl
theorem dc_L_isBack_1 : decode method_48_code 1 = .ok (.aload_n 0, 1) := ky_dc db_L_timesOf_2 11 rfl
theorem dc_L_isBack_2 : decode method_48_code 2 = .ok (.iload_n 1, 1) := ky_dc db_L_timesOf_2 12 rfl
theorem dc_L_isBack_3 : decode method_48_code 3 = .ok (.iload_n 2, 1) := ky_dc db_L_timesOf_2 13 rfl
theorem dc_L_isBack_4 : decode method_48_code 4 = .ok (.invokevirtual 171, 3) := ky_dc db_L_timesOf_2 14 rfl
theorem dc_L_isBack_21 : decode method_48_code 21 = .ok (.astore 4, 2) := ky_dc db_L_timesOf_2 15 rfl
theorem dc_L_isBack_23 : decode method_48_code 23 = .ok (.iconst 1, 1) := ky_dc db_L_timesOf_2 16 rfl
theorem dc_L_isBack_24 : decode method_48_code 24 = .ok (.ireturn, 1) := ky_dc db_L_timesOf_2 17 rfl
theorem dc_L_isBack_25 : decode method_48_code 25 = .ok (.astore 4, 2) := ky_dc db_L_timesOf_2 18 rfl
theorem dc_L_isBack_27 : decode method_48_code 27 = .ok (.iconst 2, 1) := ky_dc db_L_timesOf_2 19 rfl
theorem dc_L_isBack_28 : decode method_48_code 28 = .ok (.ireturn, 1) := ky_dc db_L_timesOf_2 20 rfl
theorem dc_L_isBack_7 : decode method_48_code 7 = .ok (.ifCond .eq 7, 3) := ky_dc db_L_timesOf_2 21 rfl
theorem dc_L_isBack_14 : decode method_48_code 14 = .ok (.lconst 0, 1) := ky_dc db_L_timesOf_2 22 rfl
theorem dc_L_isBack_15 : decode method_48_code 15 = .ok (.putfield 13, 3) := ky_dc db_L_timesOf_2 23 rfl
theorem dc_L_isBack_18 : decode method_48_code 18 = .ok (.goto 11, 3) := ky_dc db_L_timesOf_2 24 rfl
theorem dc_L_isBack_29 : decode method_48_code 29 = .ok (.iconst 0, 1) := ky_dc db_L_timesOf_2 25 rfl
theorem dc_L_isBack_30 : decode method_48_code 30 = .ok (.ireturn, 1) := ky_dc db_L_timesOf_2 26 rfl
theorem dc_L_isBack_10 : decode method_48_code 10 = .ok (.lconst 1, 1) := ky_dc db_L_timesOf_2 27 rfl
theorem dc_L_isBack_11 : decode method_48_code 11 = .ok (.goto 4, 3) := ky_dc db_L_timesOf_2 28 rfl
theorem dc_L_house_0 : decode method_49_code 0 = .ok (.aload_n 2, 1) := ky_dc db_L_timesOf_2 29 rfl
theorem dc_L_house_1 : decode method_49_code 1 = .ok (.aload_n 0, 1) := ky_dc db_L_timesOf_2 30 rfl
theorem dc_L_house_2 : decode method_49_code 2 = .ok (.iload_n 1, 1) := ky_dc db_L_timesOf_2 31 rfl
theorem dc_L_house_3 : decode method_49_code 3 = .ok (.invokevirtual 174, 3) := ky_dc db_L_timesOf_2 32 rfl
theorem dc_L_house_13 : decode method_49_code 13 = .ok (.astore_n 3, 1) := ky_dc db_L_timesOf_2 33 rfl
theorem dc_L_house_14 : decode method_49_code 14 = .ok (.iconst 1, 1) := ky_dc db_L_timesOf_2 34 rfl
theorem dc_L_house_15 : decode method_49_code 15 = .ok (.ireturn, 1) := ky_dc db_L_timesOf_2 35 rfl
theorem dc_L_house_6 : decode method_49_code 6 = .ok (.i2l, 1) := ky_dc db_L_timesOf_2 36 rfl
theorem dc_L_house_7 : decode method_49_code 7 = .ok (.putfield 13, 3) := ky_dc db_L_timesOf_2 37 rfl
theorem dc_L_house_10 : decode method_49_code 10 = .ok (.goto 6, 3) := ky_dc db_L_timesOf_2 38 rfl
theorem dc_L_house_16 : decode method_49_code 16 = .ok (.iconst 0, 1) := ky_dc db_L_timesOf_2 39 rfl
theorem dc_L_house_17 : decode method_49_code 17 = .ok (.ireturn, 1) := ky_dc db_L_timesOf_2 40 rfl
