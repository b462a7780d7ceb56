section
/-! walk: so many times the next one -/
def ky_wkit : Nat → Int32 → Int32 × Int64 → Int32 × Int64
  | 0, _, v => v
  | k + 1, d, v => fn_X8_next d (ky_wkit k d v)
def fn_X9_walk (a1 a2 : Int32) (w : ky_MV) : Int32 × ky_MV :=
  if jst (fn_X9_isNo a1) = 0 then
    (if jrr (jrt (if fn_X9_isOf a2 (-40) 40 = 0 then 1 else 0) 2 (jst (fn_X9_isNo a1))) = 0 then
      fn_X9_give a1 (ky_wkit (jiabs a2).toInt.toNat (if (0 : Int32) ≤ a2 then 0 else 1) (w.2.2.2.2 a1.toNatClampNeg)) (jrt (if fn_X9_isOf a2 (-40) 40 = 0 then 1 else 0) 2 (jst (fn_X9_isNo a1)), w.2.1, w.2.2.1, w.2.2.2.1, w.2.2.2.2)
    else (0, (jrt (if fn_X9_isOf a2 (-40) 40 = 0 then 1 else 0) 2 (jst (fn_X9_isNo a1)), w.2.1, w.2.2.1, w.2.2.2.1, w.2.2.2.2)))
  else (0, (jst (fn_X9_isNo a1), w.2.1, w.2.2.1, w.2.2.2.1, w.2.2.2.2))
theorem ky_wk1 {x : Int32} {k : Nat} (hk : k ≤ 40) : x ≤ nI k ↔ x.toInt.toNat ≤ k := by
  rw [Int32.le_iff_toInt_le, nI_toInt (by omega)]
  omega
theorem ky_wk40 {a : Int32} (h : ¬ fn_X9_isOf a (-40) 40 = 0) : (jiabs a).toInt.toNat ≤ 40 := by
  have h3 : ¬ a < -40 := by
    intro z
    apply h
    unfold fn_X9_isOf
    rw [if_pos z]
  have h4 : ¬ (40 : Int32) < a := by
    intro z
    apply h
    unfold fn_X9_isOf
    rw [if_neg h3, if_pos z]
  rw [Int32.lt_iff_toInt_lt] at h3 h4
  rw [show (-40 : Int32).toInt = -40 from by decide] at h3
  rw [show (40 : Int32).toInt = 40 from by decide] at h4
  unfold jiabs
  split
  · omega
  · rw [Int32.toInt_sub, show (0 : Int32).toInt = 0 from rfl, Int.bmod_eq_of_le (by omega) (by omega)]
    omega
theorem ky_wkno {j k : Int32} (hj : j = 0) (hk : k = jrt 1 2 j) (h : jrr k = 0) : False := by
  subst hj
  subst hk
  revert h
  decide
end
section
abbrev my_X9_walk : MethodName := ⟨"ExactdoublesModel", "walk", "(II)I"⟩
theorem kw_7_29 : (Jvm.Cond.code ({ cls := "java/lang/Math", name := "abs", desc := "(I)I" } : Jvm.MethodName) prog_20_method_59_code (1 : Nat) (Option.some Jvm.ClassFile.FieldType.int)) ∈ ky_B := ky_mem (kc_7 _ (List.mem_of_getElem? (i := 29) rfl)) (by decide +kernel)
theorem kw_7_27 : (Jvm.Cond.methodLink "ExactdoublesModel" (155 : Nat) ({ cls := "java/lang/Math", name := "abs", desc := "(I)I" } : Jvm.MethodName)) ∈ ky_B := ky_mem (kc_7 _ (List.mem_of_getElem? (i := 27) rfl)) (by decide +kernel)
theorem kw_7_28 : (Jvm.Cond.static ({ cls := "java/lang/Math", name := "abs", desc := "(I)I" } : Jvm.MethodName)) ∈ ky_B := ky_mem (kc_7 _ (List.mem_of_getElem? (i := 28) rfl)) (by decide +kernel)
def dw_C_prog_10_method_38_code_0 : List UInt8 := [42, 27, 184, 0, 51, 182, 0, 55, 154, 0, 27, 42, 28, 16, 216, 16, 40, 184, 0, 40, 154, 0, 7, 4, 167, 0, 4, 3, 5, 182, 0, 36, 153, 0, 5, 3, 172, 42, 180, 0, 25, 27, 50, 78, 3, 54, 4, 21, 4, 28, 184, 0, 155, 162, 0, 23, 45, 28, 156, 0, 7, 4, 167, 0, 4, 3, 182, 0, 130, 78, 132, 4]
theorem dw_h_prog_10_method_38_code_0 : (prog_10_method_38_code.data.toList.drop 0).take 72 = dw_C_prog_10_method_38_code_0 := by decide +kernel
theorem dw_b_X9_walk_0 : dw_chk dw_C_prog_10_method_38_code_0 0 0 (.aload_n 0) 1 = true ∧ dw_chk dw_C_prog_10_method_38_code_0 1 1 (.iload_n 1) 1 = true ∧ dw_chk dw_C_prog_10_method_38_code_0 2 2 (.invokestatic 51) 3 = true ∧ dw_chk dw_C_prog_10_method_38_code_0 5 5 (.invokevirtual 55) 3 = true ∧ dw_chk dw_C_prog_10_method_38_code_0 8 8 (.ifCond .ne 27) 3 = true ∧ dw_chk dw_C_prog_10_method_38_code_0 35 35 (.iconst 0) 1 = true ∧ dw_chk dw_C_prog_10_method_38_code_0 36 36 (.ireturn) 1 = true ∧ dw_chk dw_C_prog_10_method_38_code_0 11 11 (.aload_n 0) 1 = true ∧ dw_chk dw_C_prog_10_method_38_code_0 12 12 (.iload_n 2) 1 = true ∧ dw_chk dw_C_prog_10_method_38_code_0 13 13 (.bipush (-40)) 2 = true ∧ dw_chk dw_C_prog_10_method_38_code_0 15 15 (.bipush 40) 2 = true ∧ dw_chk dw_C_prog_10_method_38_code_0 17 17 (.invokestatic 40) 3 = true ∧ dw_chk dw_C_prog_10_method_38_code_0 20 20 (.ifCond .ne 7) 3 = true ∧ dw_chk dw_C_prog_10_method_38_code_0 27 27 (.iconst 0) 1 = true ∧ dw_chk dw_C_prog_10_method_38_code_0 28 28 (.iconst 2) 1 = true ∧ dw_chk dw_C_prog_10_method_38_code_0 29 29 (.invokevirtual 36) 3 = true ∧ dw_chk dw_C_prog_10_method_38_code_0 32 32 (.ifCond .eq 5) 3 = true ∧ dw_chk dw_C_prog_10_method_38_code_0 37 37 (.aload_n 0) 1 = true ∧ dw_chk dw_C_prog_10_method_38_code_0 38 38 (.getfield 25) 3 = true ∧ dw_chk dw_C_prog_10_method_38_code_0 41 41 (.iload_n 1) 1 = true ∧ dw_chk dw_C_prog_10_method_38_code_0 42 42 (.aaload) 1 = true ∧ dw_chk dw_C_prog_10_method_38_code_0 43 43 (.astore_n 3) 1 = true ∧ dw_chk dw_C_prog_10_method_38_code_0 44 44 (.iconst 0) 1 = true ∧ dw_chk dw_C_prog_10_method_38_code_0 45 45 (.istore 4) 2 = true ∧ dw_chk dw_C_prog_10_method_38_code_0 47 47 (.iload 4) 2 = true ∧ dw_chk dw_C_prog_10_method_38_code_0 49 49 (.iload_n 2) 1 = true ∧ dw_chk dw_C_prog_10_method_38_code_0 50 50 (.invokestatic 155) 3 = true ∧ dw_chk dw_C_prog_10_method_38_code_0 53 53 (.if_icmp .ge 23) 3 = true ∧ dw_chk dw_C_prog_10_method_38_code_0 56 56 (.aload_n 3) 1 = true ∧ dw_chk dw_C_prog_10_method_38_code_0 57 57 (.iload_n 2) 1 = true ∧ dw_chk dw_C_prog_10_method_38_code_0 58 58 (.ifCond .ge 7) 3 = true ∧ dw_chk dw_C_prog_10_method_38_code_0 61 61 (.iconst 1) 1 = true ∧ dw_chk dw_C_prog_10_method_38_code_0 62 62 (.goto 4) 3 = true ∧ dw_chk dw_C_prog_10_method_38_code_0 23 23 (.iconst 1) 1 = true ∧ dw_chk dw_C_prog_10_method_38_code_0 24 24 (.goto 4) 3 = true := by decide +kernel
theorem dc_X9_walk_0 : decode prog_10_method_38_code 0 = .ok (.aload_n 0, 1) := dw_row (j := 0) dw_h_prog_10_method_38_code_0 rfl dw_b_X9_walk_0.1
theorem dc_X9_walk_1 : decode prog_10_method_38_code 1 = .ok (.iload_n 1, 1) := dw_row (j := 1) dw_h_prog_10_method_38_code_0 rfl dw_b_X9_walk_0.2.1
theorem dc_X9_walk_2 : decode prog_10_method_38_code 2 = .ok (.invokestatic 51, 3) := dw_row (j := 2) dw_h_prog_10_method_38_code_0 rfl dw_b_X9_walk_0.2.2.1
theorem dc_X9_walk_5 : decode prog_10_method_38_code 5 = .ok (.invokevirtual 55, 3) := dw_row (j := 5) dw_h_prog_10_method_38_code_0 rfl dw_b_X9_walk_0.2.2.2.1
theorem dc_X9_walk_8 : decode prog_10_method_38_code 8 = .ok (.ifCond .ne 27, 3) := dw_row (j := 8) dw_h_prog_10_method_38_code_0 rfl dw_b_X9_walk_0.2.2.2.2.1
theorem dc_X9_walk_35 : decode prog_10_method_38_code 35 = .ok (.iconst 0, 1) := dw_row (j := 35) dw_h_prog_10_method_38_code_0 rfl dw_b_X9_walk_0.2.2.2.2.2.1
theorem dc_X9_walk_36 : decode prog_10_method_38_code 36 = .ok (.ireturn, 1) := dw_row (j := 36) dw_h_prog_10_method_38_code_0 rfl dw_b_X9_walk_0.2.2.2.2.2.2.1
theorem dc_X9_walk_11 : decode prog_10_method_38_code 11 = .ok (.aload_n 0, 1) := dw_row (j := 11) dw_h_prog_10_method_38_code_0 rfl dw_b_X9_walk_0.2.2.2.2.2.2.2.1
theorem dc_X9_walk_12 : decode prog_10_method_38_code 12 = .ok (.iload_n 2, 1) := dw_row (j := 12) dw_h_prog_10_method_38_code_0 rfl dw_b_X9_walk_0.2.2.2.2.2.2.2.2.1
theorem dc_X9_walk_13 : decode prog_10_method_38_code 13 = .ok (.bipush (-40), 2) := dw_row (j := 13) dw_h_prog_10_method_38_code_0 rfl dw_b_X9_walk_0.2.2.2.2.2.2.2.2.2.1
theorem dc_X9_walk_15 : decode prog_10_method_38_code 15 = .ok (.bipush 40, 2) := dw_row (j := 15) dw_h_prog_10_method_38_code_0 rfl dw_b_X9_walk_0.2.2.2.2.2.2.2.2.2.2.1
theorem dc_X9_walk_17 : decode prog_10_method_38_code 17 = .ok (.invokestatic 40, 3) := dw_row (j := 17) dw_h_prog_10_method_38_code_0 rfl dw_b_X9_walk_0.2.2.2.2.2.2.2.2.2.2.2.1
theorem dc_X9_walk_20 : decode prog_10_method_38_code 20 = .ok (.ifCond .ne 7, 3) := dw_row (j := 20) dw_h_prog_10_method_38_code_0 rfl dw_b_X9_walk_0.2.2.2.2.2.2.2.2.2.2.2.2.1
theorem dc_X9_walk_27 : decode prog_10_method_38_code 27 = .ok (.iconst 0, 1) := dw_row (j := 27) dw_h_prog_10_method_38_code_0 rfl dw_b_X9_walk_0.2.2.2.2.2.2.2.2.2.2.2.2.2.1
theorem dc_X9_walk_28 : decode prog_10_method_38_code 28 = .ok (.iconst 2, 1) := dw_row (j := 28) dw_h_prog_10_method_38_code_0 rfl dw_b_X9_walk_0.2.2.2.2.2.2.2.2.2.2.2.2.2.2.1
theorem dc_X9_walk_29 : decode prog_10_method_38_code 29 = .ok (.invokevirtual 36, 3) := dw_row (j := 29) dw_h_prog_10_method_38_code_0 rfl dw_b_X9_walk_0.2.2.2.2.2.2.2.2.2.2.2.2.2.2.2.1
theorem dc_X9_walk_32 : decode prog_10_method_38_code 32 = .ok (.ifCond .eq 5, 3) := dw_row (j := 32) dw_h_prog_10_method_38_code_0 rfl dw_b_X9_walk_0.2.2.2.2.2.2.2.2.2.2.2.2.2.2.2.2.1
theorem dc_X9_walk_37 : decode prog_10_method_38_code 37 = .ok (.aload_n 0, 1) := dw_row (j := 37) dw_h_prog_10_method_38_code_0 rfl dw_b_X9_walk_0.2.2.2.2.2.2.2.2.2.2.2.2.2.2.2.2.2.1
theorem dc_X9_walk_38 : decode prog_10_method_38_code 38 = .ok (.getfield 25, 3) := dw_row (j := 38) dw_h_prog_10_method_38_code_0 rfl dw_b_X9_walk_0.2.2.2.2.2.2.2.2.2.2.2.2.2.2.2.2.2.2.1
theorem dc_X9_walk_41 : decode prog_10_method_38_code 41 = .ok (.iload_n 1, 1) := dw_row (j := 41) dw_h_prog_10_method_38_code_0 rfl dw_b_X9_walk_0.2.2.2.2.2.2.2.2.2.2.2.2.2.2.2.2.2.2.2.1
theorem dc_X9_walk_42 : decode prog_10_method_38_code 42 = .ok (.aaload, 1) := dw_row (j := 42) dw_h_prog_10_method_38_code_0 rfl dw_b_X9_walk_0.2.2.2.2.2.2.2.2.2.2.2.2.2.2.2.2.2.2.2.2.1
theorem dc_X9_walk_43 : decode prog_10_method_38_code 43 = .ok (.astore_n 3, 1) := dw_row (j := 43) dw_h_prog_10_method_38_code_0 rfl dw_b_X9_walk_0.2.2.2.2.2.2.2.2.2.2.2.2.2.2.2.2.2.2.2.2.2.1
theorem dc_X9_walk_44 : decode prog_10_method_38_code 44 = .ok (.iconst 0, 1) := dw_row (j := 44) dw_h_prog_10_method_38_code_0 rfl dw_b_X9_walk_0.2.2.2.2.2.2.2.2.2.2.2.2.2.2.2.2.2.2.2.2.2.2.1
theorem dc_X9_walk_45 : decode prog_10_method_38_code 45 = .ok (.istore 4, 2) := dw_row (j := 45) dw_h_prog_10_method_38_code_0 rfl dw_b_X9_walk_0.2.2.2.2.2.2.2.2.2.2.2.2.2.2.2.2.2.2.2.2.2.2.2.1
theorem dc_X9_walk_47 : decode prog_10_method_38_code 47 = .ok (.iload 4, 2) := dw_row (j := 47) dw_h_prog_10_method_38_code_0 rfl dw_b_X9_walk_0.2.2.2.2.2.2.2.2.2.2.2.2.2.2.2.2.2.2.2.2.2.2.2.2.1
theorem dc_X9_walk_49 : decode prog_10_method_38_code 49 = .ok (.iload_n 2, 1) := dw_row (j := 49) dw_h_prog_10_method_38_code_0 rfl dw_b_X9_walk_0.2.2.2.2.2.2.2.2.2.2.2.2.2.2.2.2.2.2.2.2.2.2.2.2.2.1
theorem dc_X9_walk_50 : decode prog_10_method_38_code 50 = .ok (.invokestatic 155, 3) := dw_row (j := 50) dw_h_prog_10_method_38_code_0 rfl dw_b_X9_walk_0.2.2.2.2.2.2.2.2.2.2.2.2.2.2.2.2.2.2.2.2.2.2.2.2.2.2.1
theorem dc_X9_walk_53 : decode prog_10_method_38_code 53 = .ok (.if_icmp .ge 23, 3) := dw_row (j := 53) dw_h_prog_10_method_38_code_0 rfl dw_b_X9_walk_0.2.2.2.2.2.2.2.2.2.2.2.2.2.2.2.2.2.2.2.2.2.2.2.2.2.2.2.1
theorem dc_X9_walk_56 : decode prog_10_method_38_code 56 = .ok (.aload_n 3, 1) := dw_row (j := 56) dw_h_prog_10_method_38_code_0 rfl dw_b_X9_walk_0.2.2.2.2.2.2.2.2.2.2.2.2.2.2.2.2.2.2.2.2.2.2.2.2.2.2.2.2.1
theorem dc_X9_walk_57 : decode prog_10_method_38_code 57 = .ok (.iload_n 2, 1) := dw_row (j := 57) dw_h_prog_10_method_38_code_0 rfl dw_b_X9_walk_0.2.2.2.2.2.2.2.2.2.2.2.2.2.2.2.2.2.2.2.2.2.2.2.2.2.2.2.2.2.1
theorem dc_X9_walk_58 : decode prog_10_method_38_code 58 = .ok (.ifCond .ge 7, 3) := dw_row (j := 58) dw_h_prog_10_method_38_code_0 rfl dw_b_X9_walk_0.2.2.2.2.2.2.2.2.2.2.2.2.2.2.2.2.2.2.2.2.2.2.2.2.2.2.2.2.2.2.1
theorem dc_X9_walk_61 : decode prog_10_method_38_code 61 = .ok (.iconst 1, 1) := dw_row (j := 61) dw_h_prog_10_method_38_code_0 rfl dw_b_X9_walk_0.2.2.2.2.2.2.2.2.2.2.2.2.2.2.2.2.2.2.2.2.2.2.2.2.2.2.2.2.2.2.2.1
theorem dc_X9_walk_62 : decode prog_10_method_38_code 62 = .ok (.goto 4, 3) := dw_row (j := 62) dw_h_prog_10_method_38_code_0 rfl dw_b_X9_walk_0.2.2.2.2.2.2.2.2.2.2.2.2.2.2.2.2.2.2.2.2.2.2.2.2.2.2.2.2.2.2.2.2.1
theorem dc_X9_walk_23 : decode prog_10_method_38_code 23 = .ok (.iconst 1, 1) := dw_row (j := 23) dw_h_prog_10_method_38_code_0 rfl dw_b_X9_walk_0.2.2.2.2.2.2.2.2.2.2.2.2.2.2.2.2.2.2.2.2.2.2.2.2.2.2.2.2.2.2.2.2.2.1
theorem dc_X9_walk_24 : decode prog_10_method_38_code 24 = .ok (.goto 4, 3) := dw_row (j := 24) dw_h_prog_10_method_38_code_0 rfl dw_b_X9_walk_0.2.2.2.2.2.2.2.2.2.2.2.2.2.2.2.2.2.2.2.2.2.2.2.2.2.2.2.2.2.2.2.2.2.2
def dw_C_prog_10_method_38_code_1 : List UInt8 := [4, 3, 182, 0, 130, 78, 132, 4, 1, 167, 255, 230, 42, 27, 45, 182, 0, 63, 172]
theorem dw_h_prog_10_method_38_code_1 : (prog_10_method_38_code.data.toList.drop 64).take 72 = dw_C_prog_10_method_38_code_1 := by decide +kernel
theorem dw_b_X9_walk_76 : dw_chk dw_C_prog_10_method_38_code_1 76 12 (.aload_n 0) 1 = true ∧ dw_chk dw_C_prog_10_method_38_code_1 77 13 (.iload_n 1) 1 = true ∧ dw_chk dw_C_prog_10_method_38_code_1 78 14 (.aload_n 3) 1 = true ∧ dw_chk dw_C_prog_10_method_38_code_1 79 15 (.invokevirtual 63) 3 = true ∧ dw_chk dw_C_prog_10_method_38_code_1 82 18 (.ireturn) 1 = true ∧ dw_chk dw_C_prog_10_method_38_code_1 65 1 (.iconst 0) 1 = true ∧ dw_chk dw_C_prog_10_method_38_code_1 66 2 (.invokevirtual 130) 3 = true ∧ dw_chk dw_C_prog_10_method_38_code_1 69 5 (.astore_n 3) 1 = true ∧ dw_chk dw_C_prog_10_method_38_code_1 70 6 (.iinc 4 1) 3 = true ∧ dw_chk dw_C_prog_10_method_38_code_1 73 9 (.goto (-26)) 3 = true := by decide +kernel
theorem dc_X9_walk_76 : decode prog_10_method_38_code 76 = .ok (.aload_n 0, 1) := dw_row (j := 12) dw_h_prog_10_method_38_code_1 rfl dw_b_X9_walk_76.1
theorem dc_X9_walk_77 : decode prog_10_method_38_code 77 = .ok (.iload_n 1, 1) := dw_row (j := 13) dw_h_prog_10_method_38_code_1 rfl dw_b_X9_walk_76.2.1
theorem dc_X9_walk_78 : decode prog_10_method_38_code 78 = .ok (.aload_n 3, 1) := dw_row (j := 14) dw_h_prog_10_method_38_code_1 rfl dw_b_X9_walk_76.2.2.1
theorem dc_X9_walk_79 : decode prog_10_method_38_code 79 = .ok (.invokevirtual 63, 3) := dw_row (j := 15) dw_h_prog_10_method_38_code_1 rfl dw_b_X9_walk_76.2.2.2.1
theorem dc_X9_walk_82 : decode prog_10_method_38_code 82 = .ok (.ireturn, 1) := dw_row (j := 18) dw_h_prog_10_method_38_code_1 rfl dw_b_X9_walk_76.2.2.2.2.1
theorem dc_X9_walk_65 : decode prog_10_method_38_code 65 = .ok (.iconst 0, 1) := dw_row (j := 1) dw_h_prog_10_method_38_code_1 rfl dw_b_X9_walk_76.2.2.2.2.2.1
theorem dc_X9_walk_66 : decode prog_10_method_38_code 66 = .ok (.invokevirtual 130, 3) := dw_row (j := 2) dw_h_prog_10_method_38_code_1 rfl dw_b_X9_walk_76.2.2.2.2.2.2.1
theorem dc_X9_walk_69 : decode prog_10_method_38_code 69 = .ok (.astore_n 3, 1) := dw_row (j := 5) dw_h_prog_10_method_38_code_1 rfl dw_b_X9_walk_76.2.2.2.2.2.2.2.1
theorem dc_X9_walk_70 : decode prog_10_method_38_code 70 = .ok (.iinc 4 1, 3) := dw_row (j := 6) dw_h_prog_10_method_38_code_1 rfl dw_b_X9_walk_76.2.2.2.2.2.2.2.2.1
theorem dc_X9_walk_73 : decode prog_10_method_38_code 73 = .ok (.goto (-26), 3) := dw_row (j := 9) dw_h_prog_10_method_38_code_1 rfl dw_b_X9_walk_76.2.2.2.2.2.2.2.2.2
end
section
set_option linter.constructorNameAsVariable false in
set_option maxHeartbeats 4000000 in
set_option maxRecDepth 100000 in
theorem ml_X9_walk_L47 {p : Program} {l : Launch} {e : Env} {s : State} {m : MethodId} {args : Array Value} {below : List Frame} {meth : Method} {c : Code} {G : ky_G} {A : Nat → Prop} {mo : Nat} {cs : Nat} {N : Nat → Prop} {w : ky_MV} {f : Nat → Option Nat} {a1 : Int32} {a2 : Int32} (F : ky_F p s m meth c my_X9_walk.cls prog_10_method_38_code 5 (some .int) args) (hE : ky_E G s) (hA : ∀ q, s.heap.size ≤ q → A q) (hfr : ∀ q, A q → ky_fr G q) (hAe : A = va_A (ky_WM G mo cs w f) s.heap.size) (hIT0 : ky_IT G mo cs N f w.2.2.2.2 s.heap)  : ∀ (n9 : Nat) (k9 : Nat) (b9 : Nat) (v9 : Int32 × Int64) (tt : Int32) (hkM : k9 ≤ (jiabs a2).toInt.toNat) (hn9 : (jiabs a2).toInt.toNat - k9 < n9) (hM : (jiabs a2).toInt.toNat ≤ 40) (ho9 : ky_ok mo cs N b9) (hv9 : v9 = ky_wkit k9 (if (0 : Int32) ≤ a2 then 0 else 1) (w.2.2.2.2 a1.toNatClampNeg)) (hW : fn_X9_walk a1 a2 w = fn_X9_give a1 (ky_wkit (jiabs a2).toInt.toNat (if (0 : Int32) ≤ a2 then 0 else 1) (w.2.2.2.2 a1.toNatClampNeg)) (tt, w.2.1, w.2.2.1, w.2.2.2.1, w.2.2.2.2)) (h1 : vp_in (a1) 6) (H : Heap) (locs : List Loc), va_P G.1 kcl [(mo, .inr (5, [.int (tt), .ref cs, .int (w.2.1), .int (w.2.2.1), .int (w.2.2.2.1)])), (cs, .inl (G.2.1 3, 6, .inr (.inr (.inr (.inr (f))))))] H → va_D A [(mo, .inr (5, [.int (tt), .ref cs, .int (w.2.1), .int (w.2.2.1), .int (w.2.2.2.1)])), (cs, .inl (G.2.1 3, 6, .inr (.inr (.inr (.inr (f))))))] → va_S A s.heap H locs → ky_It G b9 v9 H → ∀ ls : Array Slot, lv_has ls 5 [(0, .ref mo), (1, .int (a1)), (2, .int (a2)), (3, .ref b9), (4, .int (nI (k9)))] → W p l e { frames := 6, cells := 120, slots := 240, locals := 127 } s m args below meth c H locs (3 * k9) (6 * k9) (MQ below (ky_Q (S := ky_MV × (Nat → Option Nat)) G A (fun v u => v = some (.int (fn_X9_walk a1 a2 w).1) ∧ u.1 = (fn_X9_walk a1 a2 w).2) (fun u => ky_WM G mo cs u.1 u.2) (fun u H => ky_IT G mo cs N u.2 u.1.2.2.2.2 H)) args s (120) (240) A) (F0 m 47 ls []) := by
  obtain ⟨hx, hb, hml, hown, hr, hlocks, hts⟩ := id F
  intro n9
  induction n9 with
  | zero => intro k9 b9 v9 tt hkM hn9 hM ho9 hv9 hW h1; exact False.elim (by omega)
  | succ n9 ih =>
      intro k9 b9 v9 tt hkM hn9 hM ho9 hv9 hW h1 H locs hP hD hS hI9 ls hl
      refine lv_iload hx hb dc_X9_walk_47 (lv_at hl 4 rfl) ?_
      refine lv_iload_n hx hb dc_X9_walk_49 rfl (lv_at hl 2 rfl) ?_
      refine ky_iabs F ⟨kw_7_27, kw_7_28, kw_1_16, kw_7_29⟩ hl.1 (Nat.le_of_ble_eq_true rfl) (Nat.le_of_ble_eq_true rfl) ⟨by show (_ : Nat) ≤ 120; omega, by show (_ : Nat) ≤ 240; omega⟩ dc_X9_walk_50 ?_
      refine lv_icmp_ge (tgt := 76) hx hb dc_X9_walk_53 (by decide) (fun c_0 => ?_) (fun c_0 => ?_)
      · skip
        have h9k := (ky_wk1 (by omega)).mp c_0
        have ek : k9 = (jiabs a2).toInt.toNat := by omega
        have hIT := hIT0.ro hAe hS
        refine lv_aload_n hx hb dc_X9_walk_76 rfl (lv_at hl 0 rfl) ?_
        refine lv_iload_n hx hb dc_X9_walk_77 rfl (lv_at hl 1 rfl) ?_
        refine lv_aload_n hx hb dc_X9_walk_78 rfl (lv_at hl 3 rfl) ?_
        refine ky_cVh (As := [.int (a1), .ref b9]) (wr := []) F (hE.at hfr hS) hfr (mt_X9_give l G mo cs N (tt, w.2.1, w.2.2.1, w.2.2.2.1, w.2.2.2.2) (f) (b9) (v9) ho9 (a1) H.size h1) kv_X9_63 ⟨⟨rfl, rfl⟩, by decide, by decide⟩ rfl hl.1 rfl (Nat.le_of_ble_eq_true rfl) ⟨by show (_ : Nat) ≤ 120; omega, by show (_ : Nat) ≤ 240; omega⟩ (va_recv hE.1 hP (ci := 5) (q0 := 0) rfl rfl) ⟨hIT, hI9⟩ hP hD hS hA [0, 1] [] rfl rfl (by decide) (by decide) (by decide) dc_X9_walk_79 ?_
        rintro v8 ⟨w8, f8⟩ H locs ⟨rfl, hw8⟩ hP hD hS hIT9 hz hk9
        have hf9 : fn_X9_walk a1 a2 w = fn_X9_give a1 v9 (tt, w.2.1, w.2.2.1, w.2.2.2.1, w.2.2.2.2) := by rw [hW, hv9, ek]
        refine W.widen (k := 120) (n := 240) (by omega) (by omega) ?_
        exact W.iret (v := (fn_X9_give a1 v9 (tt, w.2.1, w.2.2.1, w.2.2.2.1, w.2.2.2.2)).1) hx hb hr (fun t ht hW9 => ⟨⟨_, (w8, f8), rfl, ⟨by rw [hf9], by rw [hf9]; exact hw8⟩, by rw [ht]; exact hP, hD, by rw [ht]; exact hIT9⟩, hS.F ht⟩) hS.2.2 dc_X9_walk_82
      · skip
        have h9k : ¬ (jiabs a2).toInt.toNat ≤ k9 := fun z => c_0 ((ky_wk1 (by omega)).mpr z)
        have hIT := hIT0.ro hAe hS
        have hm_9 := (hP 0 _ rfl).lt
        have hc_9 := (hP 1 _ rfl).lt
        refine lv_aload_n hx hb dc_X9_walk_56 rfl (lv_at hl 3 rfl) ?_
        refine lv_iload_n hx hb dc_X9_walk_57 rfl (lv_at hl 2 rfl) ?_
        refine lv_if_ge (tgt := 65) hx hb dc_X9_walk_58 (by decide) (fun c_1 => ?_) (fun c_1 => ?_)
        · skip
          refine lv_iconst (v := 0) hx hb dc_X9_walk_65 (by decide) ?_
          have hs_2 := hS.1
          refine ky_cVh (As := [.int ((0 : Int32))]) (wr := [(mo, .inr (5, [.int (tt), .ref cs, .int (w.2.1), .int (w.2.2.1), .int (w.2.2.2.1)])), (cs, .inl (G.2.1 3, 6, .inr (.inr (.inr (.inr (f))))))]) F (hE.at hfr hS) hfr (mt_X8_next l G (b9) v9 ((0 : Int32)) H.size) kv_X9_130 ⟨⟨rfl, rfl⟩, by decide, by decide⟩ rfl hl.1 rfl (Nat.le_of_ble_eq_true rfl) ⟨by show (_ : Nat) ≤ 120; omega, by show (_ : Nat) ≤ 240; omega⟩ (va_recv hE.1 hI9 (ci := 4) (q0 := 0) rfl rfl) hI9 hP hD hS hA [] [0, 1] rfl rfl (by decide) (by decide) (by decide) dc_X9_walk_66 ?_
          rintro v9 q_2 H locs rfl hP hD hS ⟨hI_2, hd_2⟩ hz hk9
          have hP : va_P G.1 kcl [(mo, .inr (5, [.int (tt), .ref cs, .int (w.2.1), .int (w.2.2.1), .int (w.2.2.2.1)])), (cs, .inl (G.2.1 3, 6, .inr (.inr (.inr (.inr (f))))))] H := hP
          have hD : va_D A [(mo, .inr (5, [.int (tt), .ref cs, .int (w.2.1), .int (w.2.2.1), .int (w.2.2.2.1)])), (cs, .inl (G.2.1 3, 6, .inr (.inr (.inr (.inr (f))))))] := hD
          have hI9 := hI9.fr hk9
          refine W.widen (k := 3 * k9 + 3) (n := 6 * k9 + 6) (Nat.le_refl _) (Nat.le_refl _) ?_
          refine lv_astore_n (lv' := [(3, .ref q_2), (0, .ref mo), (1, .int (a1)), (2, .int (a2)), (4, .int (nI (k9)))]) hx hb dc_X9_walk_69 rfl hl (by decide) rfl (fun ls hl => ?_)
          refine lv_iinc (v := nI (k9 + 1)) (lv' := [(4, .int (nI (k9 + 1))), (3, .ref q_2), (0, .ref mo), (1, .int (a1)), (2, .int (a2))]) hx hb dc_X9_walk_70 hl (k := 4) rfl (nI_1 _) (by decide) rfl (fun ls hl => ?_)
          refine lv_goto (tgt := 47) hx hb dc_X9_walk_73 (by decide) ?_
          have hv8 : (fn_X8_next ((0 : Int32)) v9) = ky_wkit (k9 + 1) (if (0 : Int32) ≤ a2 then 0 else 1) (w.2.2.2.2 a1.toNatClampNeg) := by rw [ky_wkit, ← hv9, if_pos c_1]
          refine W.widen (k := 3 * (k9 + 1)) (n := 6 * (k9 + 1)) (by first | exact Nat.le_refl _ | omega | exact Nat.zero_le _) (by first | exact Nat.le_refl _ | omega | exact Nat.zero_le _) ?_
          exact ih (k9 + 1) q_2 (fn_X8_next ((0 : Int32)) v9) tt (by omega) (by omega) hM (ho9.or hm_9 hc_9 hIT.1 hd_2) hv8 hW h1 _ _ (hP.sub (ws' := [(mo, .inr (5, [.int (tt), .ref cs, .int (w.2.1), .int (w.2.2.1), .int (w.2.2.2.1)])), (cs, .inl (G.2.1 3, 6, .inr (.inr (.inr (.inr (f))))))]) [0, 1] rfl) (hD.sub (ws' := [(mo, .inr (5, [.int (tt), .ref cs, .int (w.2.1), .int (w.2.2.1), .int (w.2.2.2.1)])), (cs, .inl (G.2.1 3, 6, .inr (.inr (.inr (.inr (f))))))]) [0, 1] (by decide) rfl) hS hI_2 _ (lv_sub hl [2, 3, 4, 1, 0] rfl)
        · skip
          refine lv_iconst (v := 1) hx hb dc_X9_walk_61 (by decide) ?_
          refine lv_goto (tgt := 66) hx hb dc_X9_walk_62 (by decide) ?_
          have hs_2 := hS.1
          refine ky_cVh (As := [.int ((1 : Int32))]) (wr := [(mo, .inr (5, [.int (tt), .ref cs, .int (w.2.1), .int (w.2.2.1), .int (w.2.2.2.1)])), (cs, .inl (G.2.1 3, 6, .inr (.inr (.inr (.inr (f))))))]) F (hE.at hfr hS) hfr (mt_X8_next l G (b9) v9 ((1 : Int32)) H.size) kv_X9_130 ⟨⟨rfl, rfl⟩, by decide, by decide⟩ rfl hl.1 rfl (Nat.le_of_ble_eq_true rfl) ⟨by show (_ : Nat) ≤ 120; omega, by show (_ : Nat) ≤ 240; omega⟩ (va_recv hE.1 hI9 (ci := 4) (q0 := 0) rfl rfl) hI9 hP hD hS hA [] [0, 1] rfl rfl (by decide) (by decide) (by decide) dc_X9_walk_66 ?_
          rintro v9 q_2 H locs rfl hP hD hS ⟨hI_2, hd_2⟩ hz hk9
          have hP : va_P G.1 kcl [(mo, .inr (5, [.int (tt), .ref cs, .int (w.2.1), .int (w.2.2.1), .int (w.2.2.2.1)])), (cs, .inl (G.2.1 3, 6, .inr (.inr (.inr (.inr (f))))))] H := hP
          have hD : va_D A [(mo, .inr (5, [.int (tt), .ref cs, .int (w.2.1), .int (w.2.2.1), .int (w.2.2.2.1)])), (cs, .inl (G.2.1 3, 6, .inr (.inr (.inr (.inr (f))))))] := hD
          have hI9 := hI9.fr hk9
          refine W.widen (k := 3 * k9 + 3) (n := 6 * k9 + 6) (Nat.le_refl _) (Nat.le_refl _) ?_
          refine lv_astore_n (lv' := [(3, .ref q_2), (0, .ref mo), (1, .int (a1)), (2, .int (a2)), (4, .int (nI (k9)))]) hx hb dc_X9_walk_69 rfl hl (by decide) rfl (fun ls hl => ?_)
          refine lv_iinc (v := nI (k9 + 1)) (lv' := [(4, .int (nI (k9 + 1))), (3, .ref q_2), (0, .ref mo), (1, .int (a1)), (2, .int (a2))]) hx hb dc_X9_walk_70 hl (k := 4) rfl (nI_1 _) (by decide) rfl (fun ls hl => ?_)
          refine lv_goto (tgt := 47) hx hb dc_X9_walk_73 (by decide) ?_
          have hv8 : (fn_X8_next ((1 : Int32)) v9) = ky_wkit (k9 + 1) (if (0 : Int32) ≤ a2 then 0 else 1) (w.2.2.2.2 a1.toNatClampNeg) := by rw [ky_wkit, ← hv9, if_neg c_1]
          refine W.widen (k := 3 * (k9 + 1)) (n := 6 * (k9 + 1)) (by first | exact Nat.le_refl _ | omega | exact Nat.zero_le _) (by first | exact Nat.le_refl _ | omega | exact Nat.zero_le _) ?_
          exact ih (k9 + 1) q_2 (fn_X8_next ((1 : Int32)) v9) tt (by omega) (by omega) hM (ho9.or hm_9 hc_9 hIT.1 hd_2) hv8 hW h1 _ _ (hP.sub (ws' := [(mo, .inr (5, [.int (tt), .ref cs, .int (w.2.1), .int (w.2.2.1), .int (w.2.2.2.1)])), (cs, .inl (G.2.1 3, 6, .inr (.inr (.inr (.inr (f))))))]) [0, 1] rfl) (hD.sub (ws' := [(mo, .inr (5, [.int (tt), .ref cs, .int (w.2.1), .int (w.2.2.1), .int (w.2.2.2.1)])), (cs, .inl (G.2.1 3, 6, .inr (.inr (.inr (.inr (f))))))]) [0, 1] (by decide) rfl) hS hI_2 _ (lv_sub hl [2, 3, 4, 1, 0] rfl)
set_option linter.constructorNameAsVariable false in
set_option maxHeartbeats 4000000 in
set_option maxRecDepth 100000 in
theorem mt_X9_walk (l : Launch) (G : ky_G) (mo : Nat) (cs : Nat) (N : Nat → Prop) (w : ky_MV) (f : Nat → Option Nat) (a1 : Int32) (a2 : Int32) (sz : Nat)  : Met l my_X9_walk (.code my_X9_walk prog_10_method_38_code 5 (some .int) :: ky_B) { frames := 6, cells := 120, slots := 240, locals := 127 } (ky_P G [.ref mo, .int (a1), .int (a2)] (ky_WM G mo cs w f) sz (fun H => ky_IT G mo cs N f w.2.2.2.2 H)) (ky_Q (S := ky_MV × (Nat → Option Nat)) G (va_A (ky_WM G mo cs w f) sz) (fun v u => v = some (.int (fn_X9_walk a1 a2 w).1) ∧ u.1 = (fn_X9_walk a1 a2 w).2) (fun u => ky_WM G mo cs u.1 u.2) (fun u H => ky_IT G mo cs N u.2 u.1.2.2.2.2 H)) (120) (240) (va_A (ky_WM G mo cs w f) sz) := by
  refine ky_start (by decide) (Nat.le_of_ble_eq_true rfl) (fun p e s m below meth c F hE A hAe hsz hA hfr hP hD hS hX ls hl => ?_)
  obtain ⟨hx, hb, hml, hown, hr, hlocks, hts⟩ := id F
  have hl : lv_has ls 5 [(0, .ref mo), (1, .int (a1)), (2, .int (a2))] := hl
  have hP : va_P G.1 kcl [(mo, .inr (5, [.int (w.1), .ref cs, .int (w.2.1), .int (w.2.2.1), .int (w.2.2.2.1)])), (cs, .inl (G.2.1 3, 6, .inr (.inr (.inr (.inr (f))))))] s.heap := hP
  have hD : va_D A [(mo, .inr (5, [.int (w.1), .ref cs, .int (w.2.1), .int (w.2.2.1), .int (w.2.2.2.1)])), (cs, .inl (G.2.1 3, 6, .inr (.inr (.inr (.inr (f))))))] := hD
  have hIT0 := hX
  refine lv_aload_n hx hb dc_X9_walk_0 rfl (lv_at hl 0 rfl) ?_
  refine lv_iload_n hx hb dc_X9_walk_1 rfl (lv_at hl 1 rfl) ?_
  refine ky_cS0 (As := [.int (a1)]) F (mt_X9_isNo l (a1)) ks_X9_51 ⟨⟨rfl, rfl⟩, by decide, by decide⟩ rfl hl.1 rfl (Nat.le_of_ble_eq_true rfl) ⟨by show (_ : Nat) ≤ 120; omega, by show (_ : Nat) ≤ 240; omega⟩ dc_X9_walk_2 ?_
  refine ky_cVh (As := [.int (fn_X9_isNo (a1))]) (wr := []) F (hE.at hfr hS) hfr (mt_X9_startJ l G (mo) (cs) ((w.1, w.2.1, w.2.2.1, w.2.2.2.1)) (f) (fn_X9_isNo (a1)) s.heap.size ) kv_X9_55 ⟨⟨rfl, rfl⟩, by decide, by decide⟩ rfl hl.1 rfl (Nat.le_of_ble_eq_true rfl) ⟨by show (_ : Nat) ≤ 120; omega, by show (_ : Nat) ≤ 240; omega⟩ (va_recv hE.1 hP (ci := 5) (q0 := 0) rfl rfl) trivial hP hD hS hA [0, 1] [] rfl rfl (by decide) (by decide) (by decide) dc_X9_walk_5 ?_
  rintro v9 u9 H locs ⟨rfl, hu9⟩ hP hD hS - hz hk9
  have hu9 := hu9.symm
  subst hu9
  obtain ⟨j_1, hj_1⟩ : ∃ j9, j9 = jst (fn_X9_isNo (a1)) := ⟨_, rfl⟩
  rw [← hj_1] at hP hD ⊢
  try rw [← hj_1] at hw
  have hP : va_P G.1 kcl [(mo, .inr (5, [.int (j_1), .ref cs, .int (w.2.1), .int (w.2.2.1), .int (w.2.2.2.1)])), (cs, .inl (G.2.1 3, 6, .inr (.inr (.inr (.inr (f))))))] H := hP
  have hD : va_D A [(mo, .inr (5, [.int (j_1), .ref cs, .int (w.2.1), .int (w.2.2.1), .int (w.2.2.2.1)])), (cs, .inl (G.2.1 3, 6, .inr (.inr (.inr (.inr (f))))))] := hD
  refine W.widen (k := 0) (n := 0) (Nat.le_refl _) (Nat.le_refl _) ?_
  refine lv_if_ne (tgt := 35) hx hb dc_X9_walk_8 (by decide) (fun c_2 => ?_) (fun c_2 => ?_)
  · skip
    refine lv_iconst (v := 0) hx hb dc_X9_walk_35 (by decide) ?_
    have hW0 : fn_X9_walk a1 a2 w = (0, (j_1, w.2.1, w.2.2.1, w.2.2.2.1, w.2.2.2.2)) := by unfold fn_X9_walk; rw [if_neg (fun z => c_2 (hj_1.trans z)), ← hj_1]
    have hP9 := hP.sub (ws' := [(mo, .inr (5, [.int (j_1), .ref cs, .int (w.2.1), .int (w.2.2.1), .int (w.2.2.2.1)])), (cs, .inl (G.2.1 3, 6, .inr (.inr (.inr (.inr (f))))))]) [0, 1] rfl
    have hD9 := hD.sub (ws' := [(mo, .inr (5, [.int (j_1), .ref cs, .int (w.2.1), .int (w.2.2.1), .int (w.2.2.2.1)])), (cs, .inl (G.2.1 3, 6, .inr (.inr (.inr (.inr (f))))))]) [0, 1] (by decide) rfl
    refine W.widen (k := 120) (n := 240) (Nat.zero_le _) (Nat.zero_le _) ?_
    exact W.iret (v := (0 : Int32)) hx hb hr (fun t ht hW => ⟨⟨_, ((j_1, w.2.1, w.2.2.1, w.2.2.2.1, w.2.2.2.2), f), rfl, ⟨by rw [hW0], by rw [hW0]⟩, by rw [ht]; exact hP9, hD9, by rw [ht]; exact hIT0.ro hAe hS⟩, hS.F ht⟩) hS.2.2 dc_X9_walk_36
  · skip
    refine lv_aload_n hx hb dc_X9_walk_11 rfl (lv_at hl 0 rfl) ?_
    refine lv_iload_n hx hb dc_X9_walk_12 rfl (lv_at hl 2 rfl) ?_
    refine lv_bipush (v := (-40)) hx hb dc_X9_walk_13 (by decide) ?_
    refine lv_bipush (v := 40) hx hb dc_X9_walk_15 (by decide) ?_
    refine ky_cS0 (As := [.int (a2), .int ((-40 : Int32)), .int ((40 : Int32))]) F (mt_X9_isOf l (a2) ((-40 : Int32)) ((40 : Int32))) ks_X9_40 ⟨⟨rfl, rfl⟩, by decide, by decide⟩ rfl hl.1 rfl (Nat.le_of_ble_eq_true rfl) ⟨by show (_ : Nat) ≤ 120; omega, by show (_ : Nat) ≤ 240; omega⟩ dc_X9_walk_17 ?_
    refine lv_if_ne (tgt := 27) hx hb dc_X9_walk_20 (by decide) (fun c_3 => ?_) (fun c_3 => ?_)
    · skip
      refine lv_iconst (v := 0) hx hb dc_X9_walk_27 (by decide) ?_
      refine lv_iconst (v := 2) hx hb dc_X9_walk_28 (by decide) ?_
      refine ky_cVh (As := [.int ((0 : Int32)), .int ((2 : Int32))]) (wr := []) F (hE.at hfr hS) hfr (mt_X9_refuseJ l G (mo) (cs) ((j_1, w.2.1, w.2.2.1, w.2.2.2.1)) (f) ((0 : Int32)) ((2 : Int32)) H.size ) kv_X9_36 ⟨⟨rfl, rfl⟩, by decide, by decide⟩ rfl hl.1 rfl (Nat.le_of_ble_eq_true rfl) ⟨by show (_ : Nat) ≤ 120; omega, by show (_ : Nat) ≤ 240; omega⟩ (va_recv hE.1 hP (ci := 5) (q0 := 0) rfl rfl) trivial hP hD hS hA [0, 1] [] rfl rfl (by decide) (by decide) (by decide) dc_X9_walk_29 ?_
      rintro v9 u9 H locs ⟨rfl, hu9⟩ hP hD hS - hz hk9
      have hu9 := hu9.symm
      subst hu9
      obtain ⟨j_5, hj_5⟩ : ∃ j9, j9 = jrt ((0 : Int32)) ((2 : Int32)) (j_1) := ⟨_, rfl⟩
      rw [← hj_5] at hP hD ⊢
      try rw [← hj_5] at hw
      have hP : va_P G.1 kcl [(mo, .inr (5, [.int (j_5), .ref cs, .int (w.2.1), .int (w.2.2.1), .int (w.2.2.2.1)])), (cs, .inl (G.2.1 3, 6, .inr (.inr (.inr (.inr (f))))))] H := hP
      have hD : va_D A [(mo, .inr (5, [.int (j_5), .ref cs, .int (w.2.1), .int (w.2.2.1), .int (w.2.2.2.1)])), (cs, .inl (G.2.1 3, 6, .inr (.inr (.inr (.inr (f))))))] := hD
      refine W.widen (k := 0) (n := 0) (Nat.le_refl _) (Nat.le_refl _) ?_
      refine lv_if_eq (tgt := 37) hx hb dc_X9_walk_32 (by decide) (fun c_6 => ?_) (fun c_6 => ?_)
      · skip
        refine lv_aload_n hx hb dc_X9_walk_37 rfl (lv_at hl 0 rfl) ?_
        refine va_get (D := G.1) (ci := 5) (v := .ref cs) (C := RX9) (T := TX9) (N := 5) hx hb hts ki_X9 hown hE.1 hP 0 rfl rfl 1 (by decide) (hts _ kw_6_20) (fun _ h9 => h9) rfl dc_X9_walk_38 ?_
        refine lv_iload_n hx hb dc_X9_walk_41 rfl (lv_at hl 1 rfl) ?_
        have hv_7 : vp_in (a1) 6 := (lr_start (hj_1.symm.trans c_2))
        have hIT := hIT0.ro hAe hS
        refine va_aldq hx hb hE.1 hP 1 3 rfl rfl hv_7 dc_X9_walk_42 ?_
        obtain ⟨b_7, hb_7, hI_7, ho_7⟩ := hIT.2 _ (ky_i6 hv_7)
        rw [ky_rf hb_7]
        have hX_7 : ky_It G b_7 ((w.2.2.2.2) (a1).toNatClampNeg) s.heap := by obtain ⟨b9, e9, i9, -⟩ := hIT0.2 _ (ky_i6 hv_7); have z9 : b9 = b_7 := Option.some.inj (e9.symm.trans hb_7); exact z9 ▸ i9
        refine lv_astore_n (lv' := [(3, .ref b_7), (0, .ref mo), (1, .int (a1)), (2, .int (a2))]) hx hb dc_X9_walk_43 rfl hl (by decide) rfl (fun ls hl => ?_)
        refine lv_iconst (v := 0) hx hb dc_X9_walk_44 (by decide) ?_
        refine lv_istore (lv' := [(4, .int ((0 : Int32))), (3, .ref b_7), (0, .ref mo), (1, .int (a1)), (2, .int (a2))]) hx hb dc_X9_walk_45 hl (by decide) rfl (fun ls hl => ?_)
        have hI_7 := ky_ro2 hX_7 ho_7 hAe hS
        have hW : fn_X9_walk a1 a2 w = fn_X9_give a1 (ky_wkit (jiabs a2).toInt.toNat (if (0 : Int32) ≤ a2 then 0 else 1) (w.2.2.2.2 a1.toNatClampNeg)) (j_5, w.2.1, w.2.2.1, w.2.2.2.1, w.2.2.2.2) := by unfold fn_X9_walk; rw [if_pos (hj_1.symm.trans c_2), if_neg c_3, ← hj_1, ← hj_5, if_pos c_6]
        have hM := ky_wk40 c_3
        refine W.widen (k := 3 * 0) (n := 6 * 0) (by first | exact Nat.le_refl _ | omega | exact Nat.zero_le _) (by first | exact Nat.le_refl _ | omega | exact Nat.zero_le _) ?_
        exact ml_X9_walk_L47 (mo := mo) (cs := cs) (N := N) (w := w) (f := f) (a1 := a1) (a2 := a2) F hE hA hfr hAe hIT0  (41) 0 b_7 (w.2.2.2.2 a1.toNatClampNeg) j_5 (Nat.zero_le _) (by omega) hM ho_7 rfl hW (lr_start (hj_1.symm.trans c_2)) _ _ (hP.sub (ws' := [(mo, .inr (5, [.int (j_5), .ref cs, .int (w.2.1), .int (w.2.2.1), .int (w.2.2.2.1)])), (cs, .inl (G.2.1 3, 6, .inr (.inr (.inr (.inr (f))))))]) [0, 1] rfl) (hD.sub (ws' := [(mo, .inr (5, [.int (j_5), .ref cs, .int (w.2.1), .int (w.2.2.1), .int (w.2.2.2.1)])), (cs, .inl (G.2.1 3, 6, .inr (.inr (.inr (.inr (f))))))]) [0, 1] (by decide) rfl) hS hI_7 _ (lv_sub hl [2, 3, 4, 1, 0] rfl)
      · skip
        refine lv_iconst (v := 0) hx hb dc_X9_walk_35 (by decide) ?_
        have hW0 : fn_X9_walk a1 a2 w = (0, (j_5, w.2.1, w.2.2.1, w.2.2.2.1, w.2.2.2.2)) := by unfold fn_X9_walk; rw [if_pos (hj_1.symm.trans c_2), if_neg c_3, ← hj_1, ← hj_5, if_neg c_6]
        have hP9 := hP.sub (ws' := [(mo, .inr (5, [.int (j_5), .ref cs, .int (w.2.1), .int (w.2.2.1), .int (w.2.2.2.1)])), (cs, .inl (G.2.1 3, 6, .inr (.inr (.inr (.inr (f))))))]) [0, 1] rfl
        have hD9 := hD.sub (ws' := [(mo, .inr (5, [.int (j_5), .ref cs, .int (w.2.1), .int (w.2.2.1), .int (w.2.2.2.1)])), (cs, .inl (G.2.1 3, 6, .inr (.inr (.inr (.inr (f))))))]) [0, 1] (by decide) rfl
        refine W.widen (k := 120) (n := 240) (Nat.zero_le _) (Nat.zero_le _) ?_
        exact W.iret (v := (0 : Int32)) hx hb hr (fun t ht hW => ⟨⟨_, ((j_5, w.2.1, w.2.2.1, w.2.2.2.1, w.2.2.2.2), f), rfl, ⟨by rw [hW0], by rw [hW0]⟩, by rw [ht]; exact hP9, hD9, by rw [ht]; exact hIT0.ro hAe hS⟩, hS.F ht⟩) hS.2.2 dc_X9_walk_36
    · skip
      refine lv_iconst (v := 1) hx hb dc_X9_walk_23 (by decide) ?_
      refine lv_goto (tgt := 28) hx hb dc_X9_walk_24 (by decide) ?_
      refine lv_iconst (v := 2) hx hb dc_X9_walk_28 (by decide) ?_
      refine ky_cVh (As := [.int ((1 : Int32)), .int ((2 : Int32))]) (wr := []) F (hE.at hfr hS) hfr (mt_X9_refuseJ l G (mo) (cs) ((j_1, w.2.1, w.2.2.1, w.2.2.2.1)) (f) ((1 : Int32)) ((2 : Int32)) H.size ) kv_X9_36 ⟨⟨rfl, rfl⟩, by decide, by decide⟩ rfl hl.1 rfl (Nat.le_of_ble_eq_true rfl) ⟨by show (_ : Nat) ≤ 120; omega, by show (_ : Nat) ≤ 240; omega⟩ (va_recv hE.1 hP (ci := 5) (q0 := 0) rfl rfl) trivial hP hD hS hA [0, 1] [] rfl rfl (by decide) (by decide) (by decide) dc_X9_walk_29 ?_
      rintro v9 u9 H locs ⟨rfl, hu9⟩ hP hD hS - hz hk9
      have hu9 := hu9.symm
      subst hu9
      obtain ⟨j_5, hj_5⟩ : ∃ j9, j9 = jrt ((1 : Int32)) ((2 : Int32)) (j_1) := ⟨_, rfl⟩
      rw [← hj_5] at hP hD ⊢
      try rw [← hj_5] at hw
      have hP : va_P G.1 kcl [(mo, .inr (5, [.int (j_5), .ref cs, .int (w.2.1), .int (w.2.2.1), .int (w.2.2.2.1)])), (cs, .inl (G.2.1 3, 6, .inr (.inr (.inr (.inr (f))))))] H := hP
      have hD : va_D A [(mo, .inr (5, [.int (j_5), .ref cs, .int (w.2.1), .int (w.2.2.1), .int (w.2.2.2.1)])), (cs, .inl (G.2.1 3, 6, .inr (.inr (.inr (.inr (f))))))] := hD
      refine W.widen (k := 0) (n := 0) (Nat.le_refl _) (Nat.le_refl _) ?_
      refine lv_if_eq (tgt := 37) hx hb dc_X9_walk_32 (by decide) (fun c_6 => ?_) (fun c_6 => ?_)
      · skip
        refine lv_aload_n hx hb dc_X9_walk_37 rfl (lv_at hl 0 rfl) ?_
        refine va_get (D := G.1) (ci := 5) (v := .ref cs) (C := RX9) (T := TX9) (N := 5) hx hb hts ki_X9 hown hE.1 hP 0 rfl rfl 1 (by decide) (hts _ kw_6_20) (fun _ h9 => h9) rfl dc_X9_walk_38 ?_
        refine lv_iload_n hx hb dc_X9_walk_41 rfl (lv_at hl 1 rfl) ?_
        have hv_7 : vp_in (a1) 6 := (lr_start (hj_1.symm.trans c_2))
        have hIT := hIT0.ro hAe hS
        refine va_aldq hx hb hE.1 hP 1 3 rfl rfl hv_7 dc_X9_walk_42 ?_
        obtain ⟨b_7, hb_7, hI_7, ho_7⟩ := hIT.2 _ (ky_i6 hv_7)
        rw [ky_rf hb_7]
        have hX_7 : ky_It G b_7 ((w.2.2.2.2) (a1).toNatClampNeg) s.heap := by obtain ⟨b9, e9, i9, -⟩ := hIT0.2 _ (ky_i6 hv_7); have z9 : b9 = b_7 := Option.some.inj (e9.symm.trans hb_7); exact z9 ▸ i9
        refine lv_astore_n (lv' := [(3, .ref b_7), (0, .ref mo), (1, .int (a1)), (2, .int (a2))]) hx hb dc_X9_walk_43 rfl hl (by decide) rfl (fun ls hl => ?_)
        refine lv_iconst (v := 0) hx hb dc_X9_walk_44 (by decide) ?_
        refine lv_istore (lv' := [(4, .int ((0 : Int32))), (3, .ref b_7), (0, .ref mo), (1, .int (a1)), (2, .int (a2))]) hx hb dc_X9_walk_45 hl (by decide) rfl (fun ls hl => ?_)
        exfalso
        exact ky_wkno c_2 hj_5 c_6
      · skip
        refine lv_iconst (v := 0) hx hb dc_X9_walk_35 (by decide) ?_
        have hW0 : fn_X9_walk a1 a2 w = (0, (j_5, w.2.1, w.2.2.1, w.2.2.2.1, w.2.2.2.2)) := by unfold fn_X9_walk; rw [if_pos (hj_1.symm.trans c_2), if_pos c_3, ← hj_1, ← hj_5, if_neg c_6]
        have hP9 := hP.sub (ws' := [(mo, .inr (5, [.int (j_5), .ref cs, .int (w.2.1), .int (w.2.2.1), .int (w.2.2.2.1)])), (cs, .inl (G.2.1 3, 6, .inr (.inr (.inr (.inr (f))))))]) [0, 1] rfl
        have hD9 := hD.sub (ws' := [(mo, .inr (5, [.int (j_5), .ref cs, .int (w.2.1), .int (w.2.2.1), .int (w.2.2.2.1)])), (cs, .inl (G.2.1 3, 6, .inr (.inr (.inr (.inr (f))))))]) [0, 1] (by decide) rfl
        refine W.widen (k := 120) (n := 240) (Nat.zero_le _) (Nat.zero_le _) ?_
        exact W.iret (v := (0 : Int32)) hx hb hr (fun t ht hW => ⟨⟨_, ((j_5, w.2.1, w.2.2.1, w.2.2.2.1, w.2.2.2.2), f), rfl, ⟨by rw [hW0], by rw [hW0]⟩, by rw [ht]; exact hP9, hD9, by rw [ht]; exact hIT0.ro hAe hS⟩, hS.F ht⟩) hS.2.2 dc_X9_walk_36
end
section
/-! a new table of eight rows of six longs -/
def ky_mo (cA h i : Nat) : Cell := arrV cA 8 (fun j => va_rf (if j < i then some (h + 1 + j) else none))
def ky_mi (cB : Nat) : Cell := arrV cB 6 (fun _ => .long 0)
def ky_mf (T : State) (cA cB : Nat) : Nat → State
  | 0 => T.pushCell (ky_mo cA T.heap.size 0)
  | i + 1 => ((ky_mf T cA cB i).pushCell (ky_mi cB)).setCell T.heap.size (ky_mo cA T.heap.size (i + 1))
theorem ky_mo_up (cA h i : Nat) : (ky_mo cA h i).setSlot i (.ref (h + 1 + i)) = ky_mo cA h (i + 1) := by
  unfold ky_mo
  rw [arrV_store]
  refine congrArg (arrV cA 8) (funext fun j => ?_)
  unfold updV
  by_cases q : j = i
  · rw [if_pos q, if_pos (by omega), q]
    rfl
  · rw [if_neg q]
    by_cases w : j < i
    · show va_rf (if j < i then _ else _) = _
      rw [if_pos w, if_pos (by omega)]
    · show va_rf (if j < i then _ else _) = _
      rw [if_neg w, if_neg (by omega)]
theorem ky_mo_sz (cA h i : Nat) : (ky_mo cA h i).slots.size = 8 := arrV_size _ _ _
theorem ky_mi_sz (cB : Nat) : (ky_mi cB).slots.size = 6 := arrV_size _ _ _
theorem ky_mf_at (T : State) (cA cB : Nat) : ∀ i : Nat, ((ky_mf T cA cB i).heap.size = T.heap.size + 1 + i ∧ (ky_mf T cA cB i).heap[T.heap.size]? = some (ky_mo cA T.heap.size i) ∧ (ky_mf T cA cB i).vm = T.vm ∧ (ky_mf T cA cB i).slotsUsed = T.slotsUsed + 8 + i * 6) ∧
    (∀ x : Nat, x < T.heap.size → (ky_mf T cA cB i).heap[x]? = T.heap[x]?) ∧ ∀ j : Nat, j < i → (ky_mf T cA cB i).heap[T.heap.size + 1 + j]? = some (ky_mi cB)
  | 0 => ⟨⟨by show (T.heap.push _).size = _; rw [Array.size_push], Array.getElem?_push_size, rfl, by show T.slotsUsed + _ = _; rw [ky_mo_sz]⟩, fun x hx => by show (T.heap.push _)[x]? = _; rw [Array.getElem?_push, if_neg (Nat.ne_of_lt hx)], fun j hj => absurd hj (Nat.not_lt_zero _)⟩
  | i + 1 => by
    obtain ⟨⟨a1, a2, a3, a4⟩, a5, a6⟩ := ky_mf_at T cA cB i
    have z1 : (ky_mf T cA cB (i + 1)).heap.size = T.heap.size + 1 + (i + 1) := by
      show (((ky_mf T cA cB i).heap.push _).setIfInBounds _ _).size = _
      rw [Array.size_setIfInBounds, Array.size_push, a1]
      omega
    have far : ∀ x : Nat, x ≠ T.heap.size → x < T.heap.size + 1 + i → (ky_mf T cA cB (i + 1)).heap[x]? = (ky_mf T cA cB i).heap[x]? := fun x hx hl => by
      show (((ky_mf T cA cB i).heap.push _).setIfInBounds _ _)[x]? = _
      rw [Array.getElem?_setIfInBounds, if_neg (Ne.symm hx), Array.getElem?_push, if_neg (by omega)]
    refine ⟨⟨z1, ?_, a3, ?_⟩, fun x hx => (far x (by omega) (by omega)).trans (a5 x hx), fun j hj => ?_⟩
    · show (((ky_mf T cA cB i).heap.push _).setIfInBounds _ _)[_]? = _
      rw [Array.getElem?_setIfInBounds, if_pos rfl, if_pos (by rw [Array.size_push, a1]; omega)]
    · show (ky_mf T cA cB i).slotsUsed + _ = _
      rw [a4, ky_mi_sz]
      omega
    · by_cases q : j = i
      · subst q
        show (((ky_mf T cA cB j).heap.push _).setIfInBounds _ _)[_]? = _
        rw [Array.getElem?_setIfInBounds, if_neg (by omega), Array.getElem?_push, if_pos (by omega)]
      · exact (far _ (by omega) (by omega)).trans (a6 j (by omega))
theorem ky_mf_top (T : State) (f : JFrame) (cA cB : Nat) : ∀ i : Nat, ky_mf (T.setTop f) cA cB i = (ky_mf T cA cB i).setTop f
  | 0 => rfl
  | i + 1 => by
    show ((ky_mf (T.setTop f) cA cB i).pushCell _).setCell _ _ = _
    rw [ky_mf_top T f cA cB i]
    rfl
section KYMW
variable {E : CtlPost} {e : Env} {d : Bool} {acts : List Action} {s : State}
theorem ky_wn {c comp : ClassId} {k : Class} {ty : FieldType} {n : Nat} {v : Value} (h1 : s.vm.classes[c]? = some k) (h2 : k.kind = .array comp ty) (h3 : ¬ n > e.platform.arrayLengthLimit) (h4 : ¬ n * componentBytes ty > e.platform.maxHeapBytes) (h5 : fits ty v = true) (h6 : v.isDefault = true) {Q : Addr → Pre}
    (h7 : s.heap.size < e.platform.maxCells) (h8 : s.slotsUsed + n ≤ e.platform.maxSlots) (hq : ∀ acts', Q s.heap.size d acts' (s.pushCell (arrV c n (fun _ => v)))) : wp (Jvm.newArray c n v) Q E e d acts s := by
  have hf : ∀ (i : Nat) (w : Value), (Array.replicate n v)[i]? = some w → s.fitsSlot c .none i w = true := fun i w hw => by
    rw [Array.getElem?_replicate] at hw
    split at hw
    · cases hw
      simp [State.fitsSlot, State.slotType?, h1, h2, h5]
    · cases hw
  have hq9 := hq
  simp only [← arrV_new] at hq9
  simp only [Jvm.newArray, Jvm.arrayFits, wp_bind', W.ask, W.ite, h3, if_false, wp_pure', W.theClass, h1, h2, h4, W.alloc, W.stop, Option.some.injEq, exists_eq_left', Array.size_replicate]
  rw [if_neg (by omega)]
  exact ⟨h7, h8, hf, hq9 _⟩
theorem ky_wi {cB cc : ClassId} {k : Class} (h1 : s.vm.classes[cB]? = some k) (h2 : k.kind = .array cc .long) (h3 : ¬ 6 > e.platform.arrayLengthLimit) (h4 : ¬ 48 > e.platform.maxHeapBytes) (h7 : s.heap.size < e.platform.maxCells) (h8 : s.slotsUsed + 6 ≤ e.platform.maxSlots) {Q : Addr → Pre}
    (hq : ∀ acts', Q s.heap.size d acts' (s.pushCell (ky_mi cB))) : wp (multianewarray.make cB [(6 : Int32)]) Q E e d acts s := by
  rw [multianewarray.make]
  simp only [wp_bind', W.ite, show ¬ ((6 : Int32) < 0) by decide, if_false, wp_pure', W.theClass, h1, h2, Option.some.injEq, exists_eq_left']
  exact ky_wn h1 h2 h3 h4 rfl rfl h7 h8 hq
theorem ky_wm {cA cB cc : ClassId} {k kc : Class} (h1 : s.vm.classes[cA]? = some k) (h2 : k.kind = .array cB (.array .long)) (h3 : s.vm.classes[cB]? = some kc) (h4 : kc.kind = .array cc .long) (h5 : ¬ 8 > e.platform.arrayLengthLimit) (h6 : ¬ 48 > e.platform.maxHeapBytes)
    (h7 : s.heap.size + 9 ≤ e.platform.maxCells) (h8 : s.slotsUsed + 56 ≤ e.platform.maxSlots) {Q : Addr → Pre} (hq : ∀ d' acts', Q s.heap.size d' acts' (ky_mf s cA cB 8)) : wp (multianewarray.make cA [(8 : Int32), (6 : Int32)]) Q E e d acts s := by
  have hN : ([(6 : Int32)].find? (· < 0)) = none := by decide
  rw [multianewarray.make]
  simp only [wp_bind', W.ite, show ¬ ((8 : Int32) < 0) by decide, if_false, wp_pure', W.theClass, h1, h2, Option.some.injEq, exists_eq_left']
  refine ky_wn h1 h2 h5 (show ¬ 8 * 4 > _ by omega) rfl rfl (by omega) (show s.slotsUsed + 8 ≤ _ by omega) (fun acts' => ?_)
  simp only [hN]
  rw [ite_self, wp_bind', Std.Legacy.Range.forIn_eq_forIn_range']
  show wp (forIn (List.range' 0 8 1) PUnit.unit _) _ E e d acts' _
  refine wp_forIn_inv (fun r t => ∃ i : Nat, i ≤ 8 ∧ r = List.range' i (8 - i) ∧ t = ky_mf s cA cB i) _ _ ⟨0, Nat.zero_le _, rfl, rfl⟩ ?_ ?_
  · rintro x r t d' acts9 Q' ⟨i, hi, hl, rfl⟩ hnext
    have hlt : i < 8 := Nat.lt_of_le_of_ne hi (fun q => by subst q; cases hl)
    rw [show 8 - i = (8 - (i + 1)) + 1 by omega, List.range'_succ] at hl
    obtain ⟨rfl, hr⟩ := List.cons.inj hl
    obtain ⟨⟨a1, a2, a3, a4⟩, -, -⟩ := ky_mf_at s cA cB x
    simp only [wp_bind']
    refine ky_wi (by rw [a3]; exact h3) h4 (by omega) h6 (by rw [a1]; omega) (by rw [a4]; omega) (fun acts8 => ?_)
    simp only [wp_bind', W.writeLoc, wp_pure']
    refine ⟨ky_mo cA s.heap.size x, ?_, (by intro h; cases h), by rw [ky_mo_sz]; exact hlt, ?_, hnext _ _ _ ⟨x + 1, hlt, hr, ?_⟩⟩
    · show ((ky_mf s cA cB x).heap.push _)[_]? = _
      rw [Array.getElem?_push, if_neg (by omega)]
      exact a2
    · show (((ky_mf s cA cB x).pushCell (ky_mi cB)).fitsSlot cA .none x _) = true
      simp [State.fitsSlot, State.slotType?, a3, h1, h2, fits]
    · rw [a1, ky_mo_up]
      rfl
  · rintro t d' acts9 ⟨i, hi, hl, rfl⟩
    have h9 : i = 8 := by
      rcases Nat.lt_or_ge i 8 with h | h
      · rw [show 8 - i = (8 - (i + 1)) + 1 by omega, List.range'_succ] at hl
        cases hl
      · omega
    subst h9
    simp only [wp_pure']
    exact hq _ _
end KYMW
def ky_ov (U : State) : Prop := ∃ (cB cA : ClassId) (k : Class), U.vm.findClass "[J" = some cB ∧ U.vm.classes[cA]? = some k ∧ k.kind = .array cB (.array .long) ∧ U.vm.findClass "[[J" = some cA
theorem ky_E.ov {G : ky_G} {U : State} (hE : ky_E G U) (h : Cond.arrayOver (.array .long) ∈ lw_tbl) : ky_ov U := by
  obtain ⟨-, -, -, hW, b, hw, -⟩ := hE
  obtain ⟨cB, cA, k, h1, -, h3, h4, h5⟩ := arrayOverA_spec (hw _ h)
  obtain ⟨k9, h6, h7⟩ := hW.alike.2.2 _ _ h3
  exact ⟨cB, cA, k9, by rw [hW.alike.findClass]; exact h1, h6, by rw [h7]; exact h4, by rw [hW.alike.findClass]; exact h5⟩
theorem ky_E.ovI {G : ky_G} {U : State} (hE : ky_E G U) {C : String} (h : Cond.arrayOver (.object C) ∈ lw_tbl) : va_AO C U := by
  obtain ⟨-, -, -, hW, b, hw, -⟩ := hE
  exact (va_AO.of (hw _ h)).moved hW.alike
section KYMR
variable {p : Program} {l : Launch} {e : Env} {R : Room} {s : State} {m : MethodId} {args : Array Value} {below : List Frame} {meth : Method} {c : Code} {H : Heap} {locs : List Loc} {cells slots : Nat} {Q : State → Prop}
variable {cc : ByteArray} {pc : Nat} {ls : Array Slot} {rest : List Value} {A : Nat → Prop} {G : ky_G} {ws : va_W} {T : State}
theorem ky_mf_st (X : Stand p l e R s m args below meth c T locs cells slots) (cA cB : Nat) : ∀ i : Nat, Stand p l e R s m args below meth c (ky_mf T cA cB i) (locs ++ (List.range i).map (fun j => (⟨T.heap.size, j⟩ : Loc))) (cells + 1 + i) (slots + 8 + i * 6)
  | 0 => by
    have h := X.pushed (ky_mo cA T.heap.size 0)
    rw [ky_mo_sz] at h
    show Stand p l e R s m args below meth c (T.pushCell (ky_mo cA T.heap.size 0)) (locs ++ []) (cells + 1) (slots + 8)
    rw [List.append_nil]
    exact h
  | i + 1 => by
    obtain ⟨⟨a1, a2, -, -⟩, -, -⟩ := ky_mf_at T cA cB i
    have hc : ((ky_mf T cA cB i).pushCell (ky_mi cB)).heap[T.heap.size]? = some (ky_mo cA T.heap.size i) := by
      show ((ky_mf T cA cB i).heap.push _)[_]? = _
      rw [Array.getElem?_push, if_neg (by omega)]
      exact a2
    have h := ((ky_mf_st X cA cB i).pushed (ky_mi cB)).stored hc i (.ref (T.heap.size + 1 + i))
    rw [ky_mo_up, ky_mi_sz] at h
    rw [List.range_succ, List.map_append, ← List.append_assoc, show slots + 8 + (i + 1) * 6 = slots + 8 + i * 6 + 6 by omega]
    exact h
theorem ky_mst (X : Stand p l e R s m args below meth c T locs cells slots) (hexec : p.tables.exec = Jvm.exec) {own : String} {index : Nat} (hown : s.vm.findClass own = some m.cls) (hcl : (Cond.classLink own index "[[J").before args s = true) (hov : ky_ov s) (har : (Cond.arrayClass .long).before args s = true)
    {g : JFrame} (hg : g.method = m) (hdg : decode c.code g.pc = .ok (.multianewarray index 2, 4)) (hst : g.stack = .int (6 : Int32) :: .int (8 : Int32) :: rest) (hcells : cells + 9 ≤ R.cells) (hslots : slots + 56 ≤ R.slots) :
    ∃ (vm9 : Vm) (cA cB : ClassId), s.WarmedH vm9 ∧ s.vm.findClass "[[J" = some cA ∧ s.vm.findClass "[J" = some cB ∧
      Stand p l e R s m args below meth c (ky_mf (T.setVm vm9) cA cB 8) (locs ++ (List.range 8).map (fun j => (⟨T.heap.size, j⟩ : Loc))) (cells + 1 + 8) (slots + 8 + 8 * 6) ∧
      ∀ t, Steps p.tables e below ((ky_mf (T.setVm vm9) cA cB 8).setTop { g with pc := g.pc + 4, stack := .ref T.heap.size :: rest }) t → Steps p.tables e below (T.setTop g) t := by
  subst hg
  obtain ⟨cB, cA, kA, b1, b3, b4, b5⟩ := hov
  obtain ⟨cB2, kB, cc9, d1, d2, d3⟩ := Cond.arrayClass_spec har
  cases d1.symm.trans b1
  obtain ⟨c0, f1, f2⟩ := Cond.classLink_spec hown hcl e.platform (by rw [X.admits.platform])
  cases b5.symm.trans f1
  obtain ⟨g1, g2, g3⟩ := State.classEntry (e := e) X.warmed f2
  generalize T.vm.noted g.method.cls index (.cls cA) = vm9 at g1 g2 g3
  obtain ⟨kA9, i1, i2⟩ := g2.alike.2.2 _ _ b3
  obtain ⟨kB9, j1, j2⟩ := g2.alike.2.2 _ _ d2
  obtain ⟨r1, r2⟩ := X.roomAbove hcells hslots
  have X9 := X.noted g2
  refine ⟨vm9, cA, cB, g2, b5, b1, ky_mf_st X9 cA cB 8, fun t ht => ?_⟩
  have XF := ky_mf_st X9 cA cB 8
  have l1 := Launch.admits_arrayLengthLimit X.admits
  have l2 := Launch.admits_maxHeapBytes X.admits
  jvm_step X.here [hexec, hdg]
  simp only [multianewarray.sem, wp_bind', W.resolveClassAt_links (State.method?_setTop g X.here.top) g1]
  rw [W.popN, if_neg (by decide)]
  refine ⟨g, State.topJava?_setTop' (s := T.setVm vm9) g X.here.top, [.int 8, .int 6], rest, rfl, hst, ?_⟩
  simp only [List.mapM_cons, List.mapM_nil, wp_bind', wp_pure']
  refine ky_wm (k := kA9) (kc := kB9) i1 (by rw [i2]; exact b4) j1 (by rw [j2]; exact d3) (by rw [l1]; omega) (by rw [l2]; omega) (by show T.heap.size + 9 ≤ _; omega) (by show T.slotsUsed + 56 ≤ _; omega) (fun d' acts' => ?_)
  rw [show ((T.setTop g).setVm vm9).setTop { g with stack := rest } = (T.setVm vm9).setTop { g with stack := rest } from State.setTop_setTop (T.setVm vm9) g _, ky_mf_top]
  simp only [wp_bind', W.mark, W.pushRef, State.topJava?_setTop' _ XF.here.top, Option.some.injEq, exists_eq_left', State.setTop_setTop, State.heap_setTop]
  intro acts
  simp [jvm, XF.here.top]
  exact ht
abbrev ky_mL (G : ky_G) (q : Nat) (r : Nat → Nat) : va_W := [(q, .inl (G.2.1 4, 8, .inr (.inr (.inr (.inr (fun j => if j < 8 then some (r j) else none)))))), ((r 0), .inl (G.2.1 2, 6, .inr (.inl (fun _ => 0)))), ((r 1), .inl (G.2.1 2, 6, .inr (.inl (fun _ => 0)))), ((r 2), .inl (G.2.1 2, 6, .inr (.inl (fun _ => 0)))), ((r 3), .inl (G.2.1 2, 6, .inr (.inl (fun _ => 0)))), ((r 4), .inl (G.2.1 2, 6, .inr (.inl (fun _ => 0)))), ((r 5), .inl (G.2.1 2, 6, .inr (.inl (fun _ => 0)))), ((r 6), .inl (G.2.1 2, 6, .inr (.inl (fun _ => 0)))), ((r 7), .inl (G.2.1 2, 6, .inr (.inl (fun _ => 0))))]
theorem ky_mL_at {G : ky_G} {h : Nat} : ∀ (i : Nat) (x : Nat × va_E), (ky_mL G h (fun j => h + 1 + j))[i]? = some x → x.1 = h + i
  | 0, _, hx => by cases hx; rfl
  | 1, _, hx => by cases hx; show h + 1 + 0 = _; omega
  | 2, _, hx => by cases hx; show h + 1 + 1 = _; omega
  | 3, _, hx => by cases hx; show h + 1 + 2 = _; omega
  | 4, _, hx => by cases hx; show h + 1 + 3 = _; omega
  | 5, _, hx => by cases hx; show h + 1 + 4 = _; omega
  | 6, _, hx => by cases hx; show h + 1 + 5 = _; omega
  | 7, _, hx => by cases hx; show h + 1 + 6 = _; omega
  | 8, _, hx => by cases hx; show h + 1 + 7 = _; omega
  | n + 9, _, hx => by cases hx
theorem ky_mna (hexec : p.tables.exec = Jvm.exec) (hb : c.code = cc) {own : String} {index : Nat} (hown : s.vm.findClass own = some m.cls) (hcl : (Cond.classLink own index "[[J").before args s = true) (hov : ky_ov s) (har : (Cond.arrayClass .long).before args s = true)
    (hK : va_K G.1 kcl (ky_tys G.2.1) s) (hP : va_P G.1 kcl ws H) (hD : va_D A ws) {H0 : Heap} (hS : va_S A H0 H locs) (hA : ∀ q, H0.size ≤ q → A q) (hcells : cells + 9 ≤ R.cells) (hslots : slots + 56 ≤ R.slots) (hdg : decode cc pc = .ok (.multianewarray index 2, 4))
    (kk : ∀ (q : Nat) (r : Nat → Nat) (H1 : Heap) (locs1 : List Loc), va_P G.1 kcl (ws ++ ky_mL G q r) H1 → va_D A (ws ++ ky_mL G q r) → va_S A H0 H1 locs1 → W p l e R s m args below meth c H1 locs1 (cells + 9) (slots + 56) Q (F0 m (pc + 4) ls (.ref q :: rest))) : W p l e R s m args below meth c H locs cells slots Q (F0 m pc ls (.int (6 : Int32) :: .int (8 : Int32) :: rest)) := by
  subst hb
  intro T hT X
  subst hT
  obtain ⟨vm9, cA, cB, -, f1, f2, X9, st⟩ := ky_mst (g := F0 m pc ls (.int (6 : Int32) :: .int (8 : Int32) :: rest)) X hexec hown hcl hov har rfl hdg rfl hcells hslots
  have e1 : cA = G.2.1 4 := Option.some.inj (f1.symm.trans (hK.2 4 _ rfl).2)
  have e2 : cB = G.2.1 2 := Option.some.inj (f2.symm.trans (hK.2 2 _ rfl).2)
  obtain ⟨⟨a1, a2, -, -⟩, a5, a6⟩ := ky_mf_at (T.setVm vm9) cA cB 8
  have hlt : ∀ (k : Nat) (x : Nat × va_E), ws[k]? = some x → x.1 < T.heap.size := fun k x hx => (hP k x hx).lt
  generalize hF : ky_mf (T.setVm vm9) cA cB 8 = F9 at X9 st a1 a2 a5 a6
  have b1 : F9.heap.size = T.heap.size + 1 + 8 := a1
  have hP9 : va_P G.1 kcl (ws ++ ky_mL G T.heap.size (fun j => T.heap.size + 1 + j)) F9.heap := by
    refine (hP.kept (fun k x hx => a5 x.1 (hlt k x hx))).app (fun k x hx => ?_)
    have row : ∀ j : Nat, j < 8 → va_at G.1 kcl (T.heap.size + 1 + j, .inl (G.2.1 2, 6, .inr (.inl (fun _ => 0)))) F9.heap := fun j hj => by
      show F9.heap[T.heap.size + 1 + j]? = some (vp_cell _ _)
      rw [← e2]
      exact a6 j hj
    match k, hx with
    | 0, hx =>
      cases hx
      show F9.heap[T.heap.size]? = some (vp_cell _ _)
      rw [← e1]
      exact a2
    | 1, hx => cases hx; exact row 0 (by omega)
    | 2, hx => cases hx; exact row 1 (by omega)
    | 3, hx => cases hx; exact row 2 (by omega)
    | 4, hx => cases hx; exact row 3 (by omega)
    | 5, hx => cases hx; exact row 4 (by omega)
    | 6, hx => cases hx; exact row 5 (by omega)
    | 7, hx => cases hx; exact row 6 (by omega)
    | 8, hx => cases hx; exact row 7 (by omega)
    | n + 9, hx => cases hx
  have hD9 : va_D A (ws ++ ky_mL G T.heap.size (fun j => T.heap.size + 1 + j)) := by
    refine hD.app ⟨fun i j x y hi hj q => ?_, fun k x hx => hA _ ?_⟩ (fun i j x y hi hj q => ?_)
    · have h1 := ky_mL_at i x hi
      have h2 := ky_mL_at j y hj
      omega
    · have h1 := ky_mL_at k x hx
      have h2 := hS.1
      omega
    · have h1 := hlt i x hi
      have h2 := ky_mL_at j y hj
      omega
  have hS9 : va_S A H0 F9.heap (locs ++ (List.range 8).map (fun j => (⟨T.heap.size, j⟩ : Loc))) := by
    refine ⟨Nat.le_trans hS.1 (by omega), fun q h1 h2 => (a5 q (Nat.lt_of_lt_of_le h1 hS.1)).trans (hS.2.1 q h1 h2), fun x hx => ?_⟩
    rcases List.mem_append.mp hx with h | h
    · exact hS.2.2 x h
    · obtain ⟨j, -, rfl⟩ := List.mem_map.mp h
      exact hA _ hS.1
  obtain ⟨t, c1, d1⟩ := kk T.heap.size _ F9.heap _ hP9 hD9 hS9 F9 rfl X9
  exact ⟨t, st t c1, d1⟩
end KYMR
/-- a number that a constructor made is no other's -/
theorem ky_ok.ini {A N : Nat → Prop} {n x cs q : Nat} {e0 em ec eq : va_E} {ws : va_W} (hA : A = va_A [(x, e0)] n) (hN : ∀ q, N q → q < n) (hD : va_D A ws) (im ic iq : Nat) (hm : ws[im]? = some (x, em)) (hc : ws[ic]? = some (cs, ec)) (hq : ws[iq]? = some (q, eq)) (h1 : iq ≠ im) (h2 : iq ≠ ic) : ky_ok x cs N q := by
  have n1 : q ≠ x := fun z => h1 (hD.1 iq im _ _ hq hm z)
  have n2 : q ≠ cs := fun z => h2 (hD.1 iq ic _ _ hq hc z)
  refine ⟨n1, n2, fun z => ?_⟩
  have hz := hD.2 iq _ hq
  rw [hA] at hz
  rcases hz with ⟨k, e, hk⟩ | hk
  · match k, hk with
    | 0, hk => simp at hk; exact n1 hk.1.symm
    | k + 1, hk => simp at hk
  · exact absurd (hN q z) (Nat.not_lt.mpr hk)
end
section
abbrev my_X1_init : MethodName := ⟨"Exactdoubles$Proof", "<init>", "()V"⟩
abbrev my_X6_init : MethodName := ⟨"Exactdoubles", "<init>", "()V"⟩
abbrev my_X7_init : MethodName := ⟨"ExactdoublesLaw$Out", "<init>", "()V"⟩
abbrev my_X9_init : MethodName := ⟨"ExactdoublesModel", "<init>", "()V"⟩
theorem kw_1_42 : (Jvm.Cond.code ({ cls := "Exactdoubles$Scribe", name := "<init>", desc := "()V" } : Jvm.MethodName) prog_5_method_1_code (1 : Nat) (Option.none : Option Jvm.ClassFile.FieldType)) ∈ ky_B := ky_mem (kc_1 _ (List.mem_of_getElem? (i := 42) rfl)) (by decide +kernel)
theorem kB_1_91 : (tables_1_1[(91 : Nat)]? = some (Jvm.Cond.methodLink "Exactdoubles$Proof" (3 : Nat) ({ cls := "java/lang/Object", name := "<init>", desc := "()V" } : Jvm.MethodName)) ∧ goodWord (Jvm.Cond.methodLink "Exactdoubles$Proof" (3 : Nat) ({ cls := "java/lang/Object", name := "<init>", desc := "()V" } : Jvm.MethodName)) = true) ∧ (tables_1_1[(76 : Nat)]? = some (Jvm.Cond.arrayClass Jvm.ClassFile.FieldType.long) ∧ goodWord (Jvm.Cond.arrayClass Jvm.ClassFile.FieldType.long) = true) ∧ (tables_1_1[(92 : Nat)]? = some (Jvm.Cond.classLink "Exactdoubles$Proof" (11 : Nat) "[[J") ∧ goodWord (Jvm.Cond.classLink "Exactdoubles$Proof" (11 : Nat) "[[J") = true) ∧ (tables_1_1[(35 : Nat)]? = some (Jvm.Cond.methodLink "Exactdoubles" (1 : Nat) ({ cls := "java/lang/Object", name := "<init>", desc := "()V" } : Jvm.MethodName)) ∧ goodWord (Jvm.Cond.methodLink "Exactdoubles" (1 : Nat) ({ cls := "java/lang/Object", name := "<init>", desc := "()V" } : Jvm.MethodName)) = true) ∧ (tables_1_1[(39 : Nat)]? = some (Jvm.Cond.instantiable "Exactdoubles$Scribe" (2 : Nat)) ∧ goodWord (Jvm.Cond.instantiable "Exactdoubles$Scribe" (2 : Nat)) = true) ∧ (tables_1_1[(38 : Nat)]? = some (Jvm.Cond.classLink "Exactdoubles" (13 : Nat) "Exactdoubles$Scribe") ∧ goodWord (Jvm.Cond.classLink "Exactdoubles" (13 : Nat) "Exactdoubles$Scribe") = true) ∧ (tables_1_1[(40 : Nat)]? = some (Jvm.Cond.methodLink "Exactdoubles" (15 : Nat) ({ cls := "Exactdoubles$Scribe", name := "<init>", desc := "()V" } : Jvm.MethodName)) ∧ goodWord (Jvm.Cond.methodLink "Exactdoubles" (15 : Nat) ({ cls := "Exactdoubles$Scribe", name := "<init>", desc := "()V" } : Jvm.MethodName)) = true) ∧ (tables_1_1[(41 : Nat)]? = some (Jvm.Cond.instanceMethod ({ cls := "Exactdoubles$Scribe", name := "<init>", desc := "()V" } : Jvm.MethodName)) ∧ goodWord (Jvm.Cond.instanceMethod ({ cls := "Exactdoubles$Scribe", name := "<init>", desc := "()V" } : Jvm.MethodName)) = true) ∧ (tables_1_1[(87 : Nat)]? = some (Jvm.Cond.instantiable "Exactdoubles$Proof" (1 : Nat)) ∧ goodWord (Jvm.Cond.instantiable "Exactdoubles$Proof" (1 : Nat)) = true) ∧ (tables_1_1[(86 : Nat)]? = some (Jvm.Cond.classLink "Exactdoubles" (20 : Nat) "Exactdoubles$Proof") ∧ goodWord (Jvm.Cond.classLink "Exactdoubles" (20 : Nat) "Exactdoubles$Proof") = true) := by decide +kernel
theorem kw_1_91 : (Jvm.Cond.methodLink "Exactdoubles$Proof" (3 : Nat) ({ cls := "java/lang/Object", name := "<init>", desc := "()V" } : Jvm.MethodName)) ∈ ky_B := ky_mem (kc_1 _ (List.mem_of_getElem? kB_1_91.1.1)) kB_1_91.1.2
theorem kw_1_76 : (Jvm.Cond.arrayClass Jvm.ClassFile.FieldType.long) ∈ ky_B := ky_mem (kc_1 _ (List.mem_of_getElem? kB_1_91.2.1.1)) kB_1_91.2.1.2
theorem kw_1_92 : (Jvm.Cond.classLink "Exactdoubles$Proof" (11 : Nat) "[[J") ∈ ky_B := ky_mem (kc_1 _ (List.mem_of_getElem? kB_1_91.2.2.1.1)) kB_1_91.2.2.1.2
theorem kw_1_35 : (Jvm.Cond.methodLink "Exactdoubles" (1 : Nat) ({ cls := "java/lang/Object", name := "<init>", desc := "()V" } : Jvm.MethodName)) ∈ ky_B := ky_mem (kc_1 _ (List.mem_of_getElem? kB_1_91.2.2.2.1.1)) kB_1_91.2.2.2.1.2
theorem kw_1_39 : (Jvm.Cond.instantiable "Exactdoubles$Scribe" (2 : Nat)) ∈ ky_B := ky_mem (kc_1 _ (List.mem_of_getElem? kB_1_91.2.2.2.2.1.1)) kB_1_91.2.2.2.2.1.2
theorem kw_1_38 : (Jvm.Cond.classLink "Exactdoubles" (13 : Nat) "Exactdoubles$Scribe") ∈ ky_B := ky_mem (kc_1 _ (List.mem_of_getElem? kB_1_91.2.2.2.2.2.1.1)) kB_1_91.2.2.2.2.2.1.2
theorem kw_1_40 : (Jvm.Cond.methodLink "Exactdoubles" (15 : Nat) ({ cls := "Exactdoubles$Scribe", name := "<init>", desc := "()V" } : Jvm.MethodName)) ∈ ky_B := ky_mem (kc_1 _ (List.mem_of_getElem? kB_1_91.2.2.2.2.2.2.1.1)) kB_1_91.2.2.2.2.2.2.1.2
theorem kw_1_41 : (Jvm.Cond.instanceMethod ({ cls := "Exactdoubles$Scribe", name := "<init>", desc := "()V" } : Jvm.MethodName)) ∈ ky_B := ky_mem (kc_1 _ (List.mem_of_getElem? kB_1_91.2.2.2.2.2.2.2.1.1)) kB_1_91.2.2.2.2.2.2.2.1.2
theorem kw_1_87 : (Jvm.Cond.instantiable "Exactdoubles$Proof" (1 : Nat)) ∈ ky_B := ky_mem (kc_1 _ (List.mem_of_getElem? kB_1_91.2.2.2.2.2.2.2.2.1.1)) kB_1_91.2.2.2.2.2.2.2.2.1.2
theorem kw_1_86 : (Jvm.Cond.classLink "Exactdoubles" (20 : Nat) "Exactdoubles$Proof") ∈ ky_B := ky_mem (kc_1 _ (List.mem_of_getElem? kB_1_91.2.2.2.2.2.2.2.2.2.1)) kB_1_91.2.2.2.2.2.2.2.2.2.2
theorem kw_1_90 : (Jvm.Cond.code ({ cls := "Exactdoubles$Proof", name := "<init>", desc := "()V" } : Jvm.MethodName) prog_3_method_1_code (1 : Nat) (Option.none : Option Jvm.ClassFile.FieldType)) ∈ ky_B := ky_mem (kc_1 _ (List.mem_of_getElem? (i := 90) rfl)) (by decide +kernel)
theorem kB_1_88 : (tables_1_1[(88 : Nat)]? = some (Jvm.Cond.methodLink "Exactdoubles" (22 : Nat) ({ cls := "Exactdoubles$Proof", name := "<init>", desc := "()V" } : Jvm.MethodName)) ∧ goodWord (Jvm.Cond.methodLink "Exactdoubles" (22 : Nat) ({ cls := "Exactdoubles$Proof", name := "<init>", desc := "()V" } : Jvm.MethodName)) = true) ∧ (tables_1_1[(89 : Nat)]? = some (Jvm.Cond.instanceMethod ({ cls := "Exactdoubles$Proof", name := "<init>", desc := "()V" } : Jvm.MethodName)) ∧ goodWord (Jvm.Cond.instanceMethod ({ cls := "Exactdoubles$Proof", name := "<init>", desc := "()V" } : Jvm.MethodName)) = true) ∧ (tables_1_4[(71 : Nat)]? = some (Jvm.Cond.methodLink "ExactdoublesLaw$Out" (1 : Nat) ({ cls := "java/lang/Object", name := "<init>", desc := "()V" } : Jvm.MethodName)) ∧ goodWord (Jvm.Cond.methodLink "ExactdoublesLaw$Out" (1 : Nat) ({ cls := "java/lang/Object", name := "<init>", desc := "()V" } : Jvm.MethodName)) = true) ∧ (tables_1_6[(2 : Nat)]? = some (Jvm.Cond.methodLink "ExactdoublesModel" (17 : Nat) ({ cls := "java/lang/Object", name := "<init>", desc := "()V" } : Jvm.MethodName)) ∧ goodWord (Jvm.Cond.methodLink "ExactdoublesModel" (17 : Nat) ({ cls := "java/lang/Object", name := "<init>", desc := "()V" } : Jvm.MethodName)) = true) := by decide +kernel
theorem kw_1_88 : (Jvm.Cond.methodLink "Exactdoubles" (22 : Nat) ({ cls := "Exactdoubles$Proof", name := "<init>", desc := "()V" } : Jvm.MethodName)) ∈ ky_B := ky_mem (kc_1 _ (List.mem_of_getElem? kB_1_88.1.1)) kB_1_88.1.2
theorem kw_1_89 : (Jvm.Cond.instanceMethod ({ cls := "Exactdoubles$Proof", name := "<init>", desc := "()V" } : Jvm.MethodName)) ∈ ky_B := ky_mem (kc_1 _ (List.mem_of_getElem? kB_1_88.2.1.1)) kB_1_88.2.1.2
theorem kw_4_71 : (Jvm.Cond.methodLink "ExactdoublesLaw$Out" (1 : Nat) ({ cls := "java/lang/Object", name := "<init>", desc := "()V" } : Jvm.MethodName)) ∈ ky_B := ky_mem (kc_4 _ (List.mem_of_getElem? kB_1_88.2.2.1.1)) kB_1_88.2.2.1.2
theorem kw_6_2 : (Jvm.Cond.methodLink "ExactdoublesModel" (17 : Nat) ({ cls := "java/lang/Object", name := "<init>", desc := "()V" } : Jvm.MethodName)) ∈ ky_B := ky_mem (kc_6 _ (List.mem_of_getElem? kB_1_88.2.2.2.1)) kB_1_88.2.2.2.2
theorem kI_X6_15 : ky_wI "Exactdoubles" 15 my_X3_init prog_5_method_1_code 1 0 := ⟨kw_1_40, kw_1_41, kw_1_2, kw_1_42, rfl, by decide +kernel, by decide +kernel, pd_51⟩
theorem kI_X6_22 : ky_wI "Exactdoubles" 22 my_X1_init prog_3_method_1_code 1 0 := ⟨kw_1_88, kw_1_89, kw_1_7, kw_1_90, rfl, by decide +kernel, by decide +kernel, pd_51⟩
theorem dc_X1_init_9 : decode prog_3_method_1_code 9 = .ok (.multianewarray 11 2, 4) := by decide +kernel
def dw_C_prog_3_method_1_code_0 : List UInt8 := [42, 183, 0, 3, 42, 16, 8, 16, 6, 197, 0, 11, 2, 181, 0, 13, 177]
theorem dw_h_prog_3_method_1_code_0 : (prog_3_method_1_code.data.toList.drop 0).take 72 = dw_C_prog_3_method_1_code_0 := by decide +kernel
theorem dw_b_X1_init_0 : dw_chk dw_C_prog_3_method_1_code_0 0 0 (.aload_n 0) 1 = true ∧ dw_chk dw_C_prog_3_method_1_code_0 1 1 (.invokespecial 3) 3 = true ∧ dw_chk dw_C_prog_3_method_1_code_0 4 4 (.aload_n 0) 1 = true ∧ dw_chk dw_C_prog_3_method_1_code_0 5 5 (.bipush 8) 2 = true ∧ dw_chk dw_C_prog_3_method_1_code_0 7 7 (.bipush 6) 2 = true ∧ dw_chk dw_C_prog_3_method_1_code_0 13 13 (.putfield 13) 3 = true ∧ dw_chk dw_C_prog_3_method_1_code_0 16 16 (.return_) 1 = true := by decide +kernel
theorem dc_X1_init_0 : decode prog_3_method_1_code 0 = .ok (.aload_n 0, 1) := dw_row (j := 0) dw_h_prog_3_method_1_code_0 rfl dw_b_X1_init_0.1
theorem dc_X1_init_1 : decode prog_3_method_1_code 1 = .ok (.invokespecial 3, 3) := dw_row (j := 1) dw_h_prog_3_method_1_code_0 rfl dw_b_X1_init_0.2.1
theorem dc_X1_init_4 : decode prog_3_method_1_code 4 = .ok (.aload_n 0, 1) := dw_row (j := 4) dw_h_prog_3_method_1_code_0 rfl dw_b_X1_init_0.2.2.1
theorem dc_X1_init_5 : decode prog_3_method_1_code 5 = .ok (.bipush 8, 2) := dw_row (j := 5) dw_h_prog_3_method_1_code_0 rfl dw_b_X1_init_0.2.2.2.1
theorem dc_X1_init_7 : decode prog_3_method_1_code 7 = .ok (.bipush 6, 2) := dw_row (j := 7) dw_h_prog_3_method_1_code_0 rfl dw_b_X1_init_0.2.2.2.2.1
theorem dc_X1_init_13 : decode prog_3_method_1_code 13 = .ok (.putfield 13, 3) := dw_row (j := 13) dw_h_prog_3_method_1_code_0 rfl dw_b_X1_init_0.2.2.2.2.2.1
theorem dc_X1_init_16 : decode prog_3_method_1_code 16 = .ok (.return_, 1) := dw_row (j := 16) dw_h_prog_3_method_1_code_0 rfl dw_b_X1_init_0.2.2.2.2.2.2
theorem dc_X6_init_7 : decode prog_1_method_1_code 7 = .ok (.newarray .long, 2) := by decide +kernel
def dw_C_prog_1_method_1_code_0 : List UInt8 := [42, 183, 0, 1, 42, 16, 6, 188, 11, 181, 0, 9, 42, 187, 0, 13, 89, 183, 0, 15, 181, 0, 16, 42, 187, 0, 20, 89, 183, 0, 22, 181, 0, 23, 177]
theorem dw_h_prog_1_method_1_code_0 : (prog_1_method_1_code.data.toList.drop 0).take 72 = dw_C_prog_1_method_1_code_0 := by decide +kernel
theorem dw_b_X6_init_0 : dw_chk dw_C_prog_1_method_1_code_0 0 0 (.aload_n 0) 1 = true ∧ dw_chk dw_C_prog_1_method_1_code_0 1 1 (.invokespecial 1) 3 = true ∧ dw_chk dw_C_prog_1_method_1_code_0 4 4 (.aload_n 0) 1 = true ∧ dw_chk dw_C_prog_1_method_1_code_0 5 5 (.bipush 6) 2 = true ∧ dw_chk dw_C_prog_1_method_1_code_0 9 9 (.putfield 9) 3 = true ∧ dw_chk dw_C_prog_1_method_1_code_0 12 12 (.aload_n 0) 1 = true ∧ dw_chk dw_C_prog_1_method_1_code_0 13 13 (.new 13) 3 = true ∧ dw_chk dw_C_prog_1_method_1_code_0 16 16 (.dup) 1 = true ∧ dw_chk dw_C_prog_1_method_1_code_0 17 17 (.invokespecial 15) 3 = true ∧ dw_chk dw_C_prog_1_method_1_code_0 20 20 (.putfield 16) 3 = true ∧ dw_chk dw_C_prog_1_method_1_code_0 23 23 (.aload_n 0) 1 = true ∧ dw_chk dw_C_prog_1_method_1_code_0 24 24 (.new 20) 3 = true ∧ dw_chk dw_C_prog_1_method_1_code_0 27 27 (.dup) 1 = true ∧ dw_chk dw_C_prog_1_method_1_code_0 28 28 (.invokespecial 22) 3 = true ∧ dw_chk dw_C_prog_1_method_1_code_0 31 31 (.putfield 23) 3 = true ∧ dw_chk dw_C_prog_1_method_1_code_0 34 34 (.return_) 1 = true := by decide +kernel
theorem dc_X6_init_0 : decode prog_1_method_1_code 0 = .ok (.aload_n 0, 1) := dw_row (j := 0) dw_h_prog_1_method_1_code_0 rfl dw_b_X6_init_0.1
theorem dc_X6_init_1 : decode prog_1_method_1_code 1 = .ok (.invokespecial 1, 3) := dw_row (j := 1) dw_h_prog_1_method_1_code_0 rfl dw_b_X6_init_0.2.1
theorem dc_X6_init_4 : decode prog_1_method_1_code 4 = .ok (.aload_n 0, 1) := dw_row (j := 4) dw_h_prog_1_method_1_code_0 rfl dw_b_X6_init_0.2.2.1
theorem dc_X6_init_5 : decode prog_1_method_1_code 5 = .ok (.bipush 6, 2) := dw_row (j := 5) dw_h_prog_1_method_1_code_0 rfl dw_b_X6_init_0.2.2.2.1
theorem dc_X6_init_9 : decode prog_1_method_1_code 9 = .ok (.putfield 9, 3) := dw_row (j := 9) dw_h_prog_1_method_1_code_0 rfl dw_b_X6_init_0.2.2.2.2.1
theorem dc_X6_init_12 : decode prog_1_method_1_code 12 = .ok (.aload_n 0, 1) := dw_row (j := 12) dw_h_prog_1_method_1_code_0 rfl dw_b_X6_init_0.2.2.2.2.2.1
theorem dc_X6_init_13 : decode prog_1_method_1_code 13 = .ok (.new 13, 3) := dw_row (j := 13) dw_h_prog_1_method_1_code_0 rfl dw_b_X6_init_0.2.2.2.2.2.2.1
theorem dc_X6_init_16 : decode prog_1_method_1_code 16 = .ok (.dup, 1) := dw_row (j := 16) dw_h_prog_1_method_1_code_0 rfl dw_b_X6_init_0.2.2.2.2.2.2.2.1
theorem dc_X6_init_17 : decode prog_1_method_1_code 17 = .ok (.invokespecial 15, 3) := dw_row (j := 17) dw_h_prog_1_method_1_code_0 rfl dw_b_X6_init_0.2.2.2.2.2.2.2.2.1
theorem dc_X6_init_20 : decode prog_1_method_1_code 20 = .ok (.putfield 16, 3) := dw_row (j := 20) dw_h_prog_1_method_1_code_0 rfl dw_b_X6_init_0.2.2.2.2.2.2.2.2.2.1
theorem dc_X6_init_23 : decode prog_1_method_1_code 23 = .ok (.aload_n 0, 1) := dw_row (j := 23) dw_h_prog_1_method_1_code_0 rfl dw_b_X6_init_0.2.2.2.2.2.2.2.2.2.2.1
theorem dc_X6_init_24 : decode prog_1_method_1_code 24 = .ok (.new 20, 3) := dw_row (j := 24) dw_h_prog_1_method_1_code_0 rfl dw_b_X6_init_0.2.2.2.2.2.2.2.2.2.2.2.1
theorem dc_X6_init_27 : decode prog_1_method_1_code 27 = .ok (.dup, 1) := dw_row (j := 27) dw_h_prog_1_method_1_code_0 rfl dw_b_X6_init_0.2.2.2.2.2.2.2.2.2.2.2.2.1
theorem dc_X6_init_28 : decode prog_1_method_1_code 28 = .ok (.invokespecial 22, 3) := dw_row (j := 28) dw_h_prog_1_method_1_code_0 rfl dw_b_X6_init_0.2.2.2.2.2.2.2.2.2.2.2.2.2.1
theorem dc_X6_init_31 : decode prog_1_method_1_code 31 = .ok (.putfield 23, 3) := dw_row (j := 31) dw_h_prog_1_method_1_code_0 rfl dw_b_X6_init_0.2.2.2.2.2.2.2.2.2.2.2.2.2.2.1
theorem dc_X6_init_34 : decode prog_1_method_1_code 34 = .ok (.return_, 1) := dw_row (j := 34) dw_h_prog_1_method_1_code_0 rfl dw_b_X6_init_0.2.2.2.2.2.2.2.2.2.2.2.2.2.2.2
def dw_C_prog_9_method_1_code_0 : List UInt8 := [42, 183, 0, 1, 177]
theorem dw_h_prog_9_method_1_code_0 : (prog_9_method_1_code.data.toList.drop 0).take 72 = dw_C_prog_9_method_1_code_0 := by decide +kernel
theorem dw_b_X7_init_0 : dw_chk dw_C_prog_9_method_1_code_0 0 0 (.aload_n 0) 1 = true ∧ dw_chk dw_C_prog_9_method_1_code_0 1 1 (.invokespecial 1) 3 = true ∧ dw_chk dw_C_prog_9_method_1_code_0 4 4 (.return_) 1 = true := by decide +kernel
theorem dc_X7_init_0 : decode prog_9_method_1_code 0 = .ok (.aload_n 0, 1) := dw_row (j := 0) dw_h_prog_9_method_1_code_0 rfl dw_b_X7_init_0.1
theorem dc_X7_init_1 : decode prog_9_method_1_code 1 = .ok (.invokespecial 1, 3) := dw_row (j := 1) dw_h_prog_9_method_1_code_0 rfl dw_b_X7_init_0.2.1
theorem dc_X7_init_4 : decode prog_9_method_1_code 4 = .ok (.return_, 1) := dw_row (j := 4) dw_h_prog_9_method_1_code_0 rfl dw_b_X7_init_0.2.2
def dw_C_prog_10_method_6_code_0 : List UInt8 := [42, 183, 0, 17, 42, 16, 6, 189, 0, 23, 181, 0, 25, 3, 60, 27, 16, 6, 162, 0, 24, 42, 180, 0, 25, 27, 187, 0, 23, 89, 3, 9, 183, 0, 29, 83, 132, 1, 1, 167, 255, 232, 177]
theorem dw_h_prog_10_method_6_code_0 : (prog_10_method_6_code.data.toList.drop 0).take 72 = dw_C_prog_10_method_6_code_0 := by decide +kernel
theorem dw_b_X9_init_0 : dw_chk dw_C_prog_10_method_6_code_0 0 0 (.aload_n 0) 1 = true ∧ dw_chk dw_C_prog_10_method_6_code_0 1 1 (.invokespecial 17) 3 = true ∧ dw_chk dw_C_prog_10_method_6_code_0 4 4 (.aload_n 0) 1 = true ∧ dw_chk dw_C_prog_10_method_6_code_0 5 5 (.bipush 6) 2 = true ∧ dw_chk dw_C_prog_10_method_6_code_0 7 7 (.anewarray 23) 3 = true ∧ dw_chk dw_C_prog_10_method_6_code_0 10 10 (.putfield 25) 3 = true ∧ dw_chk dw_C_prog_10_method_6_code_0 13 13 (.iconst 0) 1 = true ∧ dw_chk dw_C_prog_10_method_6_code_0 14 14 (.istore_n 1) 1 = true ∧ dw_chk dw_C_prog_10_method_6_code_0 15 15 (.iload_n 1) 1 = true ∧ dw_chk dw_C_prog_10_method_6_code_0 16 16 (.bipush 6) 2 = true ∧ dw_chk dw_C_prog_10_method_6_code_0 18 18 (.if_icmp .ge 24) 3 = true ∧ dw_chk dw_C_prog_10_method_6_code_0 21 21 (.aload_n 0) 1 = true ∧ dw_chk dw_C_prog_10_method_6_code_0 22 22 (.getfield 25) 3 = true ∧ dw_chk dw_C_prog_10_method_6_code_0 25 25 (.iload_n 1) 1 = true ∧ dw_chk dw_C_prog_10_method_6_code_0 26 26 (.new 23) 3 = true ∧ dw_chk dw_C_prog_10_method_6_code_0 29 29 (.dup) 1 = true ∧ dw_chk dw_C_prog_10_method_6_code_0 30 30 (.iconst 0) 1 = true ∧ dw_chk dw_C_prog_10_method_6_code_0 31 31 (.lconst 0) 1 = true ∧ dw_chk dw_C_prog_10_method_6_code_0 32 32 (.invokespecial 29) 3 = true ∧ dw_chk dw_C_prog_10_method_6_code_0 35 35 (.aastore) 1 = true ∧ dw_chk dw_C_prog_10_method_6_code_0 36 36 (.iinc 1 1) 3 = true ∧ dw_chk dw_C_prog_10_method_6_code_0 39 39 (.goto (-24)) 3 = true ∧ dw_chk dw_C_prog_10_method_6_code_0 42 42 (.return_) 1 = true := by decide +kernel
theorem dc_X9_init_0 : decode prog_10_method_6_code 0 = .ok (.aload_n 0, 1) := dw_row (j := 0) dw_h_prog_10_method_6_code_0 rfl dw_b_X9_init_0.1
theorem dc_X9_init_1 : decode prog_10_method_6_code 1 = .ok (.invokespecial 17, 3) := dw_row (j := 1) dw_h_prog_10_method_6_code_0 rfl dw_b_X9_init_0.2.1
theorem dc_X9_init_4 : decode prog_10_method_6_code 4 = .ok (.aload_n 0, 1) := dw_row (j := 4) dw_h_prog_10_method_6_code_0 rfl dw_b_X9_init_0.2.2.1
theorem dc_X9_init_5 : decode prog_10_method_6_code 5 = .ok (.bipush 6, 2) := dw_row (j := 5) dw_h_prog_10_method_6_code_0 rfl dw_b_X9_init_0.2.2.2.1
theorem dc_X9_init_7 : decode prog_10_method_6_code 7 = .ok (.anewarray 23, 3) := dw_row (j := 7) dw_h_prog_10_method_6_code_0 rfl dw_b_X9_init_0.2.2.2.2.1
theorem dc_X9_init_10 : decode prog_10_method_6_code 10 = .ok (.putfield 25, 3) := dw_row (j := 10) dw_h_prog_10_method_6_code_0 rfl dw_b_X9_init_0.2.2.2.2.2.1
theorem dc_X9_init_13 : decode prog_10_method_6_code 13 = .ok (.iconst 0, 1) := dw_row (j := 13) dw_h_prog_10_method_6_code_0 rfl dw_b_X9_init_0.2.2.2.2.2.2.1
theorem dc_X9_init_14 : decode prog_10_method_6_code 14 = .ok (.istore_n 1, 1) := dw_row (j := 14) dw_h_prog_10_method_6_code_0 rfl dw_b_X9_init_0.2.2.2.2.2.2.2.1
theorem dc_X9_init_15 : decode prog_10_method_6_code 15 = .ok (.iload_n 1, 1) := dw_row (j := 15) dw_h_prog_10_method_6_code_0 rfl dw_b_X9_init_0.2.2.2.2.2.2.2.2.1
theorem dc_X9_init_16 : decode prog_10_method_6_code 16 = .ok (.bipush 6, 2) := dw_row (j := 16) dw_h_prog_10_method_6_code_0 rfl dw_b_X9_init_0.2.2.2.2.2.2.2.2.2.1
theorem dc_X9_init_18 : decode prog_10_method_6_code 18 = .ok (.if_icmp .ge 24, 3) := dw_row (j := 18) dw_h_prog_10_method_6_code_0 rfl dw_b_X9_init_0.2.2.2.2.2.2.2.2.2.2.1
theorem dc_X9_init_21 : decode prog_10_method_6_code 21 = .ok (.aload_n 0, 1) := dw_row (j := 21) dw_h_prog_10_method_6_code_0 rfl dw_b_X9_init_0.2.2.2.2.2.2.2.2.2.2.2.1
theorem dc_X9_init_22 : decode prog_10_method_6_code 22 = .ok (.getfield 25, 3) := dw_row (j := 22) dw_h_prog_10_method_6_code_0 rfl dw_b_X9_init_0.2.2.2.2.2.2.2.2.2.2.2.2.1
theorem dc_X9_init_25 : decode prog_10_method_6_code 25 = .ok (.iload_n 1, 1) := dw_row (j := 25) dw_h_prog_10_method_6_code_0 rfl dw_b_X9_init_0.2.2.2.2.2.2.2.2.2.2.2.2.2.1
theorem dc_X9_init_26 : decode prog_10_method_6_code 26 = .ok (.new 23, 3) := dw_row (j := 26) dw_h_prog_10_method_6_code_0 rfl dw_b_X9_init_0.2.2.2.2.2.2.2.2.2.2.2.2.2.2.1
theorem dc_X9_init_29 : decode prog_10_method_6_code 29 = .ok (.dup, 1) := dw_row (j := 29) dw_h_prog_10_method_6_code_0 rfl dw_b_X9_init_0.2.2.2.2.2.2.2.2.2.2.2.2.2.2.2.1
theorem dc_X9_init_30 : decode prog_10_method_6_code 30 = .ok (.iconst 0, 1) := dw_row (j := 30) dw_h_prog_10_method_6_code_0 rfl dw_b_X9_init_0.2.2.2.2.2.2.2.2.2.2.2.2.2.2.2.2.1
theorem dc_X9_init_31 : decode prog_10_method_6_code 31 = .ok (.lconst 0, 1) := dw_row (j := 31) dw_h_prog_10_method_6_code_0 rfl dw_b_X9_init_0.2.2.2.2.2.2.2.2.2.2.2.2.2.2.2.2.2.1
theorem dc_X9_init_32 : decode prog_10_method_6_code 32 = .ok (.invokespecial 29, 3) := dw_row (j := 32) dw_h_prog_10_method_6_code_0 rfl dw_b_X9_init_0.2.2.2.2.2.2.2.2.2.2.2.2.2.2.2.2.2.2.1
theorem dc_X9_init_35 : decode prog_10_method_6_code 35 = .ok (.aastore, 1) := dw_row (j := 35) dw_h_prog_10_method_6_code_0 rfl dw_b_X9_init_0.2.2.2.2.2.2.2.2.2.2.2.2.2.2.2.2.2.2.2.1
theorem dc_X9_init_36 : decode prog_10_method_6_code 36 = .ok (.iinc 1 1, 3) := dw_row (j := 36) dw_h_prog_10_method_6_code_0 rfl dw_b_X9_init_0.2.2.2.2.2.2.2.2.2.2.2.2.2.2.2.2.2.2.2.2.1
theorem dc_X9_init_39 : decode prog_10_method_6_code 39 = .ok (.goto (-24), 3) := dw_row (j := 39) dw_h_prog_10_method_6_code_0 rfl dw_b_X9_init_0.2.2.2.2.2.2.2.2.2.2.2.2.2.2.2.2.2.2.2.2.2.1
theorem dc_X9_init_42 : decode prog_10_method_6_code 42 = .ok (.return_, 1) := dw_row (j := 42) dw_h_prog_10_method_6_code_0 rfl dw_b_X9_init_0.2.2.2.2.2.2.2.2.2.2.2.2.2.2.2.2.2.2.2.2.2.2
end
section
set_option linter.constructorNameAsVariable false in
set_option maxHeartbeats 4000000 in
set_option maxRecDepth 100000 in
theorem mt_X1_init (l : Launch) (G : ky_G) (x : Nat) (sz : Nat)  : Met l my_X1_init (.code my_X1_init prog_3_method_1_code 1 none :: ky_B) { frames := 1, cells := 9, slots := 56, locals := 12 } (ky_P G [.ref x] ([(x, .inr (2, [.null]))]) sz (fun _ => True)) (ky_Q (S := Nat × (Nat → Nat)) G (va_A ([(x, .inr (2, [.null]))]) sz) (fun v _ => v = none) (fun u => ky_WPf G x u.1 u.2 (fun _ _ => 0)) (fun _ _ => True)) (9) (56) (va_A ([(x, .inr (2, [.null]))]) sz) := by
  refine ky_startI (by decide) (Nat.le_of_ble_eq_true rfl) (fun p e s m below meth c hin F hE A hAe hsz hA hfr hP hD hS hX ls hl => ?_)
  obtain ⟨hx, hb, hml, hown, hr, hlocks, hts⟩ := id F
  have hl : lv_has ls 1 [(0, .ref x)] := hl
  have hP : va_P G.1 kcl [(x, .inr (2, [.null]))] s.heap := hP
  have hD : va_D A [(x, .inr (2, [.null]))] := hD
  refine lv_aload_n hx hb dc_X1_init_0 rfl (lv_at hl 0 rfl) ?_
  refine W.objInit hx hb hown (hts _ kw_1_91) (hts _ kw_1_36) (hts _ kw_1_37) rfl (by rw [hml]; exact hl.1) rfl dc_X1_init_1 (Nat.le_of_ble_eq_true rfl) (Nat.le_of_ble_eq_true rfl) ?_
  refine W.eq (g2 := F0 m 4 ls []) rfl ?_
  refine lv_aload_n hx hb dc_X1_init_4 rfl (lv_at hl 0 rfl) ?_
  refine lv_bipush (v := 8) hx hb dc_X1_init_5 (by decide) ?_
  refine lv_bipush (v := 6) hx hb dc_X1_init_7 (by decide) ?_
  refine ky_mna hx hb hown (hts _ kw_1_92) (hE.ov (kc_1 _ (List.mem_of_getElem? (i := 93) rfl))) (hts _ kw_1_76) hE.1 hP hD hS hA (Nat.le_of_ble_eq_true rfl) (Nat.le_of_ble_eq_true rfl) dc_X1_init_9 (fun q_0 r_0 H locs hP hD hS => ?_)
  have hP : va_P G.1 kcl [(x, .inr (2, [.null])), (q_0, .inl (G.2.1 4, 8, .inr (.inr (.inr (.inr (fun j => if j < 8 then some (r_0 j) else none)))))), ((r_0 0), .inl (G.2.1 2, 6, .inr (.inl (fun _ => 0)))), ((r_0 1), .inl (G.2.1 2, 6, .inr (.inl (fun _ => 0)))), ((r_0 2), .inl (G.2.1 2, 6, .inr (.inl (fun _ => 0)))), ((r_0 3), .inl (G.2.1 2, 6, .inr (.inl (fun _ => 0)))), ((r_0 4), .inl (G.2.1 2, 6, .inr (.inl (fun _ => 0)))), ((r_0 5), .inl (G.2.1 2, 6, .inr (.inl (fun _ => 0)))), ((r_0 6), .inl (G.2.1 2, 6, .inr (.inl (fun _ => 0)))), ((r_0 7), .inl (G.2.1 2, 6, .inr (.inl (fun _ => 0))))] H := hP
  have hD : va_D A [(x, .inr (2, [.null])), (q_0, .inl (G.2.1 4, 8, .inr (.inr (.inr (.inr (fun j => if j < 8 then some (r_0 j) else none)))))), ((r_0 0), .inl (G.2.1 2, 6, .inr (.inl (fun _ => 0)))), ((r_0 1), .inl (G.2.1 2, 6, .inr (.inl (fun _ => 0)))), ((r_0 2), .inl (G.2.1 2, 6, .inr (.inl (fun _ => 0)))), ((r_0 3), .inl (G.2.1 2, 6, .inr (.inl (fun _ => 0)))), ((r_0 4), .inl (G.2.1 2, 6, .inr (.inl (fun _ => 0)))), ((r_0 5), .inl (G.2.1 2, 6, .inr (.inl (fun _ => 0)))), ((r_0 6), .inl (G.2.1 2, 6, .inr (.inl (fun _ => 0)))), ((r_0 7), .inl (G.2.1 2, 6, .inr (.inl (fun _ => 0))))] := hD
  refine W.widen (k := 9) (n := 56) (by first | exact Nat.le_refl _ | omega) (by first | exact Nat.le_refl _ | omega) ?_
  refine va_putF (D := G.1) (ci := 2) (v := .ref q_0) (ty := .array (.array .long)) (C := RX1) (T := TX1) (N := 1) hx hb hts ki_X1 tyX1 tyX1_ok nmX1 hown hE.1 hP hD hS 0 rfl rfl 0 (by decide) (hts _ kw_1_94) (fun _ h9 => h9) rfl hin rfl (by decide +kernel) rfl rfl (Nat.le_of_ble_eq_true rfl) dc_X1_init_13 (fun H locs hP hD hS => ?_)
  have hP : va_P G.1 kcl [(x, .inr (2, [.ref q_0])), (q_0, .inl (G.2.1 4, 8, .inr (.inr (.inr (.inr (fun j => if j < 8 then some (r_0 j) else none)))))), ((r_0 0), .inl (G.2.1 2, 6, .inr (.inl (fun _ => 0)))), ((r_0 1), .inl (G.2.1 2, 6, .inr (.inl (fun _ => 0)))), ((r_0 2), .inl (G.2.1 2, 6, .inr (.inl (fun _ => 0)))), ((r_0 3), .inl (G.2.1 2, 6, .inr (.inl (fun _ => 0)))), ((r_0 4), .inl (G.2.1 2, 6, .inr (.inl (fun _ => 0)))), ((r_0 5), .inl (G.2.1 2, 6, .inr (.inl (fun _ => 0)))), ((r_0 6), .inl (G.2.1 2, 6, .inr (.inl (fun _ => 0)))), ((r_0 7), .inl (G.2.1 2, 6, .inr (.inl (fun _ => 0))))] H := hP
  have hD : va_D A [(x, .inr (2, [.ref q_0])), (q_0, .inl (G.2.1 4, 8, .inr (.inr (.inr (.inr (fun j => if j < 8 then some (r_0 j) else none)))))), ((r_0 0), .inl (G.2.1 2, 6, .inr (.inl (fun _ => 0)))), ((r_0 1), .inl (G.2.1 2, 6, .inr (.inl (fun _ => 0)))), ((r_0 2), .inl (G.2.1 2, 6, .inr (.inl (fun _ => 0)))), ((r_0 3), .inl (G.2.1 2, 6, .inr (.inl (fun _ => 0)))), ((r_0 4), .inl (G.2.1 2, 6, .inr (.inl (fun _ => 0)))), ((r_0 5), .inl (G.2.1 2, 6, .inr (.inl (fun _ => 0)))), ((r_0 6), .inl (G.2.1 2, 6, .inr (.inl (fun _ => 0)))), ((r_0 7), .inl (G.2.1 2, 6, .inr (.inl (fun _ => 0))))] := hD
  have hP9 := hP.sub (ws' := [(x, .inr (2, [.ref q_0])), (q_0, .inl (G.2.1 4, 8, .inr (.inr (.inr (.inr (fun j => if j < 8 then some (r_0 j) else none)))))), ((r_0 0), .inl (G.2.1 2, 6, .inr (.inl (fun _ => 0)))), ((r_0 1), .inl (G.2.1 2, 6, .inr (.inl (fun _ => 0)))), ((r_0 2), .inl (G.2.1 2, 6, .inr (.inl (fun _ => 0)))), ((r_0 3), .inl (G.2.1 2, 6, .inr (.inl (fun _ => 0)))), ((r_0 4), .inl (G.2.1 2, 6, .inr (.inl (fun _ => 0)))), ((r_0 5), .inl (G.2.1 2, 6, .inr (.inl (fun _ => 0)))), ((r_0 6), .inl (G.2.1 2, 6, .inr (.inl (fun _ => 0)))), ((r_0 7), .inl (G.2.1 2, 6, .inr (.inl (fun _ => 0))))]) [0, 1, 2, 3, 4, 5, 6, 7, 8, 9] rfl
  have hD9 := hD.sub (ws' := [(x, .inr (2, [.ref q_0])), (q_0, .inl (G.2.1 4, 8, .inr (.inr (.inr (.inr (fun j => if j < 8 then some (r_0 j) else none)))))), ((r_0 0), .inl (G.2.1 2, 6, .inr (.inl (fun _ => 0)))), ((r_0 1), .inl (G.2.1 2, 6, .inr (.inl (fun _ => 0)))), ((r_0 2), .inl (G.2.1 2, 6, .inr (.inl (fun _ => 0)))), ((r_0 3), .inl (G.2.1 2, 6, .inr (.inl (fun _ => 0)))), ((r_0 4), .inl (G.2.1 2, 6, .inr (.inl (fun _ => 0)))), ((r_0 5), .inl (G.2.1 2, 6, .inr (.inl (fun _ => 0)))), ((r_0 6), .inl (G.2.1 2, 6, .inr (.inl (fun _ => 0)))), ((r_0 7), .inl (G.2.1 2, 6, .inr (.inl (fun _ => 0))))]) [0, 1, 2, 3, 4, 5, 6, 7, 8, 9] (by decide) rfl
  refine W.widen (k := 9) (n := 56) (Nat.le_of_ble_eq_true rfl) (Nat.le_of_ble_eq_true rfl) ?_
  exact W.vret hx hb hr (fun t ht hW => ⟨⟨_, (q_0, r_0), rfl, rfl, by rw [ht]; exact hP9, hD9, trivial⟩, hS.F ht⟩) hS.2.2 dc_X1_init_16
set_option linter.constructorNameAsVariable false in
set_option maxHeartbeats 4000000 in
set_option maxRecDepth 100000 in
theorem mt_X6_init (l : Launch) (G : ky_G) (x : Nat) (sz : Nat)  : Met l my_X6_init (.code my_X6_init prog_1_method_1_code 1 none :: ky_B) { frames := 4, cells := 15, slots := 104, locals := 73 } (ky_P G [.ref x] ([(x, .inr (0, [.null, .null, .null, .int 0, .int 0, .int 0]))]) sz (fun _ => True)) (ky_Q (S := Nat × Nat × Nat × Nat × Nat × Nat × Nat × (Nat → Nat)) G (va_A ([(x, .inr (0, [.null, .null, .null, .int 0, .int 0, .int 0]))]) sz) (fun v _ => v = none) (fun u => ky_WB G x u.1 u.2.1 u.2.2.2.2.2.1 (fun _ => 0, 0, 0, 0) ++ ky_WS G u.2.1 u.2.2.1 u.2.2.2.1 (u.2.2.2.2.1, 16, 0, fun _ => 0, 0, fun _ => 0) ++ ky_WPf G u.2.2.2.2.2.1 u.2.2.2.2.2.2.1 u.2.2.2.2.2.2.2 (fun _ _ => 0)) (fun _ _ => True)) (15) (104) (va_A ([(x, .inr (0, [.null, .null, .null, .int 0, .int 0, .int 0]))]) sz) := by
  refine ky_startI (by decide) (Nat.le_of_ble_eq_true rfl) (fun p e s m below meth c hin F hE A hAe hsz hA hfr hP hD hS hX ls hl => ?_)
  obtain ⟨hx, hb, hml, hown, hr, hlocks, hts⟩ := id F
  have hl : lv_has ls 1 [(0, .ref x)] := hl
  have hP : va_P G.1 kcl [(x, .inr (0, [.null, .null, .null, .int (0), .int (0), .int (0)]))] s.heap := hP
  have hD : va_D A [(x, .inr (0, [.null, .null, .null, .int (0), .int (0), .int (0)]))] := hD
  refine lv_aload_n hx hb dc_X6_init_0 rfl (lv_at hl 0 rfl) ?_
  refine W.objInit hx hb hown (hts _ kw_1_35) (hts _ kw_1_36) (hts _ kw_1_37) rfl (by rw [hml]; exact hl.1) rfl dc_X6_init_1 (Nat.le_of_ble_eq_true rfl) (Nat.le_of_ble_eq_true rfl) ?_
  refine W.eq (g2 := F0 m 4 ls []) rfl ?_
  refine lv_aload_n hx hb dc_X6_init_4 rfl (lv_at hl 0 rfl) ?_
  refine lv_bipush (v := 6) hx hb dc_X6_init_5 (by decide) ?_
  refine va_newa (atype := .long) (ty := .long) (N' := 6) (a0 := (6, .inr (.inl (fun _ => 0)))) hx hb (hts _ kw_1_76) rfl hE.1 hP hD hS hA (fun _ => rfl) (by decide) (by decide) (by decide) (Nat.le_of_ble_eq_true rfl) (Nat.le_of_ble_eq_true rfl) dc_X6_init_7 (fun q_0 cA_0 H hK_0 hP hD hS => ?_)
  have hc_0 : cA_0 = G.2.1 2 := ky_nB 2 hE.1 hK_0 rfl (fun _ h => by cases h)
  subst hc_0
  have hP : va_P G.1 kcl [(x, .inr (0, [.null, .null, .null, .int (0), .int (0), .int (0)])), (q_0, .inl (G.2.1 2, 6, .inr (.inl (fun _ => 0))))] H := hP
  have hD : va_D A [(x, .inr (0, [.null, .null, .null, .int (0), .int (0), .int (0)])), (q_0, .inl (G.2.1 2, 6, .inr (.inl (fun _ => 0))))] := hD
  refine W.widen (k := 1) (n := 6) (by first | exact Nat.le_refl _ | omega) (by first | exact Nat.le_refl _ | omega) ?_
  refine va_putF (D := G.1) (ci := 0) (v := .ref q_0) (ty := .array .long) (C := RX6) (T := TX6) (N := 6) hx hb hts ki_X6 tyX6 tyX6_ok nmX6 hown hE.1 hP hD hS 0 rfl rfl 0 (by decide) (hts _ kw_1_98) (fun _ h9 => h9) rfl hin rfl (by decide +kernel) rfl rfl (Nat.le_of_ble_eq_true rfl) dc_X6_init_9 (fun H locs hP hD hS => ?_)
  have hP : va_P G.1 kcl [(x, .inr (0, [.ref q_0, .null, .null, .int (0), .int (0), .int (0)])), (q_0, .inl (G.2.1 2, 6, .inr (.inl (fun _ => 0))))] H := hP
  have hD : va_D A [(x, .inr (0, [.ref q_0, .null, .null, .int (0), .int (0), .int (0)])), (q_0, .inl (G.2.1 2, 6, .inr (.inl (fun _ => 0))))] := hD
  refine lv_aload_n hx hb dc_X6_init_12 rfl (lv_at hl 0 rfl) ?_
  refine va_new (ci := 1) (fs := [.null, .null]) (C := RX3) (T := TX3) (N := 2) hx hb hts ki_X3 tyX3 tyX3_ok hown (hts _ kw_1_38) (hts _ kw_1_39) (hts _ kw_1_2) hE.1 hP hD hS hA rfl (fun j hj => by rcases (show j = 0 ∨ j = 1 by omega) with rfl | rfl <;> rfl) (Nat.le_of_ble_eq_true rfl) (Nat.le_of_ble_eq_true rfl) dc_X6_init_13 (fun q_1 H hP hD hS => ?_)
  have hP : va_P G.1 kcl [(x, .inr (0, [.ref q_0, .null, .null, .int (0), .int (0), .int (0)])), (q_0, .inl (G.2.1 2, 6, .inr (.inl (fun _ => 0)))), (q_1, .inr (1, [.null, .null]))] H := hP
  have hD : va_D A [(x, .inr (0, [.ref q_0, .null, .null, .int (0), .int (0), .int (0)])), (q_0, .inl (G.2.1 2, 6, .inr (.inl (fun _ => 0)))), (q_1, .inr (1, [.null, .null]))] := hD
  refine W.widen (k := 2) (n := 8) (Nat.le_refl _) (Nat.le_refl _) ?_
  refine lv_dup hx hb dc_X6_init_16 rfl ?_
  refine ky_cIh (As := []) (wr := [(x, .inr (0, [.ref q_0, .null, .null, .int (0), .int (0), .int (0)])), (q_0, .inl (G.2.1 2, 6, .inr (.inl (fun _ => 0))))]) F (hE.at hfr hS) hfr (mt_X3_init l G q_1 H.size ) kI_X6_15 ⟨⟨rfl, rfl⟩, Nat.le_of_ble_eq_true rfl, Nat.le_of_ble_eq_true rfl⟩ rfl hl.1 rfl (Nat.le_of_ble_eq_true rfl) ⟨Nat.le_of_ble_eq_true rfl, Nat.le_of_ble_eq_true rfl⟩ trivial hP hD hS hA [2] [0, 1] rfl rfl (by decide) (by decide) (by decide) dc_X6_init_17 ?_
  rintro v9 ⟨fg_2, b_2, va_2⟩ H locs rfl hP hD hS - hz hk9
  have hP : va_P G.1 kcl [(x, .inr (0, [.ref q_0, .null, .null, .int (0), .int (0), .int (0)])), (q_0, .inl (G.2.1 2, 6, .inr (.inl (fun _ => 0)))), (q_1, .inr (1, [.ref b_2, .ref fg_2])), (fg_2, .inl (G.2.1 1, 19, .inl (fun _ => 0))), (b_2, .inr (6, [.ref va_2, .int (0), .int (0), .int (nI (0))])), (va_2, .inl (G.2.1 0, 16, .inl (fun _ => 0)))] H := hP
  have hD : va_D A [(x, .inr (0, [.ref q_0, .null, .null, .int (0), .int (0), .int (0)])), (q_0, .inl (G.2.1 2, 6, .inr (.inl (fun _ => 0)))), (q_1, .inr (1, [.ref b_2, .ref fg_2])), (fg_2, .inl (G.2.1 1, 19, .inl (fun _ => 0))), (b_2, .inr (6, [.ref va_2, .int (0), .int (0), .int (nI (0))])), (va_2, .inl (G.2.1 0, 16, .inl (fun _ => 0)))] := hD
  refine W.widen (k := 5) (n := 47) (by first | exact Nat.le_refl _ | omega) (by first | exact Nat.le_refl _ | omega) ?_
  refine va_putF (D := G.1) (ci := 0) (v := .ref q_1) (ty := .object "Exactdoubles$Scribe") (C := RX6) (T := TX6) (N := 6) hx hb hts ki_X6 tyX6 tyX6_ok nmX6 hown hE.1 hP hD hS 0 rfl rfl 1 (by decide) (hts _ kw_1_99) (fun _ h9 => h9) rfl hin rfl (by decide +kernel) rfl rfl (Nat.le_of_ble_eq_true rfl) dc_X6_init_20 (fun H locs hP hD hS => ?_)
  have hP : va_P G.1 kcl [(x, .inr (0, [.ref q_0, .ref q_1, .null, .int (0), .int (0), .int (0)])), (q_0, .inl (G.2.1 2, 6, .inr (.inl (fun _ => 0)))), (q_1, .inr (1, [.ref b_2, .ref fg_2])), (fg_2, .inl (G.2.1 1, 19, .inl (fun _ => 0))), (b_2, .inr (6, [.ref va_2, .int (0), .int (0), .int (nI (0))])), (va_2, .inl (G.2.1 0, 16, .inl (fun _ => 0)))] H := hP
  have hD : va_D A [(x, .inr (0, [.ref q_0, .ref q_1, .null, .int (0), .int (0), .int (0)])), (q_0, .inl (G.2.1 2, 6, .inr (.inl (fun _ => 0)))), (q_1, .inr (1, [.ref b_2, .ref fg_2])), (fg_2, .inl (G.2.1 1, 19, .inl (fun _ => 0))), (b_2, .inr (6, [.ref va_2, .int (0), .int (0), .int (nI (0))])), (va_2, .inl (G.2.1 0, 16, .inl (fun _ => 0)))] := hD
  refine lv_aload_n hx hb dc_X6_init_23 rfl (lv_at hl 0 rfl) ?_
  refine va_new (ci := 2) (fs := [.null]) (C := RX1) (T := TX1) (N := 1) hx hb hts ki_X1 tyX1 tyX1_ok hown (hts _ kw_1_86) (hts _ kw_1_87) (hts _ kw_1_7) hE.1 hP hD hS hA rfl (fun j hj => by rcases (show j = 0 by omega) with rfl <;> rfl) (Nat.le_of_ble_eq_true rfl) (Nat.le_of_ble_eq_true rfl) dc_X6_init_24 (fun q_3 H hP hD hS => ?_)
  have hP : va_P G.1 kcl [(x, .inr (0, [.ref q_0, .ref q_1, .null, .int (0), .int (0), .int (0)])), (q_0, .inl (G.2.1 2, 6, .inr (.inl (fun _ => 0)))), (q_1, .inr (1, [.ref b_2, .ref fg_2])), (fg_2, .inl (G.2.1 1, 19, .inl (fun _ => 0))), (b_2, .inr (6, [.ref va_2, .int (0), .int (0), .int (nI (0))])), (va_2, .inl (G.2.1 0, 16, .inl (fun _ => 0))), (q_3, .inr (2, [.null]))] H := hP
  have hD : va_D A [(x, .inr (0, [.ref q_0, .ref q_1, .null, .int (0), .int (0), .int (0)])), (q_0, .inl (G.2.1 2, 6, .inr (.inl (fun _ => 0)))), (q_1, .inr (1, [.ref b_2, .ref fg_2])), (fg_2, .inl (G.2.1 1, 19, .inl (fun _ => 0))), (b_2, .inr (6, [.ref va_2, .int (0), .int (0), .int (nI (0))])), (va_2, .inl (G.2.1 0, 16, .inl (fun _ => 0))), (q_3, .inr (2, [.null]))] := hD
  refine W.widen (k := 6) (n := 48) (Nat.le_refl _) (Nat.le_refl _) ?_
  refine lv_dup hx hb dc_X6_init_27 rfl ?_
  refine ky_cIh (As := []) (wr := [(x, .inr (0, [.ref q_0, .ref q_1, .null, .int (0), .int (0), .int (0)])), (q_0, .inl (G.2.1 2, 6, .inr (.inl (fun _ => 0)))), (q_1, .inr (1, [.ref b_2, .ref fg_2])), (fg_2, .inl (G.2.1 1, 19, .inl (fun _ => 0))), (b_2, .inr (6, [.ref va_2, .int (0), .int (0), .int (nI (0))])), (va_2, .inl (G.2.1 0, 16, .inl (fun _ => 0)))]) F (hE.at hfr hS) hfr (mt_X1_init l G q_3 H.size ) kI_X6_22 ⟨⟨rfl, rfl⟩, Nat.le_of_ble_eq_true rfl, Nat.le_of_ble_eq_true rfl⟩ rfl hl.1 rfl (Nat.le_of_ble_eq_true rfl) ⟨Nat.le_of_ble_eq_true rfl, Nat.le_of_ble_eq_true rfl⟩ trivial hP hD hS hA [6] [0, 1, 2, 3, 4, 5] rfl rfl (by decide) (by decide) (by decide) dc_X6_init_28 ?_
  rintro v9 ⟨tk_4, r_4⟩ H locs rfl hP hD hS - hz hk9
  have hP : va_P G.1 kcl [(x, .inr (0, [.ref q_0, .ref q_1, .null, .int (0), .int (0), .int (0)])), (q_0, .inl (G.2.1 2, 6, .inr (.inl (fun _ => 0)))), (q_1, .inr (1, [.ref b_2, .ref fg_2])), (fg_2, .inl (G.2.1 1, 19, .inl (fun _ => 0))), (b_2, .inr (6, [.ref va_2, .int (0), .int (0), .int (nI (0))])), (va_2, .inl (G.2.1 0, 16, .inl (fun _ => 0))), (q_3, .inr (2, [.ref tk_4])), (tk_4, .inl (G.2.1 4, 8, .inr (.inr (.inr (.inr (fun j => if j < 8 then some (r_4 j) else none)))))), ((r_4 0), .inl (G.2.1 2, 6, .inr (.inl (fun _ => 0)))), ((r_4 1), .inl (G.2.1 2, 6, .inr (.inl (fun _ => 0)))), ((r_4 2), .inl (G.2.1 2, 6, .inr (.inl (fun _ => 0)))), ((r_4 3), .inl (G.2.1 2, 6, .inr (.inl (fun _ => 0)))), ((r_4 4), .inl (G.2.1 2, 6, .inr (.inl (fun _ => 0)))), ((r_4 5), .inl (G.2.1 2, 6, .inr (.inl (fun _ => 0)))), ((r_4 6), .inl (G.2.1 2, 6, .inr (.inl (fun _ => 0)))), ((r_4 7), .inl (G.2.1 2, 6, .inr (.inl (fun _ => 0))))] H := hP
  have hD : va_D A [(x, .inr (0, [.ref q_0, .ref q_1, .null, .int (0), .int (0), .int (0)])), (q_0, .inl (G.2.1 2, 6, .inr (.inl (fun _ => 0)))), (q_1, .inr (1, [.ref b_2, .ref fg_2])), (fg_2, .inl (G.2.1 1, 19, .inl (fun _ => 0))), (b_2, .inr (6, [.ref va_2, .int (0), .int (0), .int (nI (0))])), (va_2, .inl (G.2.1 0, 16, .inl (fun _ => 0))), (q_3, .inr (2, [.ref tk_4])), (tk_4, .inl (G.2.1 4, 8, .inr (.inr (.inr (.inr (fun j => if j < 8 then some (r_4 j) else none)))))), ((r_4 0), .inl (G.2.1 2, 6, .inr (.inl (fun _ => 0)))), ((r_4 1), .inl (G.2.1 2, 6, .inr (.inl (fun _ => 0)))), ((r_4 2), .inl (G.2.1 2, 6, .inr (.inl (fun _ => 0)))), ((r_4 3), .inl (G.2.1 2, 6, .inr (.inl (fun _ => 0)))), ((r_4 4), .inl (G.2.1 2, 6, .inr (.inl (fun _ => 0)))), ((r_4 5), .inl (G.2.1 2, 6, .inr (.inl (fun _ => 0)))), ((r_4 6), .inl (G.2.1 2, 6, .inr (.inl (fun _ => 0)))), ((r_4 7), .inl (G.2.1 2, 6, .inr (.inl (fun _ => 0))))] := hD
  refine W.widen (k := 15) (n := 104) (by first | exact Nat.le_refl _ | omega) (by first | exact Nat.le_refl _ | omega) ?_
  refine va_putF (D := G.1) (ci := 0) (v := .ref q_3) (ty := .object "Exactdoubles$Proof") (C := RX6) (T := TX6) (N := 6) hx hb hts ki_X6 tyX6 tyX6_ok nmX6 hown hE.1 hP hD hS 0 rfl rfl 2 (by decide) (hts _ kw_1_100) (fun _ h9 => h9) rfl hin rfl (by decide +kernel) rfl rfl (Nat.le_of_ble_eq_true rfl) dc_X6_init_31 (fun H locs hP hD hS => ?_)
  have hP : va_P G.1 kcl [(x, .inr (0, [.ref q_0, .ref q_1, .ref q_3, .int (0), .int (0), .int (0)])), (q_0, .inl (G.2.1 2, 6, .inr (.inl (fun _ => 0)))), (q_1, .inr (1, [.ref b_2, .ref fg_2])), (fg_2, .inl (G.2.1 1, 19, .inl (fun _ => 0))), (b_2, .inr (6, [.ref va_2, .int (0), .int (0), .int (nI (0))])), (va_2, .inl (G.2.1 0, 16, .inl (fun _ => 0))), (q_3, .inr (2, [.ref tk_4])), (tk_4, .inl (G.2.1 4, 8, .inr (.inr (.inr (.inr (fun j => if j < 8 then some (r_4 j) else none)))))), ((r_4 0), .inl (G.2.1 2, 6, .inr (.inl (fun _ => 0)))), ((r_4 1), .inl (G.2.1 2, 6, .inr (.inl (fun _ => 0)))), ((r_4 2), .inl (G.2.1 2, 6, .inr (.inl (fun _ => 0)))), ((r_4 3), .inl (G.2.1 2, 6, .inr (.inl (fun _ => 0)))), ((r_4 4), .inl (G.2.1 2, 6, .inr (.inl (fun _ => 0)))), ((r_4 5), .inl (G.2.1 2, 6, .inr (.inl (fun _ => 0)))), ((r_4 6), .inl (G.2.1 2, 6, .inr (.inl (fun _ => 0)))), ((r_4 7), .inl (G.2.1 2, 6, .inr (.inl (fun _ => 0))))] H := hP
  have hD : va_D A [(x, .inr (0, [.ref q_0, .ref q_1, .ref q_3, .int (0), .int (0), .int (0)])), (q_0, .inl (G.2.1 2, 6, .inr (.inl (fun _ => 0)))), (q_1, .inr (1, [.ref b_2, .ref fg_2])), (fg_2, .inl (G.2.1 1, 19, .inl (fun _ => 0))), (b_2, .inr (6, [.ref va_2, .int (0), .int (0), .int (nI (0))])), (va_2, .inl (G.2.1 0, 16, .inl (fun _ => 0))), (q_3, .inr (2, [.ref tk_4])), (tk_4, .inl (G.2.1 4, 8, .inr (.inr (.inr (.inr (fun j => if j < 8 then some (r_4 j) else none)))))), ((r_4 0), .inl (G.2.1 2, 6, .inr (.inl (fun _ => 0)))), ((r_4 1), .inl (G.2.1 2, 6, .inr (.inl (fun _ => 0)))), ((r_4 2), .inl (G.2.1 2, 6, .inr (.inl (fun _ => 0)))), ((r_4 3), .inl (G.2.1 2, 6, .inr (.inl (fun _ => 0)))), ((r_4 4), .inl (G.2.1 2, 6, .inr (.inl (fun _ => 0)))), ((r_4 5), .inl (G.2.1 2, 6, .inr (.inl (fun _ => 0)))), ((r_4 6), .inl (G.2.1 2, 6, .inr (.inl (fun _ => 0)))), ((r_4 7), .inl (G.2.1 2, 6, .inr (.inl (fun _ => 0))))] := hD
  have hP9 := hP.sub (ws' := [(x, .inr (0, [.ref q_0, .ref q_1, .ref q_3, .int (0), .int (0), .int (0)])), (q_0, .inl (G.2.1 2, 6, .inr (.inl (fun _ => 0)))), (q_1, .inr (1, [.ref b_2, .ref fg_2])), (fg_2, .inl (G.2.1 1, 19, .inl (fun _ => 0))), (b_2, .inr (6, [.ref va_2, .int (0), .int (0), .int (nI (0))])), (va_2, .inl (G.2.1 0, 16, .inl (fun _ => 0))), (q_3, .inr (2, [.ref tk_4])), (tk_4, .inl (G.2.1 4, 8, .inr (.inr (.inr (.inr (fun j => if j < 8 then some (r_4 j) else none)))))), ((r_4 0), .inl (G.2.1 2, 6, .inr (.inl (fun _ => 0)))), ((r_4 1), .inl (G.2.1 2, 6, .inr (.inl (fun _ => 0)))), ((r_4 2), .inl (G.2.1 2, 6, .inr (.inl (fun _ => 0)))), ((r_4 3), .inl (G.2.1 2, 6, .inr (.inl (fun _ => 0)))), ((r_4 4), .inl (G.2.1 2, 6, .inr (.inl (fun _ => 0)))), ((r_4 5), .inl (G.2.1 2, 6, .inr (.inl (fun _ => 0)))), ((r_4 6), .inl (G.2.1 2, 6, .inr (.inl (fun _ => 0)))), ((r_4 7), .inl (G.2.1 2, 6, .inr (.inl (fun _ => 0))))]) [0, 1, 2, 3, 4, 5, 6, 7, 8, 9, 10, 11, 12, 13, 14, 15] rfl
  have hD9 := hD.sub (ws' := [(x, .inr (0, [.ref q_0, .ref q_1, .ref q_3, .int (0), .int (0), .int (0)])), (q_0, .inl (G.2.1 2, 6, .inr (.inl (fun _ => 0)))), (q_1, .inr (1, [.ref b_2, .ref fg_2])), (fg_2, .inl (G.2.1 1, 19, .inl (fun _ => 0))), (b_2, .inr (6, [.ref va_2, .int (0), .int (0), .int (nI (0))])), (va_2, .inl (G.2.1 0, 16, .inl (fun _ => 0))), (q_3, .inr (2, [.ref tk_4])), (tk_4, .inl (G.2.1 4, 8, .inr (.inr (.inr (.inr (fun j => if j < 8 then some (r_4 j) else none)))))), ((r_4 0), .inl (G.2.1 2, 6, .inr (.inl (fun _ => 0)))), ((r_4 1), .inl (G.2.1 2, 6, .inr (.inl (fun _ => 0)))), ((r_4 2), .inl (G.2.1 2, 6, .inr (.inl (fun _ => 0)))), ((r_4 3), .inl (G.2.1 2, 6, .inr (.inl (fun _ => 0)))), ((r_4 4), .inl (G.2.1 2, 6, .inr (.inl (fun _ => 0)))), ((r_4 5), .inl (G.2.1 2, 6, .inr (.inl (fun _ => 0)))), ((r_4 6), .inl (G.2.1 2, 6, .inr (.inl (fun _ => 0)))), ((r_4 7), .inl (G.2.1 2, 6, .inr (.inl (fun _ => 0))))]) [0, 1, 2, 3, 4, 5, 6, 7, 8, 9, 10, 11, 12, 13, 14, 15] (by decide) rfl
  refine W.widen (k := 15) (n := 104) (Nat.le_of_ble_eq_true rfl) (Nat.le_of_ble_eq_true rfl) ?_
  exact W.vret hx hb hr (fun t ht hW => ⟨⟨_, (q_0, q_1, fg_2, b_2, va_2, q_3, tk_4, r_4), rfl, rfl, by rw [ht]; exact hP9, hD9, trivial⟩, hS.F ht⟩) hS.2.2 dc_X6_init_34
set_option linter.constructorNameAsVariable false in
set_option maxHeartbeats 4000000 in
set_option maxRecDepth 100000 in
theorem mt_X7_init (l : Launch) (G : ky_G) (x : Nat) (sz : Nat)  : Met l my_X7_init (.code my_X7_init prog_9_method_1_code 1 none :: ky_B) { frames := 1, cells := 0, slots := 0, locals := 12 } (ky_P G [.ref x] ([(x, .inr (3, [.long 0, .null]))]) sz (fun _ => True)) (ky_Q (S := Unit) G (va_A ([(x, .inr (3, [.long 0, .null]))]) sz) (fun v _ => v = none) (fun _ => [(x, .inr (3, [.long 0, .null]))]) (fun _ _ => True)) (0) (0) (va_A ([(x, .inr (3, [.long 0, .null]))]) sz) := by
  refine ky_startI (by decide) (Nat.le_of_ble_eq_true rfl) (fun p e s m below meth c hin F hE A hAe hsz hA hfr hP hD hS hX ls hl => ?_)
  obtain ⟨hx, hb, hml, hown, hr, hlocks, hts⟩ := id F
  have hl : lv_has ls 1 [(0, .ref x)] := hl
  have hP : va_P G.1 kcl [(x, .inr (3, [.long (0), .null]))] s.heap := hP
  have hD : va_D A [(x, .inr (3, [.long (0), .null]))] := hD
  refine lv_aload_n hx hb dc_X7_init_0 rfl (lv_at hl 0 rfl) ?_
  refine W.objInit hx hb hown (hts _ kw_4_71) (hts _ kw_1_36) (hts _ kw_1_37) rfl (by rw [hml]; exact hl.1) rfl dc_X7_init_1 (Nat.le_of_ble_eq_true rfl) (Nat.le_of_ble_eq_true rfl) ?_
  refine W.eq (g2 := F0 m 4 ls []) rfl ?_
  have hP9 := hP.sub (ws' := [(x, .inr (3, [.long (0), .null]))]) [0] rfl
  have hD9 := hD.sub (ws' := [(x, .inr (3, [.long (0), .null]))]) [0] (by decide) rfl
  refine W.widen (k := 0) (n := 0) (Nat.le_of_ble_eq_true rfl) (Nat.le_of_ble_eq_true rfl) ?_
  exact W.vret hx hb hr (fun t ht hW => ⟨⟨_, (), rfl, rfl, by rw [ht]; exact hP9, hD9, trivial⟩, hS.F ht⟩) hS.2.2 dc_X7_init_4
set_option linter.constructorNameAsVariable false in
set_option maxHeartbeats 4000000 in
set_option maxRecDepth 100000 in
theorem mt_X9_init (l : Launch) (G : ky_G) (x : Nat) (N : Nat → Prop) (sz : Nat) (hN : ∀ q, N q → q < sz) : Met l my_X9_init (.code my_X9_init prog_10_method_6_code 2 none :: ky_B) { frames := 2, cells := 7, slots := 18, locals := 35 } (ky_P G [.ref x] ([(x, .inr (5, [.int 0, .null, .int 0, .int 0, .int 0]))]) sz (fun _ => True)) (ky_Q (S := Nat × (Nat → Option Nat)) G (va_A ([(x, .inr (5, [.int 0, .null, .int 0, .int 0, .int 0]))]) sz) (fun v _ => v = none) (fun u => ky_WM G x u.1 (0, 0, 0, 0, fun _ => (0, 0)) u.2) (fun u H => ky_IT G x u.1 N u.2 (fun _ => (0, 0)) H)) (7) (18) (va_A ([(x, .inr (5, [.int 0, .null, .int 0, .int 0, .int 0]))]) sz) := by
  refine ky_startI (by decide) (Nat.le_of_ble_eq_true rfl) (fun p e s m below meth c hin F hE A hAe hsz hA hfr hP hD hS hX ls hl => ?_)
  obtain ⟨hx, hb, hml, hown, hr, hlocks, hts⟩ := id F
  have hl : lv_has ls 2 [(0, .ref x)] := hl
  have hP : va_P G.1 kcl [(x, .inr (5, [.int (0), .null, .int (0), .int (0), .int (0)]))] s.heap := hP
  have hD : va_D A [(x, .inr (5, [.int (0), .null, .int (0), .int (0), .int (0)]))] := hD
  refine lv_aload_n hx hb dc_X9_init_0 rfl (lv_at hl 0 rfl) ?_
  refine W.objInit hx hb hown (hts _ kw_6_2) (hts _ kw_1_36) (hts _ kw_1_37) rfl (by rw [hml]; exact hl.1) rfl dc_X9_init_1 (Nat.le_of_ble_eq_true rfl) (Nat.le_of_ble_eq_true rfl) ?_
  refine W.eq (g2 := F0 m 4 ls []) rfl ?_
  refine lv_aload_n hx hb dc_X9_init_4 rfl (lv_at hl 0 rfl) ?_
  refine lv_bipush (v := 6) hx hb dc_X9_init_5 (by decide) ?_
  refine va_newq (C := "ExactdoublesModel$Its") (N' := 6) hx hb hown (hts _ kw_6_3) (hE.ovI (kc_6 _ (List.mem_of_getElem? (i := 4) rfl))) hE.1 hP hD hS hA (by decide) (by decide) (by decide) (Nat.le_of_ble_eq_true rfl) (Nat.le_of_ble_eq_true rfl) dc_X9_init_7 (fun q_0 cA_0 H hK_0 hP hD hS => ?_)
  have hc_0 : cA_0 = G.2.1 3 := ky_nA 3 hE.1 hK_0 rfl
  subst hc_0
  have hP : va_P G.1 kcl [(x, .inr (5, [.int (0), .null, .int (0), .int (0), .int (0)])), (q_0, .inl (G.2.1 3, 6, .inr (.inr (.inr (.inr (fun _ => none))))))] H := hP
  have hD : va_D A [(x, .inr (5, [.int (0), .null, .int (0), .int (0), .int (0)])), (q_0, .inl (G.2.1 3, 6, .inr (.inr (.inr (.inr (fun _ => none))))))] := hD
  refine W.widen (k := 1) (n := 6) (by first | exact Nat.le_refl _ | omega) (by first | exact Nat.le_refl _ | omega) ?_
  refine va_putF (D := G.1) (ci := 5) (v := .ref q_0) (ty := .array (.object "ExactdoublesModel$Its")) (C := RX9) (T := TX9) (N := 5) hx hb hts ki_X9 tyX9 tyX9_ok nmX9 hown hE.1 hP hD hS 0 rfl rfl 1 (by decide) (hts _ kw_6_20) (fun _ h9 => h9) rfl hin rfl (by decide +kernel) rfl rfl (Nat.le_of_ble_eq_true rfl) dc_X9_init_10 (fun H locs hP hD hS => ?_)
  have hP : va_P G.1 kcl [(x, .inr (5, [.int (0), .ref q_0, .int (0), .int (0), .int (0)])), (q_0, .inl (G.2.1 3, 6, .inr (.inr (.inr (.inr (fun _ => none))))))] H := hP
  have hD : va_D A [(x, .inr (5, [.int (0), .ref q_0, .int (0), .int (0), .int (0)])), (q_0, .inl (G.2.1 3, 6, .inr (.inr (.inr (.inr (fun _ => none))))))] := hD
  refine lv_iconst (v := 0) hx hb dc_X9_init_13 (by decide) ?_
  refine lv_istore_n (lv' := [(1, .int ((0 : Int32))), (0, .ref x)]) hx hb dc_X9_init_14 rfl hl (by decide) rfl (fun ls hl => ?_)
  refine lv_iload_n hx hb dc_X9_init_15 rfl (lv_at hl 0 rfl) ?_
  refine lv_bipush (v := 6) hx hb dc_X9_init_16 (by decide) ?_
  refine lv_icmp_ge (tgt := 42) hx hb dc_X9_init_18 (by decide) (fun c_1 => absurd c_1 (by decide)) (fun _ => ?_)
  refine lv_aload_n hx hb dc_X9_init_21 rfl (lv_at hl 1 rfl) ?_
  refine va_get (D := G.1) (ci := 5) (v := .ref q_0) (C := RX9) (T := TX9) (N := 5) hx hb hts ki_X9 hown hE.1 hP 0 rfl rfl 1 (by decide) (hts _ kw_6_20) (fun _ h9 => h9) rfl dc_X9_init_22 ?_
  refine lv_iload_n hx hb dc_X9_init_25 rfl (lv_at hl 0 rfl) ?_
  refine va_new (ci := 4) (fs := [.int (0), .long (0)]) (C := RX8) (T := TX8) (N := 2) hx hb hts ki_X8 tyX8 tyX8_ok hown (hts _ kw_6_3) (hts _ kw_6_5) (hts _ kw_1_9) hE.1 hP hD hS hA rfl (fun j hj => by rcases (show j = 0 ∨ j = 1 by omega) with rfl | rfl <;> rfl) (Nat.le_of_ble_eq_true rfl) (Nat.le_of_ble_eq_true rfl) dc_X9_init_26 (fun q_2 H hP hD hS => ?_)
  have hP : va_P G.1 kcl [(x, .inr (5, [.int (0), .ref q_0, .int (0), .int (0), .int (0)])), (q_0, .inl (G.2.1 3, 6, .inr (.inr (.inr (.inr (fun _ => none)))))), (q_2, .inr (4, [.int (0), .long (0)]))] H := hP
  have hD : va_D A [(x, .inr (5, [.int (0), .ref q_0, .int (0), .int (0), .int (0)])), (q_0, .inl (G.2.1 3, 6, .inr (.inr (.inr (.inr (fun _ => none)))))), (q_2, .inr (4, [.int (0), .long (0)]))] := hD
  refine W.widen (k := 2) (n := 8) (Nat.le_refl _) (Nat.le_refl _) ?_
  refine lv_dup hx hb dc_X9_init_29 rfl ?_
  refine lv_iconst (v := 0) hx hb dc_X9_init_30 (by decide) ?_
  refine lv_lconst (v := 0) hx hb dc_X9_init_31 (by decide) ?_
  refine ky_cIh (As := [.int ((0 : Int32)), .long ((0 : Int64))]) (wr := [(x, .inr (5, [.int (0), .ref q_0, .int (0), .int (0), .int (0)])), (q_0, .inl (G.2.1 3, 6, .inr (.inr (.inr (.inr (fun _ => none))))))]) F (hE.at hfr hS) hfr (mt_X8_init l G (q_2) ((0 : Int32)) ((0 : Int64)) H.size ) kI_X9_29 ⟨⟨rfl, rfl⟩, by decide, by decide⟩ rfl hl.1 rfl (Nat.le_of_ble_eq_true rfl) ⟨Nat.le_of_ble_eq_true rfl, Nat.le_of_ble_eq_true rfl⟩ trivial hP hD hS hA [2] [0, 1] rfl rfl (by decide) (by decide) (by decide) dc_X9_init_32 ?_
  rintro v9 u9 H locs ⟨rfl, hu9⟩ hP hD hS - hz hk9
  have hu9 := hu9.symm
  subst hu9
  have hP : va_P G.1 kcl [(x, .inr (5, [.int (0), .ref q_0, .int (0), .int (0), .int (0)])), (q_0, .inl (G.2.1 3, 6, .inr (.inr (.inr (.inr (fun _ => none)))))), (q_2, .inr (4, [.int ((0 : Int32)), .long ((0 : Int64))]))] H := hP
  have hD : va_D A [(x, .inr (5, [.int (0), .ref q_0, .int (0), .int (0), .int (0)])), (q_0, .inl (G.2.1 3, 6, .inr (.inr (.inr (.inr (fun _ => none)))))), (q_2, .inr (4, [.int ((0 : Int32)), .long ((0 : Int64))]))] := hD
  refine W.widen (k := 2) (n := 8) (Nat.le_refl _) (Nat.le_refl _) ?_
  refine ky_astI hx hb hE.1 hP hD hS 1 rfl (show ky_It G q_2 ((0 : Int32), (0 : Int64)) H from hP.sub [2] rfl) (vp_in_iff.mpr (by decide)) dc_X9_init_35 (fun H locs hP hD hS => ?_)
  have hP : va_P G.1 kcl [(x, .inr (5, [.int (0), .ref q_0, .int (0), .int (0), .int (0)])), (q_0, .inl (G.2.1 3, 6, .inr (.inr (.inr (.inr (va_up (fun _ => none) 0 (some q_2))))))), (q_2, .inr (4, [.int ((0 : Int32)), .long ((0 : Int64))]))] H := hP
  have hD : va_D A [(x, .inr (5, [.int (0), .ref q_0, .int (0), .int (0), .int (0)])), (q_0, .inl (G.2.1 3, 6, .inr (.inr (.inr (.inr (va_up (fun _ => none) 0 (some q_2))))))), (q_2, .inr (4, [.int ((0 : Int32)), .long ((0 : Int64))]))] := hD
  refine lv_iinc (v := (1 : Int32)) (lv' := [(1, .int ((1 : Int32))), (0, .ref x)]) hx hb dc_X9_init_36 hl (k := 0) rfl (by decide) (by decide) rfl (fun ls hl => ?_)
  refine lv_goto (tgt := 15) hx hb dc_X9_init_39 (by decide) ?_
  refine lv_iload_n hx hb dc_X9_init_15 rfl (lv_at hl 0 rfl) ?_
  refine lv_bipush (v := 6) hx hb dc_X9_init_16 (by decide) ?_
  refine lv_icmp_ge (tgt := 42) hx hb dc_X9_init_18 (by decide) (fun c_4 => absurd c_4 (by decide)) (fun _ => ?_)
  refine lv_aload_n hx hb dc_X9_init_21 rfl (lv_at hl 1 rfl) ?_
  refine va_get (D := G.1) (ci := 5) (v := .ref q_0) (C := RX9) (T := TX9) (N := 5) hx hb hts ki_X9 hown hE.1 hP 0 rfl rfl 1 (by decide) (hts _ kw_6_20) (fun _ h9 => h9) rfl dc_X9_init_22 ?_
  refine lv_iload_n hx hb dc_X9_init_25 rfl (lv_at hl 0 rfl) ?_
  refine va_new (ci := 4) (fs := [.int (0), .long (0)]) (C := RX8) (T := TX8) (N := 2) hx hb hts ki_X8 tyX8 tyX8_ok hown (hts _ kw_6_3) (hts _ kw_6_5) (hts _ kw_1_9) hE.1 hP hD hS hA rfl (fun j hj => by rcases (show j = 0 ∨ j = 1 by omega) with rfl | rfl <;> rfl) (Nat.le_of_ble_eq_true rfl) (Nat.le_of_ble_eq_true rfl) dc_X9_init_26 (fun q_5 H hP hD hS => ?_)
  have hP : va_P G.1 kcl [(x, .inr (5, [.int (0), .ref q_0, .int (0), .int (0), .int (0)])), (q_0, .inl (G.2.1 3, 6, .inr (.inr (.inr (.inr (va_up (fun _ => none) 0 (some q_2))))))), (q_2, .inr (4, [.int ((0 : Int32)), .long ((0 : Int64))])), (q_5, .inr (4, [.int (0), .long (0)]))] H := hP
  have hD : va_D A [(x, .inr (5, [.int (0), .ref q_0, .int (0), .int (0), .int (0)])), (q_0, .inl (G.2.1 3, 6, .inr (.inr (.inr (.inr (va_up (fun _ => none) 0 (some q_2))))))), (q_2, .inr (4, [.int ((0 : Int32)), .long ((0 : Int64))])), (q_5, .inr (4, [.int (0), .long (0)]))] := hD
  refine W.widen (k := 3) (n := 10) (Nat.le_refl _) (Nat.le_refl _) ?_
  refine lv_dup hx hb dc_X9_init_29 rfl ?_
  refine lv_iconst (v := 0) hx hb dc_X9_init_30 (by decide) ?_
  refine lv_lconst (v := 0) hx hb dc_X9_init_31 (by decide) ?_
  refine ky_cIh (As := [.int ((0 : Int32)), .long ((0 : Int64))]) (wr := [(x, .inr (5, [.int (0), .ref q_0, .int (0), .int (0), .int (0)])), (q_0, .inl (G.2.1 3, 6, .inr (.inr (.inr (.inr (va_up (fun _ => none) 0 (some q_2))))))), (q_2, .inr (4, [.int ((0 : Int32)), .long ((0 : Int64))]))]) F (hE.at hfr hS) hfr (mt_X8_init l G (q_5) ((0 : Int32)) ((0 : Int64)) H.size ) kI_X9_29 ⟨⟨rfl, rfl⟩, by decide, by decide⟩ rfl hl.1 rfl (Nat.le_of_ble_eq_true rfl) ⟨Nat.le_of_ble_eq_true rfl, Nat.le_of_ble_eq_true rfl⟩ trivial hP hD hS hA [3] [0, 1, 2] rfl rfl (by decide) (by decide) (by decide) dc_X9_init_32 ?_
  rintro v9 u9 H locs ⟨rfl, hu9⟩ hP hD hS - hz hk9
  have hu9 := hu9.symm
  subst hu9
  have hP : va_P G.1 kcl [(x, .inr (5, [.int (0), .ref q_0, .int (0), .int (0), .int (0)])), (q_0, .inl (G.2.1 3, 6, .inr (.inr (.inr (.inr (va_up (fun _ => none) 0 (some q_2))))))), (q_2, .inr (4, [.int ((0 : Int32)), .long ((0 : Int64))])), (q_5, .inr (4, [.int ((0 : Int32)), .long ((0 : Int64))]))] H := hP
  have hD : va_D A [(x, .inr (5, [.int (0), .ref q_0, .int (0), .int (0), .int (0)])), (q_0, .inl (G.2.1 3, 6, .inr (.inr (.inr (.inr (va_up (fun _ => none) 0 (some q_2))))))), (q_2, .inr (4, [.int ((0 : Int32)), .long ((0 : Int64))])), (q_5, .inr (4, [.int ((0 : Int32)), .long ((0 : Int64))]))] := hD
  refine W.widen (k := 3) (n := 10) (Nat.le_refl _) (Nat.le_refl _) ?_
  refine ky_astI hx hb hE.1 hP hD hS 1 rfl (show ky_It G q_5 ((0 : Int32), (0 : Int64)) H from hP.sub [3] rfl) (vp_in_iff.mpr (by decide)) dc_X9_init_35 (fun H locs hP hD hS => ?_)
  have hP : va_P G.1 kcl [(x, .inr (5, [.int (0), .ref q_0, .int (0), .int (0), .int (0)])), (q_0, .inl (G.2.1 3, 6, .inr (.inr (.inr (.inr (va_up (va_up (fun _ => none) 0 (some q_2)) 1 (some q_5))))))), (q_2, .inr (4, [.int ((0 : Int32)), .long ((0 : Int64))])), (q_5, .inr (4, [.int ((0 : Int32)), .long ((0 : Int64))]))] H := hP
  have hD : va_D A [(x, .inr (5, [.int (0), .ref q_0, .int (0), .int (0), .int (0)])), (q_0, .inl (G.2.1 3, 6, .inr (.inr (.inr (.inr (va_up (va_up (fun _ => none) 0 (some q_2)) 1 (some q_5))))))), (q_2, .inr (4, [.int ((0 : Int32)), .long ((0 : Int64))])), (q_5, .inr (4, [.int ((0 : Int32)), .long ((0 : Int64))]))] := hD
  refine lv_iinc (v := (2 : Int32)) (lv' := [(1, .int ((2 : Int32))), (0, .ref x)]) hx hb dc_X9_init_36 hl (k := 0) rfl (by decide) (by decide) rfl (fun ls hl => ?_)
  refine lv_goto (tgt := 15) hx hb dc_X9_init_39 (by decide) ?_
  refine lv_iload_n hx hb dc_X9_init_15 rfl (lv_at hl 0 rfl) ?_
  refine lv_bipush (v := 6) hx hb dc_X9_init_16 (by decide) ?_
  refine lv_icmp_ge (tgt := 42) hx hb dc_X9_init_18 (by decide) (fun c_7 => absurd c_7 (by decide)) (fun _ => ?_)
  refine lv_aload_n hx hb dc_X9_init_21 rfl (lv_at hl 1 rfl) ?_
  refine va_get (D := G.1) (ci := 5) (v := .ref q_0) (C := RX9) (T := TX9) (N := 5) hx hb hts ki_X9 hown hE.1 hP 0 rfl rfl 1 (by decide) (hts _ kw_6_20) (fun _ h9 => h9) rfl dc_X9_init_22 ?_
  refine lv_iload_n hx hb dc_X9_init_25 rfl (lv_at hl 0 rfl) ?_
  refine va_new (ci := 4) (fs := [.int (0), .long (0)]) (C := RX8) (T := TX8) (N := 2) hx hb hts ki_X8 tyX8 tyX8_ok hown (hts _ kw_6_3) (hts _ kw_6_5) (hts _ kw_1_9) hE.1 hP hD hS hA rfl (fun j hj => by rcases (show j = 0 ∨ j = 1 by omega) with rfl | rfl <;> rfl) (Nat.le_of_ble_eq_true rfl) (Nat.le_of_ble_eq_true rfl) dc_X9_init_26 (fun q_8 H hP hD hS => ?_)
  have hP : va_P G.1 kcl [(x, .inr (5, [.int (0), .ref q_0, .int (0), .int (0), .int (0)])), (q_0, .inl (G.2.1 3, 6, .inr (.inr (.inr (.inr (va_up (va_up (fun _ => none) 0 (some q_2)) 1 (some q_5))))))), (q_2, .inr (4, [.int ((0 : Int32)), .long ((0 : Int64))])), (q_5, .inr (4, [.int ((0 : Int32)), .long ((0 : Int64))])), (q_8, .inr (4, [.int (0), .long (0)]))] H := hP
  have hD : va_D A [(x, .inr (5, [.int (0), .ref q_0, .int (0), .int (0), .int (0)])), (q_0, .inl (G.2.1 3, 6, .inr (.inr (.inr (.inr (va_up (va_up (fun _ => none) 0 (some q_2)) 1 (some q_5))))))), (q_2, .inr (4, [.int ((0 : Int32)), .long ((0 : Int64))])), (q_5, .inr (4, [.int ((0 : Int32)), .long ((0 : Int64))])), (q_8, .inr (4, [.int (0), .long (0)]))] := hD
  refine W.widen (k := 4) (n := 12) (Nat.le_refl _) (Nat.le_refl _) ?_
  refine lv_dup hx hb dc_X9_init_29 rfl ?_
  refine lv_iconst (v := 0) hx hb dc_X9_init_30 (by decide) ?_
  refine lv_lconst (v := 0) hx hb dc_X9_init_31 (by decide) ?_
  refine ky_cIh (As := [.int ((0 : Int32)), .long ((0 : Int64))]) (wr := [(x, .inr (5, [.int (0), .ref q_0, .int (0), .int (0), .int (0)])), (q_0, .inl (G.2.1 3, 6, .inr (.inr (.inr (.inr (va_up (va_up (fun _ => none) 0 (some q_2)) 1 (some q_5))))))), (q_2, .inr (4, [.int ((0 : Int32)), .long ((0 : Int64))])), (q_5, .inr (4, [.int ((0 : Int32)), .long ((0 : Int64))]))]) F (hE.at hfr hS) hfr (mt_X8_init l G (q_8) ((0 : Int32)) ((0 : Int64)) H.size ) kI_X9_29 ⟨⟨rfl, rfl⟩, by decide, by decide⟩ rfl hl.1 rfl (Nat.le_of_ble_eq_true rfl) ⟨Nat.le_of_ble_eq_true rfl, Nat.le_of_ble_eq_true rfl⟩ trivial hP hD hS hA [4] [0, 1, 2, 3] rfl rfl (by decide) (by decide) (by decide) dc_X9_init_32 ?_
  rintro v9 u9 H locs ⟨rfl, hu9⟩ hP hD hS - hz hk9
  have hu9 := hu9.symm
  subst hu9
  have hP : va_P G.1 kcl [(x, .inr (5, [.int (0), .ref q_0, .int (0), .int (0), .int (0)])), (q_0, .inl (G.2.1 3, 6, .inr (.inr (.inr (.inr (va_up (va_up (fun _ => none) 0 (some q_2)) 1 (some q_5))))))), (q_2, .inr (4, [.int ((0 : Int32)), .long ((0 : Int64))])), (q_5, .inr (4, [.int ((0 : Int32)), .long ((0 : Int64))])), (q_8, .inr (4, [.int ((0 : Int32)), .long ((0 : Int64))]))] H := hP
  have hD : va_D A [(x, .inr (5, [.int (0), .ref q_0, .int (0), .int (0), .int (0)])), (q_0, .inl (G.2.1 3, 6, .inr (.inr (.inr (.inr (va_up (va_up (fun _ => none) 0 (some q_2)) 1 (some q_5))))))), (q_2, .inr (4, [.int ((0 : Int32)), .long ((0 : Int64))])), (q_5, .inr (4, [.int ((0 : Int32)), .long ((0 : Int64))])), (q_8, .inr (4, [.int ((0 : Int32)), .long ((0 : Int64))]))] := hD
  refine W.widen (k := 4) (n := 12) (Nat.le_refl _) (Nat.le_refl _) ?_
  refine ky_astI hx hb hE.1 hP hD hS 1 rfl (show ky_It G q_8 ((0 : Int32), (0 : Int64)) H from hP.sub [4] rfl) (vp_in_iff.mpr (by decide)) dc_X9_init_35 (fun H locs hP hD hS => ?_)
  have hP : va_P G.1 kcl [(x, .inr (5, [.int (0), .ref q_0, .int (0), .int (0), .int (0)])), (q_0, .inl (G.2.1 3, 6, .inr (.inr (.inr (.inr (va_up (va_up (va_up (fun _ => none) 0 (some q_2)) 1 (some q_5)) 2 (some q_8))))))), (q_2, .inr (4, [.int ((0 : Int32)), .long ((0 : Int64))])), (q_5, .inr (4, [.int ((0 : Int32)), .long ((0 : Int64))])), (q_8, .inr (4, [.int ((0 : Int32)), .long ((0 : Int64))]))] H := hP
  have hD : va_D A [(x, .inr (5, [.int (0), .ref q_0, .int (0), .int (0), .int (0)])), (q_0, .inl (G.2.1 3, 6, .inr (.inr (.inr (.inr (va_up (va_up (va_up (fun _ => none) 0 (some q_2)) 1 (some q_5)) 2 (some q_8))))))), (q_2, .inr (4, [.int ((0 : Int32)), .long ((0 : Int64))])), (q_5, .inr (4, [.int ((0 : Int32)), .long ((0 : Int64))])), (q_8, .inr (4, [.int ((0 : Int32)), .long ((0 : Int64))]))] := hD
  refine lv_iinc (v := (3 : Int32)) (lv' := [(1, .int ((3 : Int32))), (0, .ref x)]) hx hb dc_X9_init_36 hl (k := 0) rfl (by decide) (by decide) rfl (fun ls hl => ?_)
  refine lv_goto (tgt := 15) hx hb dc_X9_init_39 (by decide) ?_
  refine lv_iload_n hx hb dc_X9_init_15 rfl (lv_at hl 0 rfl) ?_
  refine lv_bipush (v := 6) hx hb dc_X9_init_16 (by decide) ?_
  refine lv_icmp_ge (tgt := 42) hx hb dc_X9_init_18 (by decide) (fun c_10 => absurd c_10 (by decide)) (fun _ => ?_)
  refine lv_aload_n hx hb dc_X9_init_21 rfl (lv_at hl 1 rfl) ?_
  refine va_get (D := G.1) (ci := 5) (v := .ref q_0) (C := RX9) (T := TX9) (N := 5) hx hb hts ki_X9 hown hE.1 hP 0 rfl rfl 1 (by decide) (hts _ kw_6_20) (fun _ h9 => h9) rfl dc_X9_init_22 ?_
  refine lv_iload_n hx hb dc_X9_init_25 rfl (lv_at hl 0 rfl) ?_
  refine va_new (ci := 4) (fs := [.int (0), .long (0)]) (C := RX8) (T := TX8) (N := 2) hx hb hts ki_X8 tyX8 tyX8_ok hown (hts _ kw_6_3) (hts _ kw_6_5) (hts _ kw_1_9) hE.1 hP hD hS hA rfl (fun j hj => by rcases (show j = 0 ∨ j = 1 by omega) with rfl | rfl <;> rfl) (Nat.le_of_ble_eq_true rfl) (Nat.le_of_ble_eq_true rfl) dc_X9_init_26 (fun q_11 H hP hD hS => ?_)
  have hP : va_P G.1 kcl [(x, .inr (5, [.int (0), .ref q_0, .int (0), .int (0), .int (0)])), (q_0, .inl (G.2.1 3, 6, .inr (.inr (.inr (.inr (va_up (va_up (va_up (fun _ => none) 0 (some q_2)) 1 (some q_5)) 2 (some q_8))))))), (q_2, .inr (4, [.int ((0 : Int32)), .long ((0 : Int64))])), (q_5, .inr (4, [.int ((0 : Int32)), .long ((0 : Int64))])), (q_8, .inr (4, [.int ((0 : Int32)), .long ((0 : Int64))])), (q_11, .inr (4, [.int (0), .long (0)]))] H := hP
  have hD : va_D A [(x, .inr (5, [.int (0), .ref q_0, .int (0), .int (0), .int (0)])), (q_0, .inl (G.2.1 3, 6, .inr (.inr (.inr (.inr (va_up (va_up (va_up (fun _ => none) 0 (some q_2)) 1 (some q_5)) 2 (some q_8))))))), (q_2, .inr (4, [.int ((0 : Int32)), .long ((0 : Int64))])), (q_5, .inr (4, [.int ((0 : Int32)), .long ((0 : Int64))])), (q_8, .inr (4, [.int ((0 : Int32)), .long ((0 : Int64))])), (q_11, .inr (4, [.int (0), .long (0)]))] := hD
  refine W.widen (k := 5) (n := 14) (Nat.le_refl _) (Nat.le_refl _) ?_
  refine lv_dup hx hb dc_X9_init_29 rfl ?_
  refine lv_iconst (v := 0) hx hb dc_X9_init_30 (by decide) ?_
  refine lv_lconst (v := 0) hx hb dc_X9_init_31 (by decide) ?_
  refine ky_cIh (As := [.int ((0 : Int32)), .long ((0 : Int64))]) (wr := [(x, .inr (5, [.int (0), .ref q_0, .int (0), .int (0), .int (0)])), (q_0, .inl (G.2.1 3, 6, .inr (.inr (.inr (.inr (va_up (va_up (va_up (fun _ => none) 0 (some q_2)) 1 (some q_5)) 2 (some q_8))))))), (q_2, .inr (4, [.int ((0 : Int32)), .long ((0 : Int64))])), (q_5, .inr (4, [.int ((0 : Int32)), .long ((0 : Int64))])), (q_8, .inr (4, [.int ((0 : Int32)), .long ((0 : Int64))]))]) F (hE.at hfr hS) hfr (mt_X8_init l G (q_11) ((0 : Int32)) ((0 : Int64)) H.size ) kI_X9_29 ⟨⟨rfl, rfl⟩, by decide, by decide⟩ rfl hl.1 rfl (Nat.le_of_ble_eq_true rfl) ⟨Nat.le_of_ble_eq_true rfl, Nat.le_of_ble_eq_true rfl⟩ trivial hP hD hS hA [5] [0, 1, 2, 3, 4] rfl rfl (by decide) (by decide) (by decide) dc_X9_init_32 ?_
  rintro v9 u9 H locs ⟨rfl, hu9⟩ hP hD hS - hz hk9
  have hu9 := hu9.symm
  subst hu9
  have hP : va_P G.1 kcl [(x, .inr (5, [.int (0), .ref q_0, .int (0), .int (0), .int (0)])), (q_0, .inl (G.2.1 3, 6, .inr (.inr (.inr (.inr (va_up (va_up (va_up (fun _ => none) 0 (some q_2)) 1 (some q_5)) 2 (some q_8))))))), (q_2, .inr (4, [.int ((0 : Int32)), .long ((0 : Int64))])), (q_5, .inr (4, [.int ((0 : Int32)), .long ((0 : Int64))])), (q_8, .inr (4, [.int ((0 : Int32)), .long ((0 : Int64))])), (q_11, .inr (4, [.int ((0 : Int32)), .long ((0 : Int64))]))] H := hP
  have hD : va_D A [(x, .inr (5, [.int (0), .ref q_0, .int (0), .int (0), .int (0)])), (q_0, .inl (G.2.1 3, 6, .inr (.inr (.inr (.inr (va_up (va_up (va_up (fun _ => none) 0 (some q_2)) 1 (some q_5)) 2 (some q_8))))))), (q_2, .inr (4, [.int ((0 : Int32)), .long ((0 : Int64))])), (q_5, .inr (4, [.int ((0 : Int32)), .long ((0 : Int64))])), (q_8, .inr (4, [.int ((0 : Int32)), .long ((0 : Int64))])), (q_11, .inr (4, [.int ((0 : Int32)), .long ((0 : Int64))]))] := hD
  refine W.widen (k := 5) (n := 14) (Nat.le_refl _) (Nat.le_refl _) ?_
  refine ky_astI hx hb hE.1 hP hD hS 1 rfl (show ky_It G q_11 ((0 : Int32), (0 : Int64)) H from hP.sub [5] rfl) (vp_in_iff.mpr (by decide)) dc_X9_init_35 (fun H locs hP hD hS => ?_)
  have hP : va_P G.1 kcl [(x, .inr (5, [.int (0), .ref q_0, .int (0), .int (0), .int (0)])), (q_0, .inl (G.2.1 3, 6, .inr (.inr (.inr (.inr (va_up (va_up (va_up (va_up (fun _ => none) 0 (some q_2)) 1 (some q_5)) 2 (some q_8)) 3 (some q_11))))))), (q_2, .inr (4, [.int ((0 : Int32)), .long ((0 : Int64))])), (q_5, .inr (4, [.int ((0 : Int32)), .long ((0 : Int64))])), (q_8, .inr (4, [.int ((0 : Int32)), .long ((0 : Int64))])), (q_11, .inr (4, [.int ((0 : Int32)), .long ((0 : Int64))]))] H := hP
  have hD : va_D A [(x, .inr (5, [.int (0), .ref q_0, .int (0), .int (0), .int (0)])), (q_0, .inl (G.2.1 3, 6, .inr (.inr (.inr (.inr (va_up (va_up (va_up (va_up (fun _ => none) 0 (some q_2)) 1 (some q_5)) 2 (some q_8)) 3 (some q_11))))))), (q_2, .inr (4, [.int ((0 : Int32)), .long ((0 : Int64))])), (q_5, .inr (4, [.int ((0 : Int32)), .long ((0 : Int64))])), (q_8, .inr (4, [.int ((0 : Int32)), .long ((0 : Int64))])), (q_11, .inr (4, [.int ((0 : Int32)), .long ((0 : Int64))]))] := hD
  refine lv_iinc (v := (4 : Int32)) (lv' := [(1, .int ((4 : Int32))), (0, .ref x)]) hx hb dc_X9_init_36 hl (k := 0) rfl (by decide) (by decide) rfl (fun ls hl => ?_)
  refine lv_goto (tgt := 15) hx hb dc_X9_init_39 (by decide) ?_
  refine lv_iload_n hx hb dc_X9_init_15 rfl (lv_at hl 0 rfl) ?_
  refine lv_bipush (v := 6) hx hb dc_X9_init_16 (by decide) ?_
  refine lv_icmp_ge (tgt := 42) hx hb dc_X9_init_18 (by decide) (fun c_13 => absurd c_13 (by decide)) (fun _ => ?_)
  refine lv_aload_n hx hb dc_X9_init_21 rfl (lv_at hl 1 rfl) ?_
  refine va_get (D := G.1) (ci := 5) (v := .ref q_0) (C := RX9) (T := TX9) (N := 5) hx hb hts ki_X9 hown hE.1 hP 0 rfl rfl 1 (by decide) (hts _ kw_6_20) (fun _ h9 => h9) rfl dc_X9_init_22 ?_
  refine lv_iload_n hx hb dc_X9_init_25 rfl (lv_at hl 0 rfl) ?_
  refine va_new (ci := 4) (fs := [.int (0), .long (0)]) (C := RX8) (T := TX8) (N := 2) hx hb hts ki_X8 tyX8 tyX8_ok hown (hts _ kw_6_3) (hts _ kw_6_5) (hts _ kw_1_9) hE.1 hP hD hS hA rfl (fun j hj => by rcases (show j = 0 ∨ j = 1 by omega) with rfl | rfl <;> rfl) (Nat.le_of_ble_eq_true rfl) (Nat.le_of_ble_eq_true rfl) dc_X9_init_26 (fun q_14 H hP hD hS => ?_)
  have hP : va_P G.1 kcl [(x, .inr (5, [.int (0), .ref q_0, .int (0), .int (0), .int (0)])), (q_0, .inl (G.2.1 3, 6, .inr (.inr (.inr (.inr (va_up (va_up (va_up (va_up (fun _ => none) 0 (some q_2)) 1 (some q_5)) 2 (some q_8)) 3 (some q_11))))))), (q_2, .inr (4, [.int ((0 : Int32)), .long ((0 : Int64))])), (q_5, .inr (4, [.int ((0 : Int32)), .long ((0 : Int64))])), (q_8, .inr (4, [.int ((0 : Int32)), .long ((0 : Int64))])), (q_11, .inr (4, [.int ((0 : Int32)), .long ((0 : Int64))])), (q_14, .inr (4, [.int (0), .long (0)]))] H := hP
  have hD : va_D A [(x, .inr (5, [.int (0), .ref q_0, .int (0), .int (0), .int (0)])), (q_0, .inl (G.2.1 3, 6, .inr (.inr (.inr (.inr (va_up (va_up (va_up (va_up (fun _ => none) 0 (some q_2)) 1 (some q_5)) 2 (some q_8)) 3 (some q_11))))))), (q_2, .inr (4, [.int ((0 : Int32)), .long ((0 : Int64))])), (q_5, .inr (4, [.int ((0 : Int32)), .long ((0 : Int64))])), (q_8, .inr (4, [.int ((0 : Int32)), .long ((0 : Int64))])), (q_11, .inr (4, [.int ((0 : Int32)), .long ((0 : Int64))])), (q_14, .inr (4, [.int (0), .long (0)]))] := hD
  refine W.widen (k := 6) (n := 16) (Nat.le_refl _) (Nat.le_refl _) ?_
  refine lv_dup hx hb dc_X9_init_29 rfl ?_
  refine lv_iconst (v := 0) hx hb dc_X9_init_30 (by decide) ?_
  refine lv_lconst (v := 0) hx hb dc_X9_init_31 (by decide) ?_
  refine ky_cIh (As := [.int ((0 : Int32)), .long ((0 : Int64))]) (wr := [(x, .inr (5, [.int (0), .ref q_0, .int (0), .int (0), .int (0)])), (q_0, .inl (G.2.1 3, 6, .inr (.inr (.inr (.inr (va_up (va_up (va_up (va_up (fun _ => none) 0 (some q_2)) 1 (some q_5)) 2 (some q_8)) 3 (some q_11))))))), (q_2, .inr (4, [.int ((0 : Int32)), .long ((0 : Int64))])), (q_5, .inr (4, [.int ((0 : Int32)), .long ((0 : Int64))])), (q_8, .inr (4, [.int ((0 : Int32)), .long ((0 : Int64))])), (q_11, .inr (4, [.int ((0 : Int32)), .long ((0 : Int64))]))]) F (hE.at hfr hS) hfr (mt_X8_init l G (q_14) ((0 : Int32)) ((0 : Int64)) H.size ) kI_X9_29 ⟨⟨rfl, rfl⟩, by decide, by decide⟩ rfl hl.1 rfl (Nat.le_of_ble_eq_true rfl) ⟨Nat.le_of_ble_eq_true rfl, Nat.le_of_ble_eq_true rfl⟩ trivial hP hD hS hA [6] [0, 1, 2, 3, 4, 5] rfl rfl (by decide) (by decide) (by decide) dc_X9_init_32 ?_
  rintro v9 u9 H locs ⟨rfl, hu9⟩ hP hD hS - hz hk9
  have hu9 := hu9.symm
  subst hu9
  have hP : va_P G.1 kcl [(x, .inr (5, [.int (0), .ref q_0, .int (0), .int (0), .int (0)])), (q_0, .inl (G.2.1 3, 6, .inr (.inr (.inr (.inr (va_up (va_up (va_up (va_up (fun _ => none) 0 (some q_2)) 1 (some q_5)) 2 (some q_8)) 3 (some q_11))))))), (q_2, .inr (4, [.int ((0 : Int32)), .long ((0 : Int64))])), (q_5, .inr (4, [.int ((0 : Int32)), .long ((0 : Int64))])), (q_8, .inr (4, [.int ((0 : Int32)), .long ((0 : Int64))])), (q_11, .inr (4, [.int ((0 : Int32)), .long ((0 : Int64))])), (q_14, .inr (4, [.int ((0 : Int32)), .long ((0 : Int64))]))] H := hP
  have hD : va_D A [(x, .inr (5, [.int (0), .ref q_0, .int (0), .int (0), .int (0)])), (q_0, .inl (G.2.1 3, 6, .inr (.inr (.inr (.inr (va_up (va_up (va_up (va_up (fun _ => none) 0 (some q_2)) 1 (some q_5)) 2 (some q_8)) 3 (some q_11))))))), (q_2, .inr (4, [.int ((0 : Int32)), .long ((0 : Int64))])), (q_5, .inr (4, [.int ((0 : Int32)), .long ((0 : Int64))])), (q_8, .inr (4, [.int ((0 : Int32)), .long ((0 : Int64))])), (q_11, .inr (4, [.int ((0 : Int32)), .long ((0 : Int64))])), (q_14, .inr (4, [.int ((0 : Int32)), .long ((0 : Int64))]))] := hD
  refine W.widen (k := 6) (n := 16) (Nat.le_refl _) (Nat.le_refl _) ?_
  refine ky_astI hx hb hE.1 hP hD hS 1 rfl (show ky_It G q_14 ((0 : Int32), (0 : Int64)) H from hP.sub [6] rfl) (vp_in_iff.mpr (by decide)) dc_X9_init_35 (fun H locs hP hD hS => ?_)
  have hP : va_P G.1 kcl [(x, .inr (5, [.int (0), .ref q_0, .int (0), .int (0), .int (0)])), (q_0, .inl (G.2.1 3, 6, .inr (.inr (.inr (.inr (va_up (va_up (va_up (va_up (va_up (fun _ => none) 0 (some q_2)) 1 (some q_5)) 2 (some q_8)) 3 (some q_11)) 4 (some q_14))))))), (q_2, .inr (4, [.int ((0 : Int32)), .long ((0 : Int64))])), (q_5, .inr (4, [.int ((0 : Int32)), .long ((0 : Int64))])), (q_8, .inr (4, [.int ((0 : Int32)), .long ((0 : Int64))])), (q_11, .inr (4, [.int ((0 : Int32)), .long ((0 : Int64))])), (q_14, .inr (4, [.int ((0 : Int32)), .long ((0 : Int64))]))] H := hP
  have hD : va_D A [(x, .inr (5, [.int (0), .ref q_0, .int (0), .int (0), .int (0)])), (q_0, .inl (G.2.1 3, 6, .inr (.inr (.inr (.inr (va_up (va_up (va_up (va_up (va_up (fun _ => none) 0 (some q_2)) 1 (some q_5)) 2 (some q_8)) 3 (some q_11)) 4 (some q_14))))))), (q_2, .inr (4, [.int ((0 : Int32)), .long ((0 : Int64))])), (q_5, .inr (4, [.int ((0 : Int32)), .long ((0 : Int64))])), (q_8, .inr (4, [.int ((0 : Int32)), .long ((0 : Int64))])), (q_11, .inr (4, [.int ((0 : Int32)), .long ((0 : Int64))])), (q_14, .inr (4, [.int ((0 : Int32)), .long ((0 : Int64))]))] := hD
  refine lv_iinc (v := (5 : Int32)) (lv' := [(1, .int ((5 : Int32))), (0, .ref x)]) hx hb dc_X9_init_36 hl (k := 0) rfl (by decide) (by decide) rfl (fun ls hl => ?_)
  refine lv_goto (tgt := 15) hx hb dc_X9_init_39 (by decide) ?_
  refine lv_iload_n hx hb dc_X9_init_15 rfl (lv_at hl 0 rfl) ?_
  refine lv_bipush (v := 6) hx hb dc_X9_init_16 (by decide) ?_
  refine lv_icmp_ge (tgt := 42) hx hb dc_X9_init_18 (by decide) (fun c_16 => absurd c_16 (by decide)) (fun _ => ?_)
  refine lv_aload_n hx hb dc_X9_init_21 rfl (lv_at hl 1 rfl) ?_
  refine va_get (D := G.1) (ci := 5) (v := .ref q_0) (C := RX9) (T := TX9) (N := 5) hx hb hts ki_X9 hown hE.1 hP 0 rfl rfl 1 (by decide) (hts _ kw_6_20) (fun _ h9 => h9) rfl dc_X9_init_22 ?_
  refine lv_iload_n hx hb dc_X9_init_25 rfl (lv_at hl 0 rfl) ?_
  refine va_new (ci := 4) (fs := [.int (0), .long (0)]) (C := RX8) (T := TX8) (N := 2) hx hb hts ki_X8 tyX8 tyX8_ok hown (hts _ kw_6_3) (hts _ kw_6_5) (hts _ kw_1_9) hE.1 hP hD hS hA rfl (fun j hj => by rcases (show j = 0 ∨ j = 1 by omega) with rfl | rfl <;> rfl) (Nat.le_of_ble_eq_true rfl) (Nat.le_of_ble_eq_true rfl) dc_X9_init_26 (fun q_17 H hP hD hS => ?_)
  have hP : va_P G.1 kcl [(x, .inr (5, [.int (0), .ref q_0, .int (0), .int (0), .int (0)])), (q_0, .inl (G.2.1 3, 6, .inr (.inr (.inr (.inr (va_up (va_up (va_up (va_up (va_up (fun _ => none) 0 (some q_2)) 1 (some q_5)) 2 (some q_8)) 3 (some q_11)) 4 (some q_14))))))), (q_2, .inr (4, [.int ((0 : Int32)), .long ((0 : Int64))])), (q_5, .inr (4, [.int ((0 : Int32)), .long ((0 : Int64))])), (q_8, .inr (4, [.int ((0 : Int32)), .long ((0 : Int64))])), (q_11, .inr (4, [.int ((0 : Int32)), .long ((0 : Int64))])), (q_14, .inr (4, [.int ((0 : Int32)), .long ((0 : Int64))])), (q_17, .inr (4, [.int (0), .long (0)]))] H := hP
  have hD : va_D A [(x, .inr (5, [.int (0), .ref q_0, .int (0), .int (0), .int (0)])), (q_0, .inl (G.2.1 3, 6, .inr (.inr (.inr (.inr (va_up (va_up (va_up (va_up (va_up (fun _ => none) 0 (some q_2)) 1 (some q_5)) 2 (some q_8)) 3 (some q_11)) 4 (some q_14))))))), (q_2, .inr (4, [.int ((0 : Int32)), .long ((0 : Int64))])), (q_5, .inr (4, [.int ((0 : Int32)), .long ((0 : Int64))])), (q_8, .inr (4, [.int ((0 : Int32)), .long ((0 : Int64))])), (q_11, .inr (4, [.int ((0 : Int32)), .long ((0 : Int64))])), (q_14, .inr (4, [.int ((0 : Int32)), .long ((0 : Int64))])), (q_17, .inr (4, [.int (0), .long (0)]))] := hD
  refine W.widen (k := 7) (n := 18) (Nat.le_refl _) (Nat.le_refl _) ?_
  refine lv_dup hx hb dc_X9_init_29 rfl ?_
  refine lv_iconst (v := 0) hx hb dc_X9_init_30 (by decide) ?_
  refine lv_lconst (v := 0) hx hb dc_X9_init_31 (by decide) ?_
  refine ky_cIh (As := [.int ((0 : Int32)), .long ((0 : Int64))]) (wr := [(x, .inr (5, [.int (0), .ref q_0, .int (0), .int (0), .int (0)])), (q_0, .inl (G.2.1 3, 6, .inr (.inr (.inr (.inr (va_up (va_up (va_up (va_up (va_up (fun _ => none) 0 (some q_2)) 1 (some q_5)) 2 (some q_8)) 3 (some q_11)) 4 (some q_14))))))), (q_2, .inr (4, [.int ((0 : Int32)), .long ((0 : Int64))])), (q_5, .inr (4, [.int ((0 : Int32)), .long ((0 : Int64))])), (q_8, .inr (4, [.int ((0 : Int32)), .long ((0 : Int64))])), (q_11, .inr (4, [.int ((0 : Int32)), .long ((0 : Int64))])), (q_14, .inr (4, [.int ((0 : Int32)), .long ((0 : Int64))]))]) F (hE.at hfr hS) hfr (mt_X8_init l G (q_17) ((0 : Int32)) ((0 : Int64)) H.size ) kI_X9_29 ⟨⟨rfl, rfl⟩, by decide, by decide⟩ rfl hl.1 rfl (Nat.le_of_ble_eq_true rfl) ⟨Nat.le_of_ble_eq_true rfl, Nat.le_of_ble_eq_true rfl⟩ trivial hP hD hS hA [7] [0, 1, 2, 3, 4, 5, 6] rfl rfl (by decide) (by decide) (by decide) dc_X9_init_32 ?_
  rintro v9 u9 H locs ⟨rfl, hu9⟩ hP hD hS - hz hk9
  have hu9 := hu9.symm
  subst hu9
  have hP : va_P G.1 kcl [(x, .inr (5, [.int (0), .ref q_0, .int (0), .int (0), .int (0)])), (q_0, .inl (G.2.1 3, 6, .inr (.inr (.inr (.inr (va_up (va_up (va_up (va_up (va_up (fun _ => none) 0 (some q_2)) 1 (some q_5)) 2 (some q_8)) 3 (some q_11)) 4 (some q_14))))))), (q_2, .inr (4, [.int ((0 : Int32)), .long ((0 : Int64))])), (q_5, .inr (4, [.int ((0 : Int32)), .long ((0 : Int64))])), (q_8, .inr (4, [.int ((0 : Int32)), .long ((0 : Int64))])), (q_11, .inr (4, [.int ((0 : Int32)), .long ((0 : Int64))])), (q_14, .inr (4, [.int ((0 : Int32)), .long ((0 : Int64))])), (q_17, .inr (4, [.int ((0 : Int32)), .long ((0 : Int64))]))] H := hP
  have hD : va_D A [(x, .inr (5, [.int (0), .ref q_0, .int (0), .int (0), .int (0)])), (q_0, .inl (G.2.1 3, 6, .inr (.inr (.inr (.inr (va_up (va_up (va_up (va_up (va_up (fun _ => none) 0 (some q_2)) 1 (some q_5)) 2 (some q_8)) 3 (some q_11)) 4 (some q_14))))))), (q_2, .inr (4, [.int ((0 : Int32)), .long ((0 : Int64))])), (q_5, .inr (4, [.int ((0 : Int32)), .long ((0 : Int64))])), (q_8, .inr (4, [.int ((0 : Int32)), .long ((0 : Int64))])), (q_11, .inr (4, [.int ((0 : Int32)), .long ((0 : Int64))])), (q_14, .inr (4, [.int ((0 : Int32)), .long ((0 : Int64))])), (q_17, .inr (4, [.int ((0 : Int32)), .long ((0 : Int64))]))] := hD
  refine W.widen (k := 7) (n := 18) (Nat.le_refl _) (Nat.le_refl _) ?_
  refine ky_astI hx hb hE.1 hP hD hS 1 rfl (show ky_It G q_17 ((0 : Int32), (0 : Int64)) H from hP.sub [7] rfl) (vp_in_iff.mpr (by decide)) dc_X9_init_35 (fun H locs hP hD hS => ?_)
  have hP : va_P G.1 kcl [(x, .inr (5, [.int (0), .ref q_0, .int (0), .int (0), .int (0)])), (q_0, .inl (G.2.1 3, 6, .inr (.inr (.inr (.inr (va_up (va_up (va_up (va_up (va_up (va_up (fun _ => none) 0 (some q_2)) 1 (some q_5)) 2 (some q_8)) 3 (some q_11)) 4 (some q_14)) 5 (some q_17))))))), (q_2, .inr (4, [.int ((0 : Int32)), .long ((0 : Int64))])), (q_5, .inr (4, [.int ((0 : Int32)), .long ((0 : Int64))])), (q_8, .inr (4, [.int ((0 : Int32)), .long ((0 : Int64))])), (q_11, .inr (4, [.int ((0 : Int32)), .long ((0 : Int64))])), (q_14, .inr (4, [.int ((0 : Int32)), .long ((0 : Int64))])), (q_17, .inr (4, [.int ((0 : Int32)), .long ((0 : Int64))]))] H := hP
  have hD : va_D A [(x, .inr (5, [.int (0), .ref q_0, .int (0), .int (0), .int (0)])), (q_0, .inl (G.2.1 3, 6, .inr (.inr (.inr (.inr (va_up (va_up (va_up (va_up (va_up (va_up (fun _ => none) 0 (some q_2)) 1 (some q_5)) 2 (some q_8)) 3 (some q_11)) 4 (some q_14)) 5 (some q_17))))))), (q_2, .inr (4, [.int ((0 : Int32)), .long ((0 : Int64))])), (q_5, .inr (4, [.int ((0 : Int32)), .long ((0 : Int64))])), (q_8, .inr (4, [.int ((0 : Int32)), .long ((0 : Int64))])), (q_11, .inr (4, [.int ((0 : Int32)), .long ((0 : Int64))])), (q_14, .inr (4, [.int ((0 : Int32)), .long ((0 : Int64))])), (q_17, .inr (4, [.int ((0 : Int32)), .long ((0 : Int64))]))] := hD
  refine lv_iinc (v := (6 : Int32)) (lv' := [(1, .int ((6 : Int32))), (0, .ref x)]) hx hb dc_X9_init_36 hl (k := 0) rfl (by decide) (by decide) rfl (fun ls hl => ?_)
  refine lv_goto (tgt := 15) hx hb dc_X9_init_39 (by decide) ?_
  refine lv_iload_n hx hb dc_X9_init_15 rfl (lv_at hl 0 rfl) ?_
  refine lv_bipush (v := 6) hx hb dc_X9_init_16 (by decide) ?_
  refine lv_icmp_ge (tgt := 42) hx hb dc_X9_init_18 (by decide) (fun _ => ?_) (fun c_19 => absurd c_19 (by decide))
  have hIT : ky_IT G x q_0 N (va_up (va_up (va_up (va_up (va_up (va_up (fun _ => none) 0 (some q_2)) 1 (some q_5)) 2 (some q_8)) 3 (some q_11)) 4 (some q_14)) 5 (some q_17)) (fun _ => (0, 0)) H := ⟨fun r hr9 => Nat.lt_of_lt_of_le (hN r hr9) (hsz ▸ hS.1), fun j9 hj9 => match j9, hj9 with | 0, _ => ⟨q_2, rfl, hP.sub [2] rfl, ky_ok.ini hAe (fun r hr9 => Nat.lt_of_lt_of_eq (hN r hr9) hsz.symm) hD 0 1 2 rfl rfl rfl (by decide) (by decide)⟩ | 1, _ => ⟨q_5, rfl, hP.sub [3] rfl, ky_ok.ini hAe (fun r hr9 => Nat.lt_of_lt_of_eq (hN r hr9) hsz.symm) hD 0 1 3 rfl rfl rfl (by decide) (by decide)⟩ | 2, _ => ⟨q_8, rfl, hP.sub [4] rfl, ky_ok.ini hAe (fun r hr9 => Nat.lt_of_lt_of_eq (hN r hr9) hsz.symm) hD 0 1 4 rfl rfl rfl (by decide) (by decide)⟩ | 3, _ => ⟨q_11, rfl, hP.sub [5] rfl, ky_ok.ini hAe (fun r hr9 => Nat.lt_of_lt_of_eq (hN r hr9) hsz.symm) hD 0 1 5 rfl rfl rfl (by decide) (by decide)⟩ | 4, _ => ⟨q_14, rfl, hP.sub [6] rfl, ky_ok.ini hAe (fun r hr9 => Nat.lt_of_lt_of_eq (hN r hr9) hsz.symm) hD 0 1 6 rfl rfl rfl (by decide) (by decide)⟩ | 5, _ => ⟨q_17, rfl, hP.sub [7] rfl, ky_ok.ini hAe (fun r hr9 => Nat.lt_of_lt_of_eq (hN r hr9) hsz.symm) hD 0 1 7 rfl rfl rfl (by decide) (by decide)⟩ | k9 + 6, h9 => absurd h9 (by omega)⟩
  have hP9 := hP.sub (ws' := [(x, .inr (5, [.int (0), .ref q_0, .int (0), .int (0), .int (0)])), (q_0, .inl (G.2.1 3, 6, .inr (.inr (.inr (.inr (va_up (va_up (va_up (va_up (va_up (va_up (fun _ => none) 0 (some q_2)) 1 (some q_5)) 2 (some q_8)) 3 (some q_11)) 4 (some q_14)) 5 (some q_17)))))))]) [0, 1] rfl
  have hD9 := hD.sub (ws' := [(x, .inr (5, [.int (0), .ref q_0, .int (0), .int (0), .int (0)])), (q_0, .inl (G.2.1 3, 6, .inr (.inr (.inr (.inr (va_up (va_up (va_up (va_up (va_up (va_up (fun _ => none) 0 (some q_2)) 1 (some q_5)) 2 (some q_8)) 3 (some q_11)) 4 (some q_14)) 5 (some q_17)))))))]) [0, 1] (by decide) rfl
  refine W.widen (k := 7) (n := 18) (Nat.le_of_ble_eq_true rfl) (Nat.le_of_ble_eq_true rfl) ?_
  exact W.vret hx hb hr (fun t ht hW => ⟨⟨_, (q_0, va_up (va_up (va_up (va_up (va_up (va_up (fun _ => none) 0 (some q_2)) 1 (some q_5)) 2 (some q_8)) 3 (some q_11)) 4 (some q_14)) 5 (some q_17)), rfl, rfl, by rw [ht]; exact hP9, hD9, by rw [ht]; exact hIT⟩, hS.F ht⟩) hS.2.2 dc_X9_init_42
end
section
/-! methods with handlers that let nothing through -/
theorem ky_startH {S : Type} {l : Launch} {y : MethodName} {cc : ByteArray} {maxL : Nat} {ret : Option FieldType} {hh : List (Nat × Nat × Nat × Nat)} {rm : Room} {As : List Value} {G : ky_G} {wc : va_W} {sz : Nat} {EX : Heap → Prop} {mc ms : Nat} {post : Option Value → S → Prop} {w1 : S → va_W} {EX1 : S → Heap → Prop}
    (hy : plainName y.cls = true) (hlen : (lg_sl As).length ≤ maxL)
    (body : ∀ (p : Program) (e : Env) (s : State) (m : MethodId) (below : List Frame) (meth : Method) (c : Code), ky_F p s m meth c y.cls cc maxL ret As.toArray → c.exceptionTable.toList = tableOf hh → ky_E G s → ∀ A : Nat → Prop, A = va_A wc s.heap.size → s.heap.size = sz → (∀ q, s.heap.size ≤ q → A q) → (∀ q, A q → ky_fr G q) →
      va_P G.1 kcl wc s.heap → va_D A wc → va_S A s.heap s.heap [] → EX s.heap → ∀ ls : Array Slot, lv_has ls maxL (lv_args 0 As) →
      W p l e rm s m As.toArray below meth c s.heap [] 0 0 (MQ below (ky_Q G A post w1 EX1) As.toArray s mc ms A) (F0 m 0 ls [])) :
    Met l y (.codeWith y cc maxL ret hh :: ky_B) rm (ky_P G As wc sz EX) (ky_Q G (va_A wc sz) post w1 EX1) mc ms (va_A wc sz) := by
  refine MetFree.of_bodyS (code := cc) (maxLocals := maxL) (ret := ret) hy (fun args s m h hn => ?_) (fun p e s m args below meth c s₁ B hml hv _ => ?_)
  · obtain ⟨m9, meth, c, hn9, h1, h2, h3, h4, -, h5, h6, -⟩ := Cond.codeWith_spec (atoms_spec (ws := .codeWith y cc maxL ret hh :: ky_B) h _ List.mem_cons_self)
    cases hn.symm.trans hn9
    exact ⟨meth, c, h1, h2, h3, h4, h5, h6⟩
  · obtain ⟨rfl, hE, hsz, hP, hD, hX⟩ := hv
    have hts := atoms_spec (ws := .codeWith y cc maxL ret hh :: ky_B) B.pre
    have F : ky_F p s m meth c y.cls cc maxL ret As.toArray := ⟨B.exec, B.bytes, hml, findClass_of_methodNamed B.named, B.returns, B.notSynchronized, fun w hw => hts w (List.mem_cons_of_mem _ hw)⟩
    have hT := vx_table (x := y) B (hts _ List.mem_cons_self)
    have hl := lv_entry As (n := maxL) hlen
    subst hsz
    have hb := body p e s m below meth c F hT hE _ rfl rfl (fun q h => Or.inr h) (fun q h => h.elim (fun ⟨k, ee, z⟩ => hD.2 k _ z) (fun z => Nat.le_trans hE.2.1 z)) hP hD.self va_S.rf hX _ hl
    have h0 : s₁.heap = s.heap := by rw [B.state]; rfl
    rw [← lg_entry_eq] at hb
    obtain ⟨t, a1, o, b1, b2, b3⟩ := hb s₁ h0 (Stand.of_body B)
    exact ⟨t, o, a1, b1, b2, ⟨b3.1, b3.2⟩⟩
def ky_wH (own : String) (index : Nat) (y : MethodName) (bytes : ByteArray) (maxL : Nat) (ret : Option FieldType) (hh : List (Nat × Nat × Nat × Nat)) (n : Nat) : Prop :=
  Cond.methodLink own index y ∈ ky_B ∧ Cond.static y ∈ ky_B ∧ Cond.initialized y.cls ∈ ky_B ∧ Cond.codeWith y bytes maxL ret hh ∈ ky_B ∧ y.cls ≠ "java/lang/invoke/MethodHandle" ∧ y.cls ≠ "java/lang/invoke/VarHandle" ∧ (parseMethodDescriptor y.desc).map (fun d => d.parameters.length) = some n
theorem ky_wH.good {own : String} {index : Nat} {y : MethodName} {bytes : ByteArray} {maxL : Nat} {ret : Option FieldType} {hh : List (Nat × Nat × Nat × Nat)} {n : Nat} (h : ky_wH own index y bytes maxL ret hh n) : GoodIn ky_B (va_wsS own index y (.codeWith y bytes maxL ret hh :: ky_B)) := by
  obtain ⟨h1, h2, h3, h4, -⟩ := h
  refine ky_in (fun w hw => ?_)
  simp only [va_wsS, List.mem_append, List.mem_cons, List.not_mem_nil, or_false] at hw
  rcases hw with (rfl | rfl | rfl) | rfl | hw
  · exact h1
  · exact h2
  · exact h3
  · exact h4
  · exact hw
section KYH
variable {p : Program} {l : Launch} {e : Env} {R : Room} {s : State} {m : MethodId} {args : Array Value} {below : List Frame} {meth : Method} {c : Code} {H : Heap} {locs : List Loc} {cells slots : Nat} {Q : State → Prop}
variable {cc : ByteArray} {own : String} {nL : Nat} {ret9 : Option FieldType} {pc : Nat} {ls : Array Slot} {rest st : List Value} {mc ms : Nat} {A : Nat → Prop} {G : ky_G}
variable {y : MethodName} {bytes : ByteArray} {maxL n index : Nat} {ret : Option FieldType} {rm : Room} {As : List Value} {hh : List (Nat × Nat × Nat × Nat)}
theorem ky_cSH {S : Type} {EX : Heap → Prop} {post : Option Value → S → Prop} {w1 : S → va_W} {EX1 : S → Heap → Prop} {ws wc wr : va_W} (F : ky_F p s m meth c own cc nL ret9 args) (hEc : ∀ U : State, U.heap = H → s.WarmedH U.vm → ky_E G U) (hfr : ∀ q, A q → ky_fr G q)
    (hM : Met l y (.codeWith y bytes maxL ret hh :: ky_B) rm (ky_P G As wc H.size EX) (ky_Q G (va_A wc H.size) post w1 EX1) mc ms (va_A wc H.size)) (w : ky_wH own index y bytes maxL ret hh n)
    (hR : (rm.cells = mc ∧ rm.slots = ms) ∧ rm.frames + 1 ≤ R.frames ∧ 8 + (maxL + 11) + rm.locals ≤ R.locals) (hn : As.length = n) (hl : ls.size = nL) (hst : st = As.reverse ++ rest) (hcat : (rest.map fun v => v.category).sum ≤ 8) (hf : cells + mc ≤ R.cells ∧ slots + ms ≤ R.slots)
    (hEX : EX H) (hP : va_P G.1 kcl ws H) (hD : va_D A ws) (hS : va_S A s.heap H locs) (hA : ∀ q, s.heap.size ≤ q → A q)
    (isC isR : List Nat) (hC : isC.map (fun i => ws[i]?) = wc.map some) (hRr : isR.map (fun i => ws[i]?) = wr.map some) (hnC : va_nd isC = true) (hnR : va_nd isR = true) (hdis : ∀ i ∈ isR, i ∉ isC)
    (hdg : decode cc pc = .ok (.invokestatic index, 3))
    (kk : ∀ (v : Option Value) (u : S) (H1 : Heap) (locs1 : List Loc), post v u → va_P G.1 kcl (wr ++ w1 u) H1 → va_D A (wr ++ w1 u) → va_S A s.heap H1 locs1 → EX1 u H1 → H.size ≤ H1.size → (∀ q : Nat, q < H.size → ¬ va_A wc H.size q → H1[q]? = H[q]?) →
      W p l e R s m args below meth c H1 locs1 (cells + mc) (slots + ms) Q (F0 m (pc + 3) ls (v.toList ++ rest))) : W p l e R s m args below meth c H locs cells slots Q (F0 m pc ls st) := by
  obtain ⟨hx, hb, hml, hown, -, -, hts⟩ := F
  have hPc : va_P G.1 kcl wc H := hP.by (fun k => (isC[k]?).getD 0) (fun k q hk => ky_pick hC hk)
  have hDc : va_D (ky_fr G) wc := (hD.sub isC hnC hC).weaken (fun _ _ _ z => hfr _ z)
  have hr := vx_runSW (l := l) (e := e) (R := R) (below := below) (meth := meth) (H := H) (locs := locs) (cells := cells) (slots := slots) (mc := mc) (ms := ms) (g := F0 m pc ls st) (rest := rest) (As := As) ⟨hx, hb, hml, hown, hts⟩ hM
    (vx_cwSW (rm := rm) (ws' := ky_B) n hts w.good rfl hR.1.1 hR.1.2 ⟨w.2.2.2.2.1, w.2.2.2.2.2.1, w.2.2.2.2.2.2⟩ hR.2) ⟨ky_P.blind, fun U hU hW => ⟨rfl, hEc U hU hW, by rw [hU], by rw [hU]; exact hPc, hDc, by rw [hU]; exact hEX⟩⟩ rfl hn hl hst (lv_room hcat) hdg hf
  exact ky_run hr hP hD hS hA isC isR hC hRr hnR hdis kk
/-- the first handler takes it -/
theorem ky_cat1 {hh9 : List (Nat × Nat × Nat × Nat)} {h1 : Nat × Nat × Nat × Nat} {name E : String} {ce : Cell} {q : Addr} (hE : ky_E G s) (hown : s.vm.findClass own = some m.cls) (hT : c.exceptionTable.toList = tableOf (h1 :: hh9)) (hcov : covers ⟨h1.1, h1.2.1, h1.2.2.1, h1.2.2.2⟩ pc = true) (h0 : h1.2.2.2 ≠ 0)
    (hlink : (Cond.classLink own h1.2.2.2 name).before args s = true) (hcast : Cond.castable name name ∈ lw_tbl) (he : E = name) (hcell : H[q]? = some ce) (hv : ce.vm = .none) (hcl : s.vm.findClass E = some ce.cls)
    (kk : W p l e R s m args below meth c H locs cells slots Q (F0 m h1.2.2.1 ls [.ref q])) : vx_W p l e R s m args below meth c H locs cells slots Q (F0 m pc ls rest) q := by
  subst he
  exact vx_catch hown [] _ (tableOf hh9) hT (fun z hz => absurd hz List.not_mem_nil) hcov h0 hlink (hE.cast hcast args) hcell hv hcl kk
/-- the second handler takes it, and the first is for another class -/
theorem ky_cat2 {hh9 : List (Nat × Nat × Nat × Nat)} {h1 h2 : Nat × Nat × Nat × Nat} {nm1 name E : String} {ce : Cell} {q : Addr} (hE : ky_E G s) (hown : s.vm.findClass own = some m.cls) (hT : c.exceptionTable.toList = tableOf (h1 :: h2 :: hh9)) (hcov : covers ⟨h2.1, h2.2.1, h2.2.2.1, h2.2.2.2⟩ pc = true) (h01 : h1.2.2.2 ≠ 0) (h0 : h2.2.2.2 ≠ 0)
    (hl1 : (Cond.classLink own h1.2.2.2 nm1).before args s = true) (hno : Cond.not (Cond.castable name nm1) ∈ flatC (Jvm.Cond.and given_1 narrow_1)) (hlink : (Cond.classLink own h2.2.2.2 name).before args s = true) (hcast : Cond.castable name name ∈ lw_tbl) (he : E = name) (hcell : H[q]? = some ce) (hv : ce.vm = .none) (hcl : s.vm.findClass E = some ce.cls)
    (kk : W p l e R s m args below meth c H locs cells slots Q (F0 m h2.2.2.1 ls [.ref q])) : vx_W p l e R s m args below meth c H locs cells slots Q (F0 m pc ls rest) q := by
  subst he
  exact vx_catch hown [_] _ (tableOf hh9) hT (fun z hz => by rw [List.mem_singleton] at hz; subst hz; exact Or.inr ⟨h01, nm1, hl1, hE.nocast hno⟩) hcov h0 hlink (hE.cast hcast args) hcell hv hcl kk
end KYH
/-! which exceptions a method knows -/
def ky_only {α : Type} (P : String → Prop) (x : Sum String α) : Prop := ∀ E, x = .inl E → P E
theorem ky_only.ok {α : Type} {P : String → Prop} {a : α} : ky_only P (.inr a : Sum String α) := fun _ h => by cases h
theorem ky_only.no {α : Type} {P : String → Prop} {E : String} (h : P E) : ky_only P (.inl E : Sum String α) := fun _ q => by cases q; exact h
theorem ky_only.bi {α β γ : Type} {P : String → Prop} {x : Sum String (α × β)} {k : α → β → Sum String γ} (h : ky_only P x) (hk : ∀ a b, ky_only P (k a b)) : ky_only P (ky_b x k) := by
  cases x with
  | inl e => exact ky_only.no (h e rfl)
  | inr a => exact hk a.1 a.2
theorem ky_only.if {α : Type} {P : String → Prop} {b : Prop} [Decidable b] {x y : Sum String α} (hx : ky_only P x) (hy : ky_only P y) : ky_only P (if b then x else y) := by
  by_cases h : b
  · rw [if_pos h]; exact hx
  · rw [if_neg h]; exact hy
def ky_io (E : String) : Prop := E = "java/lang/IndexOutOfBoundsException"
def ky_ia (E : String) : Prop := E = "java/lang/IndexOutOfBoundsException" ∨ E = "java/lang/IllegalArgumentException"
def ky_ig (E : String) : Prop := E = "java/lang/IllegalArgumentException"
/-! what a wrapper of the law answers, and leaves -/
def ky_lw (x : Sum String (Int32 × ky_BS)) (u : ky_BS) (nn : Int64) : Int32 × ky_BS × Int64 := match x with
  | .inl E => (if E = "java/lang/IndexOutOfBoundsException" then 1 else 2, u, nn)
  | .inr a => (0, a.2, a.1.toInt64)
def ky_lwb (x : Sum String (Int32 × ky_BS)) (u : ky_BS) (nn : Int64) : Int32 × ky_BS × Int64 := match x with
  | .inl E => (if E = "java/lang/IndexOutOfBoundsException" then 1 else 2, u, nn)
  | .inr a => (0, a.2, if a.1 = 0 then 0 else 1)
abbrev ky_WO (o : Nat) (nn : Int64) (sv : Value) : va_W := [(o, .inr (3, [.long nn, sv]))]
theorem ky_lw_ok {r : Int32} {w u : ky_BS} {nn : Int64} : ky_lw (.inr (r, w)) u nn = (0, w, r.toInt64) := rfl
theorem ky_lwb_ok {r : Int32} {w u : ky_BS} {nn : Int64} : ky_lwb (.inr (r, w)) u nn = (0, w, if r = 0 then 0 else 1) := rfl
theorem ky_lw_io {u : ky_BS} {nn : Int64} : ky_lw (.inl "java/lang/IndexOutOfBoundsException") u nn = (1, u, nn) := by
  show ((if ("java/lang/IndexOutOfBoundsException" : String) = "java/lang/IndexOutOfBoundsException" then (1 : Int32) else 2), u, nn) = _
  rw [if_pos rfl]
theorem ky_lwb_io {u : ky_BS} {nn : Int64} : ky_lwb (.inl "java/lang/IndexOutOfBoundsException") u nn = (1, u, nn) := by
  show ((if ("java/lang/IndexOutOfBoundsException" : String) = "java/lang/IndexOutOfBoundsException" then (1 : Int32) else 2), u, nn) = _
  rw [if_pos rfl]
theorem ky_lw_ia {u : ky_BS} {nn : Int64} : ky_lw (.inl "java/lang/IllegalArgumentException") u nn = (2, u, nn) := by
  show ((if ("java/lang/IllegalArgumentException" : String) = "java/lang/IndexOutOfBoundsException" then (1 : Int32) else 2), u, nn) = _
  rw [if_neg (by decide)]
theorem ky_lwb_ia {u : ky_BS} {nn : Int64} : ky_lwb (.inl "java/lang/IllegalArgumentException") u nn = (2, u, nn) := by
  show ((if ("java/lang/IllegalArgumentException" : String) = "java/lang/IndexOutOfBoundsException" then (1 : Int32) else 2), u, nn) = _
  rw [if_neg (by decide)]
theorem ky_only.mono {α : Type} {P P2 : String → Prop} {x : Sum String α} (h : ky_only P x) (hp : ∀ E, P E → P2 E) : ky_only P2 x := fun E q => hp E (h E q)
theorem on_cell (a : Int32) : ky_only ky_io (fn_X6_requireCell a) := by
  unfold fn_X6_requireCell
  exact ky_only.if (ky_only.no rfl) (ky_only.if ky_only.ok (ky_only.no rfl))
theorem on_cellA (a : Int32) : ky_only ky_ia (fn_X6_requireCell a) := (on_cell a).mono (fun _ h => Or.inl h)
theorem on_both (a b : Int32) : ky_only ky_io (fn_X6_requireBoth a b) := by
  unfold fn_X6_requireBoth
  exact (on_cell a).bi (fun _ _ => (on_cell b).bi (fun _ _ => ky_only.ok))
theorem on_bothA (a b : Int32) : ky_only ky_ia (fn_X6_requireBoth a b) := (on_both a b).mono (fun _ h => Or.inl h)
theorem on_within (a b c : Int32) : ky_only ky_ig (fn_X6_requireWithin a b c) := by
  unfold fn_X6_requireWithin
  exact ky_only.if (ky_only.no rfl) (ky_only.if ky_only.ok (ky_only.no rfl))
theorem on_withinA (a b c : Int32) : ky_only ky_ia (fn_X6_requireWithin a b c) := (on_within a b c).mono (fun _ h => Or.inr h)
theorem ky_noia : Cond.not (Cond.castable "java/lang/IllegalArgumentException" "java/lang/IndexOutOfBoundsException") ∈ flatC (Jvm.Cond.and given_1 narrow_1) := by decide +kernel
def ky_lw1 (x : Sum String (Int32 × ky_BS)) (u : ky_BS) (nn : Int64) : Int32 × ky_BS × Int64 := match x with
  | .inl _ => (1, u, nn)
  | .inr a => (0, a.2, a.1.toInt64)
theorem ky_lw1_ok {r : Int32} {w u : ky_BS} {nn : Int64} : ky_lw1 (.inr (r, w)) u nn = (0, w, r.toInt64) := rfl
theorem ky_lw1_ia {u : ky_BS} {nn : Int64} {E : String} : ky_lw1 (.inl E) u nn = (1, u, nn) := rfl
end
section
theorem on_X6_zero (a1 : Int32) (a2 : Int32) (u : ky_BS) : ky_only ky_io (fn_X6_zero a1 a2 u) := by
  unfold fn_X6_zero
  repeat' first | with_reducible exact ky_only.ok | with_reducible exact on_cell _ | with_reducible exact on_both _ _ | with_reducible refine ky_only.bi ?_ (fun _ _ => ?_) | with_reducible refine ky_only.if ?_ ?_ | (with_reducible refine ky_only.no ?_; exact rfl)
theorem on_X6_endless (a1 : Int32) (a2 : Int32) (u : ky_BS) : ky_only ky_io (fn_X6_endless a1 a2 u) := by
  unfold fn_X6_endless
  repeat' first | with_reducible exact ky_only.ok | with_reducible exact on_cell _ | with_reducible exact on_both _ _ | with_reducible refine ky_only.bi ?_ (fun _ _ => ?_) | with_reducible refine ky_only.if ?_ ?_ | (with_reducible refine ky_only.no ?_; exact rfl)
theorem on_X6_quarters (a1 : Int32) (a2 : Int32) (u : ky_BS) : ky_only ky_io (fn_X6_quarters a1 a2 u) := by
  unfold fn_X6_quarters
  repeat' first | with_reducible exact ky_only.ok | with_reducible exact on_cell _ | with_reducible exact on_both _ _ | with_reducible refine ky_only.bi ?_ (fun _ _ => ?_) | with_reducible refine ky_only.if ?_ ?_ | (with_reducible refine ky_only.no ?_; exact rfl)
theorem on_X6_power (a1 : Int32) (a2 : Int32) (a3 : Int32) (u : ky_BS) : ky_only ky_ia (fn_X6_power a1 a2 a3 u) := by
  unfold fn_X6_power
  repeat' first | with_reducible exact ky_only.ok | with_reducible exact on_cellA _ | with_reducible exact on_bothA _ _ | with_reducible exact on_withinA _ _ _ | with_reducible refine ky_only.bi ?_ (fun _ _ => ?_) | with_reducible refine ky_only.if ?_ ?_ | (with_reducible refine ky_only.no ?_; exact Or.inl rfl)
theorem on_X6_bits (a1 : Int32) (a2 : Int32) (a3 : Int32) (u : ky_BS) : ky_only ky_io (fn_X6_bits a1 a2 a3 u) := by
  unfold fn_X6_bits
  repeat' first | with_reducible exact ky_only.ok | with_reducible exact on_cell _ | with_reducible exact on_both _ _ | with_reducible refine ky_only.bi ?_ (fun _ _ => ?_) | with_reducible refine ky_only.if ?_ ?_ | (with_reducible refine ky_only.no ?_; exact rfl)
theorem on_X6_sample (a1 : Int32) (a2 : Int32) (a3 : Int32) (u : ky_BS) : ky_only ky_ia (fn_X6_sample a1 a2 a3 u) := by
  unfold fn_X6_sample
  repeat' first | with_reducible exact ky_only.ok | with_reducible exact on_cellA _ | with_reducible exact on_bothA _ _ | with_reducible exact on_withinA _ _ _ | with_reducible refine ky_only.bi ?_ (fun _ _ => ?_) | with_reducible refine ky_only.if ?_ ?_ | (with_reducible refine ky_only.no ?_; exact Or.inl rfl)
theorem on_X6_copy (a1 : Int32) (a2 : Int32) (u : ky_BS) : ky_only ky_io (fn_X6_copy a1 a2 u) := by
  unfold fn_X6_copy
  repeat' first | with_reducible exact ky_only.ok | with_reducible exact on_cell _ | with_reducible exact on_both _ _ | with_reducible refine ky_only.bi ?_ (fun _ _ => ?_) | with_reducible refine ky_only.if ?_ ?_ | (with_reducible refine ky_only.no ?_; exact rfl)
theorem on_X6_swap (a1 : Int32) (a2 : Int32) (u : ky_BS) : ky_only ky_io (fn_X6_swap a1 a2 u) := by
  unfold fn_X6_swap
  repeat' first | with_reducible exact ky_only.ok | with_reducible exact on_cell _ | with_reducible exact on_both _ _ | with_reducible refine ky_only.bi ?_ (fun _ _ => ?_) | with_reducible refine ky_only.if ?_ ?_ | (with_reducible refine ky_only.no ?_; exact rfl)
theorem on_X6_floor (a1 : Int32) (a2 : Int32) (u : ky_BS) : ky_only ky_io (fn_X6_floor a1 a2 u) := by
  unfold fn_X6_floor
  repeat' first | with_reducible exact ky_only.ok | with_reducible exact on_cell _ | with_reducible exact on_both _ _ | with_reducible refine ky_only.bi ?_ (fun _ _ => ?_) | with_reducible refine ky_only.if ?_ ?_ | (with_reducible refine ky_only.no ?_; exact rfl)
theorem on_X6_ceil (a1 : Int32) (a2 : Int32) (u : ky_BS) : ky_only ky_io (fn_X6_ceil a1 a2 u) := by
  unfold fn_X6_ceil
  repeat' first | with_reducible exact ky_only.ok | with_reducible exact on_cell _ | with_reducible exact on_both _ _ | with_reducible refine ky_only.bi ?_ (fun _ _ => ?_) | with_reducible refine ky_only.if ?_ ?_ | (with_reducible refine ky_only.no ?_; exact rfl)
theorem on_X6_rint (a1 : Int32) (a2 : Int32) (u : ky_BS) : ky_only ky_io (fn_X6_rint a1 a2 u) := by
  unfold fn_X6_rint
  repeat' first | with_reducible exact ky_only.ok | with_reducible exact on_cell _ | with_reducible exact on_both _ _ | with_reducible refine ky_only.bi ?_ (fun _ _ => ?_) | with_reducible refine ky_only.if ?_ ?_ | (with_reducible refine ky_only.no ?_; exact rfl)
theorem on_X6_size (a1 : Int32) (a2 : Int32) (u : ky_BS) : ky_only ky_io (fn_X6_size a1 a2 u) := by
  unfold fn_X6_size
  repeat' first | with_reducible exact ky_only.ok | with_reducible exact on_cell _ | with_reducible exact on_both _ _ | with_reducible refine ky_only.bi ?_ (fun _ _ => ?_) | with_reducible refine ky_only.if ?_ ?_ | (with_reducible refine ky_only.no ?_; exact rfl)
theorem on_X6_turn (a1 : Int32) (a2 : Int32) (u : ky_BS) : ky_only ky_io (fn_X6_turn a1 a2 u) := by
  unfold fn_X6_turn
  repeat' first | with_reducible exact ky_only.ok | with_reducible exact on_cell _ | with_reducible exact on_both _ _ | with_reducible refine ky_only.bi ?_ (fun _ _ => ?_) | with_reducible refine ky_only.if ?_ ?_ | (with_reducible refine ky_only.no ?_; exact rfl)
theorem on_X6_sign (a1 : Int32) (a2 : Int32) (u : ky_BS) : ky_only ky_io (fn_X6_sign a1 a2 u) := by
  unfold fn_X6_sign
  repeat' first | with_reducible exact ky_only.ok | with_reducible exact on_cell _ | with_reducible exact on_both _ _ | with_reducible refine ky_only.bi ?_ (fun _ _ => ?_) | with_reducible refine ky_only.if ?_ ?_ | (with_reducible refine ky_only.no ?_; exact rfl)
theorem on_X6_up (a1 : Int32) (a2 : Int32) (u : ky_BS) : ky_only ky_io (fn_X6_up a1 a2 u) := by
  unfold fn_X6_up
  repeat' first | with_reducible exact ky_only.ok | with_reducible exact on_cell _ | with_reducible exact on_both _ _ | with_reducible refine ky_only.bi ?_ (fun _ _ => ?_) | with_reducible refine ky_only.if ?_ ?_ | (with_reducible refine ky_only.no ?_; exact rfl)
theorem on_X6_down (a1 : Int32) (a2 : Int32) (u : ky_BS) : ky_only ky_io (fn_X6_down a1 a2 u) := by
  unfold fn_X6_down
  repeat' first | with_reducible exact ky_only.ok | with_reducible exact on_cell _ | with_reducible exact on_both _ _ | with_reducible refine ky_only.bi ?_ (fun _ _ => ?_) | with_reducible refine ky_only.if ?_ ?_ | (with_reducible refine ky_only.no ?_; exact rfl)
theorem on_X6_step (a1 : Int32) (a2 : Int32) (u : ky_BS) : ky_only ky_io (fn_X6_step a1 a2 u) := by
  unfold fn_X6_step
  repeat' first | with_reducible exact ky_only.ok | with_reducible exact on_cell _ | with_reducible exact on_both _ _ | with_reducible refine ky_only.bi ?_ (fun _ _ => ?_) | with_reducible refine ky_only.if ?_ ?_ | (with_reducible refine ky_only.no ?_; exact rfl)
theorem on_X6_unit (a1 : Int32) (a2 : Int32) (u : ky_BS) : ky_only ky_io (fn_X6_unit a1 a2 u) := by
  unfold fn_X6_unit
  repeat' first | with_reducible exact ky_only.ok | with_reducible exact on_cell _ | with_reducible exact on_both _ _ | with_reducible refine ky_only.bi ?_ (fun _ _ => ?_) | with_reducible refine ky_only.if ?_ ?_ | (with_reducible refine ky_only.no ?_; exact rfl)
theorem on_X6_times (a1 : Int32) (a2 : Int32) (a3 : Int32) (u : ky_BS) : ky_only ky_io (fn_X6_times a1 a2 a3 u) := by
  unfold fn_X6_times
  repeat' first | with_reducible exact ky_only.ok | with_reducible exact on_cell _ | with_reducible exact on_both _ _ | with_reducible refine ky_only.bi ?_ (fun _ _ => ?_) | with_reducible refine ky_only.if ?_ ?_ | (with_reducible refine ky_only.no ?_; exact rfl)
theorem on_X6_side (a1 : Int32) (a2 : Int32) (a3 : Int32) (u : ky_BS) : ky_only ky_io (fn_X6_side a1 a2 a3 u) := by
  unfold fn_X6_side
  repeat' first | with_reducible exact ky_only.ok | with_reducible exact on_cell _ | with_reducible exact on_both _ _ | with_reducible refine ky_only.bi ?_ (fun _ _ => ?_) | with_reducible refine ky_only.if ?_ ?_ | (with_reducible refine ky_only.no ?_; exact rfl)
theorem on_X6_max (a1 : Int32) (a2 : Int32) (a3 : Int32) (u : ky_BS) : ky_only ky_io (fn_X6_max a1 a2 a3 u) := by
  unfold fn_X6_max
  repeat' first | with_reducible exact ky_only.ok | with_reducible exact on_cell _ | with_reducible exact on_both _ _ | with_reducible refine ky_only.bi ?_ (fun _ _ => ?_) | with_reducible refine ky_only.if ?_ ?_ | (with_reducible refine ky_only.no ?_; exact rfl)
theorem on_X6_min (a1 : Int32) (a2 : Int32) (a3 : Int32) (u : ky_BS) : ky_only ky_io (fn_X6_min a1 a2 a3 u) := by
  unfold fn_X6_min
  repeat' first | with_reducible exact ky_only.ok | with_reducible exact on_cell _ | with_reducible exact on_both _ _ | with_reducible refine ky_only.bi ?_ (fun _ _ => ?_) | with_reducible refine ky_only.if ?_ ?_ | (with_reducible refine ky_only.no ?_; exact rfl)
theorem on_X6_walk (a1 : Int32) (a2 : Int32) (u : ky_BS) : ky_only ky_ia (fn_X6_walk a1 a2 u) := by
  unfold fn_X6_walk
  repeat' first | with_reducible exact ky_only.ok | with_reducible exact on_cellA _ | with_reducible exact on_bothA _ _ | with_reducible exact on_withinA _ _ _ | with_reducible refine ky_only.bi ?_ (fun _ _ => ?_) | with_reducible refine ky_only.if ?_ ?_ | (with_reducible refine ky_only.no ?_; exact Or.inl rfl)
theorem on_X6_kind (a1 : Int32) (u : ky_BS) : ky_only ky_io (fn_X6_kind a1 u) := by
  unfold fn_X6_kind
  repeat' first | with_reducible exact ky_only.ok | with_reducible exact on_cell _ | with_reducible exact on_both _ _ | with_reducible refine ky_only.bi ?_ (fun _ _ => ?_) | with_reducible refine ky_only.if ?_ ?_ | (with_reducible refine ky_only.no ?_; exact rfl)
theorem on_X6_digits (a1 : Int32) (a2 : Int32) (u : ky_BS) : ky_only ky_ia (fn_X6_digits a1 a2 u) := by
  unfold fn_X6_digits
  repeat' first | with_reducible exact ky_only.ok | with_reducible exact on_cellA _ | with_reducible exact on_bothA _ _ | with_reducible exact on_withinA _ _ _ | with_reducible refine ky_only.bi ?_ (fun _ _ => ?_) | with_reducible refine ky_only.if ?_ ?_ | (with_reducible refine ky_only.no ?_; exact Or.inl rfl)
theorem on_X6_exponent (a1 : Int32) (u : ky_BS) : ky_only ky_io (fn_X6_exponent a1 u) := by
  unfold fn_X6_exponent
  repeat' first | with_reducible exact ky_only.ok | with_reducible exact on_cell _ | with_reducible exact on_both _ _ | with_reducible refine ky_only.bi ?_ (fun _ _ => ?_) | with_reducible refine ky_only.if ?_ ?_ | (with_reducible refine ky_only.no ?_; exact rfl)
theorem on_X6_round (a1 : Int32) (a2 : Int32) (u : ky_BS) : ky_only ky_io (fn_X6_round a1 a2 u) := by
  unfold fn_X6_round
  repeat' first | with_reducible exact ky_only.ok | with_reducible exact on_cell _ | with_reducible exact on_both _ _ | with_reducible refine ky_only.bi ?_ (fun _ _ => ?_) | with_reducible refine ky_only.if ?_ ?_ | (with_reducible refine ky_only.no ?_; exact rfl)
theorem on_X6_shortened (a1 : Int32) (u : ky_BS) : ky_only ky_io (fn_X6_shortened a1 u) := by
  unfold fn_X6_shortened
  repeat' first | with_reducible exact ky_only.ok | with_reducible exact on_cell _ | with_reducible exact on_both _ _ | with_reducible refine ky_only.bi ?_ (fun _ _ => ?_) | with_reducible refine ky_only.if ?_ ?_ | (with_reducible refine ky_only.no ?_; exact rfl)
theorem on_X6_signed (a1 : Int32) (u : ky_BS) : ky_only ky_io (fn_X6_signed a1 u) := by
  unfold fn_X6_signed
  repeat' first | with_reducible exact ky_only.ok | with_reducible exact on_cell _ | with_reducible exact on_both _ _ | with_reducible refine ky_only.bi ?_ (fun _ _ => ?_) | with_reducible refine ky_only.if ?_ ?_ | (with_reducible refine ky_only.no ?_; exact rfl)
theorem on_X6_isWhole (a1 : Int32) (u : ky_BS) : ky_only ky_io (fn_X6_isWhole a1 u) := by
  unfold fn_X6_isWhole
  repeat' first | with_reducible exact ky_only.ok | with_reducible exact on_cell _ | with_reducible exact on_both _ _ | with_reducible refine ky_only.bi ?_ (fun _ _ => ?_) | with_reducible refine ky_only.if ?_ ?_ | (with_reducible refine ky_only.no ?_; exact rfl)
theorem on_X6_compare (a1 : Int32) (a2 : Int32) (u : ky_BS) : ky_only ky_io (fn_X6_compare a1 a2 u) := by
  unfold fn_X6_compare
  repeat' first | with_reducible exact ky_only.ok | with_reducible exact on_cell _ | with_reducible exact on_both _ _ | with_reducible refine ky_only.bi ?_ (fun _ _ => ?_) | with_reducible refine ky_only.if ?_ ?_ | (with_reducible refine ky_only.no ?_; exact rfl)
theorem on_X6_areLike (a1 : Int32) (a2 : Int32) (u : ky_BS) : ky_only ky_io (fn_X6_areLike a1 a2 u) := by
  unfold fn_X6_areLike
  repeat' first | with_reducible exact ky_only.ok | with_reducible exact on_cell _ | with_reducible exact on_both _ _ | with_reducible refine ky_only.bi ?_ (fun _ _ => ?_) | with_reducible refine ky_only.if ?_ ?_ | (with_reducible refine ky_only.no ?_; exact rfl)
theorem on_X6_isBelow (a1 : Int32) (a2 : Int32) (u : ky_BS) : ky_only ky_io (fn_X6_isBelow a1 a2 u) := by
  unfold fn_X6_isBelow
  repeat' first | with_reducible exact ky_only.ok | with_reducible exact on_cell _ | with_reducible exact on_both _ _ | with_reducible refine ky_only.bi ?_ (fun _ _ => ?_) | with_reducible refine ky_only.if ?_ ?_ | (with_reducible refine ky_only.no ?_; exact rfl)
theorem on_X6_areSame (a1 : Int32) (a2 : Int32) (u : ky_BS) : ky_only ky_io (fn_X6_areSame a1 a2 u) := by
  unfold fn_X6_areSame
  repeat' first | with_reducible exact ky_only.ok | with_reducible exact on_cell _ | with_reducible exact on_both _ _ | with_reducible refine ky_only.bi ?_ (fun _ _ => ?_) | with_reducible refine ky_only.if ?_ ?_ | (with_reducible refine ky_only.no ?_; exact rfl)
theorem on_X6_isNext (a1 : Int32) (a2 : Int32) (u : ky_BS) : ky_only ky_io (fn_X6_isNext a1 a2 u) := by
  unfold fn_X6_isNext
  repeat' first | with_reducible exact ky_only.ok | with_reducible exact on_cell _ | with_reducible exact on_both _ _ | with_reducible refine ky_only.bi ?_ (fun _ _ => ?_) | with_reducible refine ky_only.if ?_ ?_ | (with_reducible refine ky_only.no ?_; exact rfl)
theorem on_X6_apart (a1 : Int32) (a2 : Int32) (u : ky_BS) : ky_only ky_io (fn_X6_apart a1 a2 u) := by
  unfold fn_X6_apart
  repeat' first | with_reducible exact ky_only.ok | with_reducible exact on_cell _ | with_reducible exact on_both _ _ | with_reducible refine ky_only.bi ?_ (fun _ _ => ?_) | with_reducible refine ky_only.if ?_ ?_ | (with_reducible refine ky_only.no ?_; exact rfl)
theorem on_X6_place (a1 : Int32) (u : ky_BS) : ky_only ky_io (fn_X6_place a1 u) := by
  unfold fn_X6_place
  repeat' first | with_reducible exact ky_only.ok | with_reducible exact on_cell _ | with_reducible exact on_both _ _ | with_reducible refine ky_only.bi ?_ (fun _ _ => ?_) | with_reducible refine ky_only.if ?_ ?_ | (with_reducible refine ky_only.no ?_; exact rfl)
theorem on_X6_isBack (a1 : Int32) (a2 : Int32) (u : ky_BS) : ky_only ky_ia (fn_X6_isBack a1 a2 u) := by
  unfold fn_X6_isBack
  repeat' first | with_reducible exact ky_only.ok | with_reducible exact on_cellA _ | with_reducible exact on_bothA _ _ | with_reducible exact on_withinA _ _ _ | with_reducible refine ky_only.bi ?_ (fun _ _ => ?_) | with_reducible refine ky_only.if ?_ ?_ | (with_reducible refine ky_only.no ?_; exact Or.inl rfl)
theorem on_X6_house (a1 : Int32) (u : ky_BS) : ky_only ky_ig (fn_X6_house a1 u) := by
  unfold fn_X6_house
  with_reducible exact ky_only.bi (on_within _ _ _) (fun _ _ => ky_only.ok)
end
