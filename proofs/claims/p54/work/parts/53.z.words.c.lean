def dw_C_method_2_code_0 : List UInt8 := [45, 42, 27, 28, 182, 0, 7, 133, 181, 0, 13, 167, 0, 7, 58, 4, 4, 172, 3, 172]
theorem dw_h_method_2_code_0 : (method_2_code.data.toList.drop 0).take 72 = dw_C_method_2_code_0 := by decide +kernel
theorem dw_b_L_zero_0 : dw_chk dw_C_method_2_code_0 0 0 (.aload_n 3) 1 = true ∧ dw_chk dw_C_method_2_code_0 1 1 (.aload_n 0) 1 = true ∧ dw_chk dw_C_method_2_code_0 2 2 (.iload_n 1) 1 = true ∧ dw_chk dw_C_method_2_code_0 3 3 (.iload_n 2) 1 = true ∧ dw_chk dw_C_method_2_code_0 4 4 (.invokevirtual 7) 3 = true ∧ dw_chk dw_C_method_2_code_0 14 14 (.astore 4) 2 = true ∧ dw_chk dw_C_method_2_code_0 16 16 (.iconst 1) 1 = true ∧ dw_chk dw_C_method_2_code_0 17 17 (.ireturn) 1 = true ∧ dw_chk dw_C_method_2_code_0 7 7 (.i2l) 1 = true ∧ dw_chk dw_C_method_2_code_0 8 8 (.putfield 13) 3 = true ∧ dw_chk dw_C_method_2_code_0 11 11 (.goto 7) 3 = true ∧ dw_chk dw_C_method_2_code_0 18 18 (.iconst 0) 1 = true ∧ dw_chk dw_C_method_2_code_0 19 19 (.ireturn) 1 = true := by decide +kernel
theorem dc_L_zero_0 : decode method_2_code 0 = .ok (.aload_n 3, 1) := dw_row (j := 0) dw_h_method_2_code_0 rfl dw_b_L_zero_0.1
theorem dc_L_zero_1 : decode method_2_code 1 = .ok (.aload_n 0, 1) := dw_row (j := 1) dw_h_method_2_code_0 rfl dw_b_L_zero_0.2.1
theorem dc_L_zero_2 : decode method_2_code 2 = .ok (.iload_n 1, 1) := dw_row (j := 2) dw_h_method_2_code_0 rfl dw_b_L_zero_0.2.2.1
theorem dc_L_zero_3 : decode method_2_code 3 = .ok (.iload_n 2, 1) := dw_row (j := 3) dw_h_method_2_code_0 rfl dw_b_L_zero_0.2.2.2.1
theorem dc_L_zero_4 : decode method_2_code 4 = .ok (.invokevirtual 7, 3) := dw_row (j := 4) dw_h_method_2_code_0 rfl dw_b_L_zero_0.2.2.2.2.1
theorem dc_L_zero_14 : decode method_2_code 14 = .ok (.astore 4, 2) := dw_row (j := 14) dw_h_method_2_code_0 rfl dw_b_L_zero_0.2.2.2.2.2.1
theorem dc_L_zero_16 : decode method_2_code 16 = .ok (.iconst 1, 1) := dw_row (j := 16) dw_h_method_2_code_0 rfl dw_b_L_zero_0.2.2.2.2.2.2.1
theorem dc_L_zero_17 : decode method_2_code 17 = .ok (.ireturn, 1) := dw_row (j := 17) dw_h_method_2_code_0 rfl dw_b_L_zero_0.2.2.2.2.2.2.2.1
theorem dc_L_zero_7 : decode method_2_code 7 = .ok (.i2l, 1) := dw_row (j := 7) dw_h_method_2_code_0 rfl dw_b_L_zero_0.2.2.2.2.2.2.2.2.1
theorem dc_L_zero_8 : decode method_2_code 8 = .ok (.putfield 13, 3) := dw_row (j := 8) dw_h_method_2_code_0 rfl dw_b_L_zero_0.2.2.2.2.2.2.2.2.2.1
theorem dc_L_zero_11 : decode method_2_code 11 = .ok (.goto 7, 3) := dw_row (j := 11) dw_h_method_2_code_0 rfl dw_b_L_zero_0.2.2.2.2.2.2.2.2.2.2.1
theorem dc_L_zero_18 : decode method_2_code 18 = .ok (.iconst 0, 1) := dw_row (j := 18) dw_h_method_2_code_0 rfl dw_b_L_zero_0.2.2.2.2.2.2.2.2.2.2.2.1
theorem dc_L_zero_19 : decode method_2_code 19 = .ok (.ireturn, 1) := dw_row (j := 19) dw_h_method_2_code_0 rfl dw_b_L_zero_0.2.2.2.2.2.2.2.2.2.2.2.2
def dw_C_method_3_code_0 : List UInt8 := [45, 42, 27, 28, 182, 0, 21, 133, 181, 0, 13, 167, 0, 7, 58, 4, 4, 172, 3, 172]
theorem dw_h_method_3_code_0 : (method_3_code.data.toList.drop 0).take 72 = dw_C_method_3_code_0 := by decide +kernel
theorem dw_b_L_endless_0 : dw_chk dw_C_method_3_code_0 0 0 (.aload_n 3) 1 = true ∧ dw_chk dw_C_method_3_code_0 1 1 (.aload_n 0) 1 = true ∧ dw_chk dw_C_method_3_code_0 2 2 (.iload_n 1) 1 = true ∧ dw_chk dw_C_method_3_code_0 3 3 (.iload_n 2) 1 = true ∧ dw_chk dw_C_method_3_code_0 4 4 (.invokevirtual 21) 3 = true ∧ dw_chk dw_C_method_3_code_0 14 14 (.astore 4) 2 = true ∧ dw_chk dw_C_method_3_code_0 16 16 (.iconst 1) 1 = true ∧ dw_chk dw_C_method_3_code_0 17 17 (.ireturn) 1 = true ∧ dw_chk dw_C_method_3_code_0 7 7 (.i2l) 1 = true ∧ dw_chk dw_C_method_3_code_0 8 8 (.putfield 13) 3 = true ∧ dw_chk dw_C_method_3_code_0 11 11 (.goto 7) 3 = true ∧ dw_chk dw_C_method_3_code_0 18 18 (.iconst 0) 1 = true ∧ dw_chk dw_C_method_3_code_0 19 19 (.ireturn) 1 = true := by decide +kernel
theorem dc_L_endless_0 : decode method_3_code 0 = .ok (.aload_n 3, 1) := dw_row (j := 0) dw_h_method_3_code_0 rfl dw_b_L_endless_0.1
theorem dc_L_endless_1 : decode method_3_code 1 = .ok (.aload_n 0, 1) := dw_row (j := 1) dw_h_method_3_code_0 rfl dw_b_L_endless_0.2.1
theorem dc_L_endless_2 : decode method_3_code 2 = .ok (.iload_n 1, 1) := dw_row (j := 2) dw_h_method_3_code_0 rfl dw_b_L_endless_0.2.2.1
theorem dc_L_endless_3 : decode method_3_code 3 = .ok (.iload_n 2, 1) := dw_row (j := 3) dw_h_method_3_code_0 rfl dw_b_L_endless_0.2.2.2.1
theorem dc_L_endless_4 : decode method_3_code 4 = .ok (.invokevirtual 21, 3) := dw_row (j := 4) dw_h_method_3_code_0 rfl dw_b_L_endless_0.2.2.2.2.1
theorem dc_L_endless_14 : decode method_3_code 14 = .ok (.astore 4, 2) := dw_row (j := 14) dw_h_method_3_code_0 rfl dw_b_L_endless_0.2.2.2.2.2.1
theorem dc_L_endless_16 : decode method_3_code 16 = .ok (.iconst 1, 1) := dw_row (j := 16) dw_h_method_3_code_0 rfl dw_b_L_endless_0.2.2.2.2.2.2.1
theorem dc_L_endless_17 : decode method_3_code 17 = .ok (.ireturn, 1) := dw_row (j := 17) dw_h_method_3_code_0 rfl dw_b_L_endless_0.2.2.2.2.2.2.2.1
theorem dc_L_endless_7 : decode method_3_code 7 = .ok (.i2l, 1) := dw_row (j := 7) dw_h_method_3_code_0 rfl dw_b_L_endless_0.2.2.2.2.2.2.2.2.1
theorem dc_L_endless_8 : decode method_3_code 8 = .ok (.putfield 13, 3) := dw_row (j := 8) dw_h_method_3_code_0 rfl dw_b_L_endless_0.2.2.2.2.2.2.2.2.2.1
theorem dc_L_endless_11 : decode method_3_code 11 = .ok (.goto 7, 3) := dw_row (j := 11) dw_h_method_3_code_0 rfl dw_b_L_endless_0.2.2.2.2.2.2.2.2.2.2.1
theorem dc_L_endless_18 : decode method_3_code 18 = .ok (.iconst 0, 1) := dw_row (j := 18) dw_h_method_3_code_0 rfl dw_b_L_endless_0.2.2.2.2.2.2.2.2.2.2.2.1
theorem dc_L_endless_19 : decode method_3_code 19 = .ok (.ireturn, 1) := dw_row (j := 19) dw_h_method_3_code_0 rfl dw_b_L_endless_0.2.2.2.2.2.2.2.2.2.2.2.2
def dw_C_method_4_code_0 : List UInt8 := [45, 42, 27, 28, 182, 0, 24, 133, 181, 0, 13, 167, 0, 7, 58, 4, 4, 172, 3, 172]
theorem dw_h_method_4_code_0 : (method_4_code.data.toList.drop 0).take 72 = dw_C_method_4_code_0 := by decide +kernel
theorem dw_b_L_quarters_0 : dw_chk dw_C_method_4_code_0 0 0 (.aload_n 3) 1 = true ∧ dw_chk dw_C_method_4_code_0 1 1 (.aload_n 0) 1 = true ∧ dw_chk dw_C_method_4_code_0 2 2 (.iload_n 1) 1 = true ∧ dw_chk dw_C_method_4_code_0 3 3 (.iload_n 2) 1 = true ∧ dw_chk dw_C_method_4_code_0 4 4 (.invokevirtual 24) 3 = true ∧ dw_chk dw_C_method_4_code_0 14 14 (.astore 4) 2 = true ∧ dw_chk dw_C_method_4_code_0 16 16 (.iconst 1) 1 = true ∧ dw_chk dw_C_method_4_code_0 17 17 (.ireturn) 1 = true ∧ dw_chk dw_C_method_4_code_0 7 7 (.i2l) 1 = true ∧ dw_chk dw_C_method_4_code_0 8 8 (.putfield 13) 3 = true ∧ dw_chk dw_C_method_4_code_0 11 11 (.goto 7) 3 = true ∧ dw_chk dw_C_method_4_code_0 18 18 (.iconst 0) 1 = true ∧ dw_chk dw_C_method_4_code_0 19 19 (.ireturn) 1 = true := by decide +kernel
theorem dc_L_quarters_0 : decode method_4_code 0 = .ok (.aload_n 3, 1) := dw_row (j := 0) dw_h_method_4_code_0 rfl dw_b_L_quarters_0.1
theorem dc_L_quarters_1 : decode method_4_code 1 = .ok (.aload_n 0, 1) := dw_row (j := 1) dw_h_method_4_code_0 rfl dw_b_L_quarters_0.2.1
theorem dc_L_quarters_2 : decode method_4_code 2 = .ok (.iload_n 1, 1) := dw_row (j := 2) dw_h_method_4_code_0 rfl dw_b_L_quarters_0.2.2.1
theorem dc_L_quarters_3 : decode method_4_code 3 = .ok (.iload_n 2, 1) := dw_row (j := 3) dw_h_method_4_code_0 rfl dw_b_L_quarters_0.2.2.2.1
theorem dc_L_quarters_4 : decode method_4_code 4 = .ok (.invokevirtual 24, 3) := dw_row (j := 4) dw_h_method_4_code_0 rfl dw_b_L_quarters_0.2.2.2.2.1
theorem dc_L_quarters_14 : decode method_4_code 14 = .ok (.astore 4, 2) := dw_row (j := 14) dw_h_method_4_code_0 rfl dw_b_L_quarters_0.2.2.2.2.2.1
theorem dc_L_quarters_16 : decode method_4_code 16 = .ok (.iconst 1, 1) := dw_row (j := 16) dw_h_method_4_code_0 rfl dw_b_L_quarters_0.2.2.2.2.2.2.1
theorem dc_L_quarters_17 : decode method_4_code 17 = .ok (.ireturn, 1) := dw_row (j := 17) dw_h_method_4_code_0 rfl dw_b_L_quarters_0.2.2.2.2.2.2.2.1
theorem dc_L_quarters_7 : decode method_4_code 7 = .ok (.i2l, 1) := dw_row (j := 7) dw_h_method_4_code_0 rfl dw_b_L_quarters_0.2.2.2.2.2.2.2.2.1
theorem dc_L_quarters_8 : decode method_4_code 8 = .ok (.putfield 13, 3) := dw_row (j := 8) dw_h_method_4_code_0 rfl dw_b_L_quarters_0.2.2.2.2.2.2.2.2.2.1
theorem dc_L_quarters_11 : decode method_4_code 11 = .ok (.goto 7, 3) := dw_row (j := 11) dw_h_method_4_code_0 rfl dw_b_L_quarters_0.2.2.2.2.2.2.2.2.2.2.1
theorem dc_L_quarters_18 : decode method_4_code 18 = .ok (.iconst 0, 1) := dw_row (j := 18) dw_h_method_4_code_0 rfl dw_b_L_quarters_0.2.2.2.2.2.2.2.2.2.2.2.1
theorem dc_L_quarters_19 : decode method_4_code 19 = .ok (.ireturn, 1) := dw_row (j := 19) dw_h_method_4_code_0 rfl dw_b_L_quarters_0.2.2.2.2.2.2.2.2.2.2.2.2
def dw_C_method_5_code_0 : List UInt8 := [25, 4, 42, 27, 28, 29, 182, 0, 28, 133, 181, 0, 13, 167, 0, 11, 58, 5, 4, 172, 58, 5, 5, 172, 3, 172]
theorem dw_h_method_5_code_0 : (method_5_code.data.toList.drop 0).take 72 = dw_C_method_5_code_0 := by decide +kernel
theorem dw_b_L_power_0 : dw_chk dw_C_method_5_code_0 0 0 (.aload 4) 2 = true ∧ dw_chk dw_C_method_5_code_0 2 2 (.aload_n 0) 1 = true ∧ dw_chk dw_C_method_5_code_0 3 3 (.iload_n 1) 1 = true ∧ dw_chk dw_C_method_5_code_0 4 4 (.iload_n 2) 1 = true ∧ dw_chk dw_C_method_5_code_0 5 5 (.iload_n 3) 1 = true ∧ dw_chk dw_C_method_5_code_0 6 6 (.invokevirtual 28) 3 = true ∧ dw_chk dw_C_method_5_code_0 16 16 (.astore 5) 2 = true ∧ dw_chk dw_C_method_5_code_0 18 18 (.iconst 1) 1 = true ∧ dw_chk dw_C_method_5_code_0 19 19 (.ireturn) 1 = true ∧ dw_chk dw_C_method_5_code_0 20 20 (.astore 5) 2 = true ∧ dw_chk dw_C_method_5_code_0 22 22 (.iconst 2) 1 = true ∧ dw_chk dw_C_method_5_code_0 23 23 (.ireturn) 1 = true ∧ dw_chk dw_C_method_5_code_0 9 9 (.i2l) 1 = true ∧ dw_chk dw_C_method_5_code_0 10 10 (.putfield 13) 3 = true ∧ dw_chk dw_C_method_5_code_0 13 13 (.goto 11) 3 = true ∧ dw_chk dw_C_method_5_code_0 24 24 (.iconst 0) 1 = true ∧ dw_chk dw_C_method_5_code_0 25 25 (.ireturn) 1 = true := by decide +kernel
theorem dc_L_power_0 : decode method_5_code 0 = .ok (.aload 4, 2) := dw_row (j := 0) dw_h_method_5_code_0 rfl dw_b_L_power_0.1
theorem dc_L_power_2 : decode method_5_code 2 = .ok (.aload_n 0, 1) := dw_row (j := 2) dw_h_method_5_code_0 rfl dw_b_L_power_0.2.1
theorem dc_L_power_3 : decode method_5_code 3 = .ok (.iload_n 1, 1) := dw_row (j := 3) dw_h_method_5_code_0 rfl dw_b_L_power_0.2.2.1
theorem dc_L_power_4 : decode method_5_code 4 = .ok (.iload_n 2, 1) := dw_row (j := 4) dw_h_method_5_code_0 rfl dw_b_L_power_0.2.2.2.1
theorem dc_L_power_5 : decode method_5_code 5 = .ok (.iload_n 3, 1) := dw_row (j := 5) dw_h_method_5_code_0 rfl dw_b_L_power_0.2.2.2.2.1
theorem dc_L_power_6 : decode method_5_code 6 = .ok (.invokevirtual 28, 3) := dw_row (j := 6) dw_h_method_5_code_0 rfl dw_b_L_power_0.2.2.2.2.2.1
theorem dc_L_power_16 : decode method_5_code 16 = .ok (.astore 5, 2) := dw_row (j := 16) dw_h_method_5_code_0 rfl dw_b_L_power_0.2.2.2.2.2.2.1
theorem dc_L_power_18 : decode method_5_code 18 = .ok (.iconst 1, 1) := dw_row (j := 18) dw_h_method_5_code_0 rfl dw_b_L_power_0.2.2.2.2.2.2.2.1
theorem dc_L_power_19 : decode method_5_code 19 = .ok (.ireturn, 1) := dw_row (j := 19) dw_h_method_5_code_0 rfl dw_b_L_power_0.2.2.2.2.2.2.2.2.1
theorem dc_L_power_20 : decode method_5_code 20 = .ok (.astore 5, 2) := dw_row (j := 20) dw_h_method_5_code_0 rfl dw_b_L_power_0.2.2.2.2.2.2.2.2.2.1
theorem dc_L_power_22 : decode method_5_code 22 = .ok (.iconst 2, 1) := dw_row (j := 22) dw_h_method_5_code_0 rfl dw_b_L_power_0.2.2.2.2.2.2.2.2.2.2.1
theorem dc_L_power_23 : decode method_5_code 23 = .ok (.ireturn, 1) := dw_row (j := 23) dw_h_method_5_code_0 rfl dw_b_L_power_0.2.2.2.2.2.2.2.2.2.2.2.1
theorem dc_L_power_9 : decode method_5_code 9 = .ok (.i2l, 1) := dw_row (j := 9) dw_h_method_5_code_0 rfl dw_b_L_power_0.2.2.2.2.2.2.2.2.2.2.2.2.1
theorem dc_L_power_10 : decode method_5_code 10 = .ok (.putfield 13, 3) := dw_row (j := 10) dw_h_method_5_code_0 rfl dw_b_L_power_0.2.2.2.2.2.2.2.2.2.2.2.2.2.1
theorem dc_L_power_13 : decode method_5_code 13 = .ok (.goto 11, 3) := dw_row (j := 13) dw_h_method_5_code_0 rfl dw_b_L_power_0.2.2.2.2.2.2.2.2.2.2.2.2.2.2.1
theorem dc_L_power_24 : decode method_5_code 24 = .ok (.iconst 0, 1) := dw_row (j := 24) dw_h_method_5_code_0 rfl dw_b_L_power_0.2.2.2.2.2.2.2.2.2.2.2.2.2.2.2.1
theorem dc_L_power_25 : decode method_5_code 25 = .ok (.ireturn, 1) := dw_row (j := 25) dw_h_method_5_code_0 rfl dw_b_L_power_0.2.2.2.2.2.2.2.2.2.2.2.2.2.2.2.2
def dw_C_method_6_code_0 : List UInt8 := [25, 4, 42, 27, 28, 29, 182, 0, 34, 133, 181, 0, 13, 167, 0, 7, 58, 5, 4, 172, 3, 172]
theorem dw_h_method_6_code_0 : (method_6_code.data.toList.drop 0).take 72 = dw_C_method_6_code_0 := by decide +kernel
theorem dw_b_L_bits_0 : dw_chk dw_C_method_6_code_0 0 0 (.aload 4) 2 = true ∧ dw_chk dw_C_method_6_code_0 2 2 (.aload_n 0) 1 = true ∧ dw_chk dw_C_method_6_code_0 3 3 (.iload_n 1) 1 = true ∧ dw_chk dw_C_method_6_code_0 4 4 (.iload_n 2) 1 = true ∧ dw_chk dw_C_method_6_code_0 5 5 (.iload_n 3) 1 = true ∧ dw_chk dw_C_method_6_code_0 6 6 (.invokevirtual 34) 3 = true ∧ dw_chk dw_C_method_6_code_0 16 16 (.astore 5) 2 = true ∧ dw_chk dw_C_method_6_code_0 18 18 (.iconst 1) 1 = true ∧ dw_chk dw_C_method_6_code_0 19 19 (.ireturn) 1 = true ∧ dw_chk dw_C_method_6_code_0 9 9 (.i2l) 1 = true ∧ dw_chk dw_C_method_6_code_0 10 10 (.putfield 13) 3 = true ∧ dw_chk dw_C_method_6_code_0 13 13 (.goto 7) 3 = true ∧ dw_chk dw_C_method_6_code_0 20 20 (.iconst 0) 1 = true ∧ dw_chk dw_C_method_6_code_0 21 21 (.ireturn) 1 = true := by decide +kernel
theorem dc_L_bits_0 : decode method_6_code 0 = .ok (.aload 4, 2) := dw_row (j := 0) dw_h_method_6_code_0 rfl dw_b_L_bits_0.1
theorem dc_L_bits_2 : decode method_6_code 2 = .ok (.aload_n 0, 1) := dw_row (j := 2) dw_h_method_6_code_0 rfl dw_b_L_bits_0.2.1
theorem dc_L_bits_3 : decode method_6_code 3 = .ok (.iload_n 1, 1) := dw_row (j := 3) dw_h_method_6_code_0 rfl dw_b_L_bits_0.2.2.1
theorem dc_L_bits_4 : decode method_6_code 4 = .ok (.iload_n 2, 1) := dw_row (j := 4) dw_h_method_6_code_0 rfl dw_b_L_bits_0.2.2.2.1
theorem dc_L_bits_5 : decode method_6_code 5 = .ok (.iload_n 3, 1) := dw_row (j := 5) dw_h_method_6_code_0 rfl dw_b_L_bits_0.2.2.2.2.1
theorem dc_L_bits_6 : decode method_6_code 6 = .ok (.invokevirtual 34, 3) := dw_row (j := 6) dw_h_method_6_code_0 rfl dw_b_L_bits_0.2.2.2.2.2.1
theorem dc_L_bits_16 : decode method_6_code 16 = .ok (.astore 5, 2) := dw_row (j := 16) dw_h_method_6_code_0 rfl dw_b_L_bits_0.2.2.2.2.2.2.1
theorem dc_L_bits_18 : decode method_6_code 18 = .ok (.iconst 1, 1) := dw_row (j := 18) dw_h_method_6_code_0 rfl dw_b_L_bits_0.2.2.2.2.2.2.2.1
theorem dc_L_bits_19 : decode method_6_code 19 = .ok (.ireturn, 1) := dw_row (j := 19) dw_h_method_6_code_0 rfl dw_b_L_bits_0.2.2.2.2.2.2.2.2.1
theorem dc_L_bits_9 : decode method_6_code 9 = .ok (.i2l, 1) := dw_row (j := 9) dw_h_method_6_code_0 rfl dw_b_L_bits_0.2.2.2.2.2.2.2.2.2.1
theorem dc_L_bits_10 : decode method_6_code 10 = .ok (.putfield 13, 3) := dw_row (j := 10) dw_h_method_6_code_0 rfl dw_b_L_bits_0.2.2.2.2.2.2.2.2.2.2.1
theorem dc_L_bits_13 : decode method_6_code 13 = .ok (.goto 7, 3) := dw_row (j := 13) dw_h_method_6_code_0 rfl dw_b_L_bits_0.2.2.2.2.2.2.2.2.2.2.2.1
theorem dc_L_bits_20 : decode method_6_code 20 = .ok (.iconst 0, 1) := dw_row (j := 20) dw_h_method_6_code_0 rfl dw_b_L_bits_0.2.2.2.2.2.2.2.2.2.2.2.2.1
theorem dc_L_bits_21 : decode method_6_code 21 = .ok (.ireturn, 1) := dw_row (j := 21) dw_h_method_6_code_0 rfl dw_b_L_bits_0.2.2.2.2.2.2.2.2.2.2.2.2.2
def dw_C_method_7_code_0 : List UInt8 := [25, 4, 42, 27, 28, 29, 182, 0, 38, 133, 181, 0, 13, 167, 0, 11, 58, 5, 4, 172, 58, 5, 5, 172, 3, 172]
theorem dw_h_method_7_code_0 : (method_7_code.data.toList.drop 0).take 72 = dw_C_method_7_code_0 := by decide +kernel
theorem dw_b_L_sample_0 : dw_chk dw_C_method_7_code_0 0 0 (.aload 4) 2 = true ∧ dw_chk dw_C_method_7_code_0 2 2 (.aload_n 0) 1 = true ∧ dw_chk dw_C_method_7_code_0 3 3 (.iload_n 1) 1 = true ∧ dw_chk dw_C_method_7_code_0 4 4 (.iload_n 2) 1 = true ∧ dw_chk dw_C_method_7_code_0 5 5 (.iload_n 3) 1 = true ∧ dw_chk dw_C_method_7_code_0 6 6 (.invokevirtual 38) 3 = true ∧ dw_chk dw_C_method_7_code_0 16 16 (.astore 5) 2 = true ∧ dw_chk dw_C_method_7_code_0 18 18 (.iconst 1) 1 = true ∧ dw_chk dw_C_method_7_code_0 19 19 (.ireturn) 1 = true ∧ dw_chk dw_C_method_7_code_0 20 20 (.astore 5) 2 = true ∧ dw_chk dw_C_method_7_code_0 22 22 (.iconst 2) 1 = true ∧ dw_chk dw_C_method_7_code_0 23 23 (.ireturn) 1 = true ∧ dw_chk dw_C_method_7_code_0 9 9 (.i2l) 1 = true ∧ dw_chk dw_C_method_7_code_0 10 10 (.putfield 13) 3 = true ∧ dw_chk dw_C_method_7_code_0 13 13 (.goto 11) 3 = true ∧ dw_chk dw_C_method_7_code_0 24 24 (.iconst 0) 1 = true ∧ dw_chk dw_C_method_7_code_0 25 25 (.ireturn) 1 = true := by decide +kernel
theorem dc_L_sample_0 : decode method_7_code 0 = .ok (.aload 4, 2) := dw_row (j := 0) dw_h_method_7_code_0 rfl dw_b_L_sample_0.1
theorem dc_L_sample_2 : decode method_7_code 2 = .ok (.aload_n 0, 1) := dw_row (j := 2) dw_h_method_7_code_0 rfl dw_b_L_sample_0.2.1
theorem dc_L_sample_3 : decode method_7_code 3 = .ok (.iload_n 1, 1) := dw_row (j := 3) dw_h_method_7_code_0 rfl dw_b_L_sample_0.2.2.1
theorem dc_L_sample_4 : decode method_7_code 4 = .ok (.iload_n 2, 1) := dw_row (j := 4) dw_h_method_7_code_0 rfl dw_b_L_sample_0.2.2.2.1
theorem dc_L_sample_5 : decode method_7_code 5 = .ok (.iload_n 3, 1) := dw_row (j := 5) dw_h_method_7_code_0 rfl dw_b_L_sample_0.2.2.2.2.1
theorem dc_L_sample_6 : decode method_7_code 6 = .ok (.invokevirtual 38, 3) := dw_row (j := 6) dw_h_method_7_code_0 rfl dw_b_L_sample_0.2.2.2.2.2.1
theorem dc_L_sample_16 : decode method_7_code 16 = .ok (.astore 5, 2) := dw_row (j := 16) dw_h_method_7_code_0 rfl dw_b_L_sample_0.2.2.2.2.2.2.1
theorem dc_L_sample_18 : decode method_7_code 18 = .ok (.iconst 1, 1) := dw_row (j := 18) dw_h_method_7_code_0 rfl dw_b_L_sample_0.2.2.2.2.2.2.2.1
theorem dc_L_sample_19 : decode method_7_code 19 = .ok (.ireturn, 1) := dw_row (j := 19) dw_h_method_7_code_0 rfl dw_b_L_sample_0.2.2.2.2.2.2.2.2.1
theorem dc_L_sample_20 : decode method_7_code 20 = .ok (.astore 5, 2) := dw_row (j := 20) dw_h_method_7_code_0 rfl dw_b_L_sample_0.2.2.2.2.2.2.2.2.2.1
theorem dc_L_sample_22 : decode method_7_code 22 = .ok (.iconst 2, 1) := dw_row (j := 22) dw_h_method_7_code_0 rfl dw_b_L_sample_0.2.2.2.2.2.2.2.2.2.2.1
theorem dc_L_sample_23 : decode method_7_code 23 = .ok (.ireturn, 1) := dw_row (j := 23) dw_h_method_7_code_0 rfl dw_b_L_sample_0.2.2.2.2.2.2.2.2.2.2.2.1
theorem dc_L_sample_9 : decode method_7_code 9 = .ok (.i2l, 1) := dw_row (j := 9) dw_h_method_7_code_0 rfl dw_b_L_sample_0.2.2.2.2.2.2.2.2.2.2.2.2.1
theorem dc_L_sample_10 : decode method_7_code 10 = .ok (.putfield 13, 3) := dw_row (j := 10) dw_h_method_7_code_0 rfl dw_b_L_sample_0.2.2.2.2.2.2.2.2.2.2.2.2.2.1
theorem dc_L_sample_13 : decode method_7_code 13 = .ok (.goto 11, 3) := dw_row (j := 13) dw_h_method_7_code_0 rfl dw_b_L_sample_0.2.2.2.2.2.2.2.2.2.2.2.2.2.2.1
theorem dc_L_sample_24 : decode method_7_code 24 = .ok (.iconst 0, 1) := dw_row (j := 24) dw_h_method_7_code_0 rfl dw_b_L_sample_0.2.2.2.2.2.2.2.2.2.2.2.2.2.2.2.1
theorem dc_L_sample_25 : decode method_7_code 25 = .ok (.ireturn, 1) := dw_row (j := 25) dw_h_method_7_code_0 rfl dw_b_L_sample_0.2.2.2.2.2.2.2.2.2.2.2.2.2.2.2.2
def dw_C_method_8_code_0 : List UInt8 := [45, 42, 27, 28, 182, 0, 41, 133, 181, 0, 13, 167, 0, 7, 58, 4, 4, 172, 3, 172]
theorem dw_h_method_8_code_0 : (method_8_code.data.toList.drop 0).take 72 = dw_C_method_8_code_0 := by decide +kernel
theorem dw_b_L_copy_0 : dw_chk dw_C_method_8_code_0 0 0 (.aload_n 3) 1 = true ∧ dw_chk dw_C_method_8_code_0 1 1 (.aload_n 0) 1 = true ∧ dw_chk dw_C_method_8_code_0 2 2 (.iload_n 1) 1 = true ∧ dw_chk dw_C_method_8_code_0 3 3 (.iload_n 2) 1 = true ∧ dw_chk dw_C_method_8_code_0 4 4 (.invokevirtual 41) 3 = true ∧ dw_chk dw_C_method_8_code_0 14 14 (.astore 4) 2 = true ∧ dw_chk dw_C_method_8_code_0 16 16 (.iconst 1) 1 = true ∧ dw_chk dw_C_method_8_code_0 17 17 (.ireturn) 1 = true ∧ dw_chk dw_C_method_8_code_0 7 7 (.i2l) 1 = true ∧ dw_chk dw_C_method_8_code_0 8 8 (.putfield 13) 3 = true ∧ dw_chk dw_C_method_8_code_0 11 11 (.goto 7) 3 = true ∧ dw_chk dw_C_method_8_code_0 18 18 (.iconst 0) 1 = true ∧ dw_chk dw_C_method_8_code_0 19 19 (.ireturn) 1 = true := by decide +kernel
theorem dc_L_copy_0 : decode method_8_code 0 = .ok (.aload_n 3, 1) := dw_row (j := 0) dw_h_method_8_code_0 rfl dw_b_L_copy_0.1
theorem dc_L_copy_1 : decode method_8_code 1 = .ok (.aload_n 0, 1) := dw_row (j := 1) dw_h_method_8_code_0 rfl dw_b_L_copy_0.2.1
theorem dc_L_copy_2 : decode method_8_code 2 = .ok (.iload_n 1, 1) := dw_row (j := 2) dw_h_method_8_code_0 rfl dw_b_L_copy_0.2.2.1
theorem dc_L_copy_3 : decode method_8_code 3 = .ok (.iload_n 2, 1) := dw_row (j := 3) dw_h_method_8_code_0 rfl dw_b_L_copy_0.2.2.2.1
theorem dc_L_copy_4 : decode method_8_code 4 = .ok (.invokevirtual 41, 3) := dw_row (j := 4) dw_h_method_8_code_0 rfl dw_b_L_copy_0.2.2.2.2.1
theorem dc_L_copy_14 : decode method_8_code 14 = .ok (.astore 4, 2) := dw_row (j := 14) dw_h_method_8_code_0 rfl dw_b_L_copy_0.2.2.2.2.2.1
theorem dc_L_copy_16 : decode method_8_code 16 = .ok (.iconst 1, 1) := dw_row (j := 16) dw_h_method_8_code_0 rfl dw_b_L_copy_0.2.2.2.2.2.2.1
theorem dc_L_copy_17 : decode method_8_code 17 = .ok (.ireturn, 1) := dw_row (j := 17) dw_h_method_8_code_0 rfl dw_b_L_copy_0.2.2.2.2.2.2.2.1
theorem dc_L_copy_7 : decode method_8_code 7 = .ok (.i2l, 1) := dw_row (j := 7) dw_h_method_8_code_0 rfl dw_b_L_copy_0.2.2.2.2.2.2.2.2.1
theorem dc_L_copy_8 : decode method_8_code 8 = .ok (.putfield 13, 3) := dw_row (j := 8) dw_h_method_8_code_0 rfl dw_b_L_copy_0.2.2.2.2.2.2.2.2.2.1
theorem dc_L_copy_11 : decode method_8_code 11 = .ok (.goto 7, 3) := dw_row (j := 11) dw_h_method_8_code_0 rfl dw_b_L_copy_0.2.2.2.2.2.2.2.2.2.2.1
theorem dc_L_copy_18 : decode method_8_code 18 = .ok (.iconst 0, 1) := dw_row (j := 18) dw_h_method_8_code_0 rfl dw_b_L_copy_0.2.2.2.2.2.2.2.2.2.2.2.1
theorem dc_L_copy_19 : decode method_8_code 19 = .ok (.ireturn, 1) := dw_row (j := 19) dw_h_method_8_code_0 rfl dw_b_L_copy_0.2.2.2.2.2.2.2.2.2.2.2.2
def dw_C_method_9_code_0 : List UInt8 := [45, 42, 27, 28, 182, 0, 44, 133, 181, 0, 13, 167, 0, 7, 58, 4, 4, 172, 3, 172]
theorem dw_h_method_9_code_0 : (method_9_code.data.toList.drop 0).take 72 = dw_C_method_9_code_0 := by decide +kernel
theorem dw_b_L_swap_0 : dw_chk dw_C_method_9_code_0 0 0 (.aload_n 3) 1 = true ∧ dw_chk dw_C_method_9_code_0 1 1 (.aload_n 0) 1 = true ∧ dw_chk dw_C_method_9_code_0 2 2 (.iload_n 1) 1 = true ∧ dw_chk dw_C_method_9_code_0 3 3 (.iload_n 2) 1 = true ∧ dw_chk dw_C_method_9_code_0 4 4 (.invokevirtual 44) 3 = true ∧ dw_chk dw_C_method_9_code_0 14 14 (.astore 4) 2 = true ∧ dw_chk dw_C_method_9_code_0 16 16 (.iconst 1) 1 = true ∧ dw_chk dw_C_method_9_code_0 17 17 (.ireturn) 1 = true ∧ dw_chk dw_C_method_9_code_0 7 7 (.i2l) 1 = true ∧ dw_chk dw_C_method_9_code_0 8 8 (.putfield 13) 3 = true ∧ dw_chk dw_C_method_9_code_0 11 11 (.goto 7) 3 = true ∧ dw_chk dw_C_method_9_code_0 18 18 (.iconst 0) 1 = true ∧ dw_chk dw_C_method_9_code_0 19 19 (.ireturn) 1 = true := by decide +kernel
theorem dc_L_swap_0 : decode method_9_code 0 = .ok (.aload_n 3, 1) := dw_row (j := 0) dw_h_method_9_code_0 rfl dw_b_L_swap_0.1
theorem dc_L_swap_1 : decode method_9_code 1 = .ok (.aload_n 0, 1) := dw_row (j := 1) dw_h_method_9_code_0 rfl dw_b_L_swap_0.2.1
theorem dc_L_swap_2 : decode method_9_code 2 = .ok (.iload_n 1, 1) := dw_row (j := 2) dw_h_method_9_code_0 rfl dw_b_L_swap_0.2.2.1
theorem dc_L_swap_3 : decode method_9_code 3 = .ok (.iload_n 2, 1) := dw_row (j := 3) dw_h_method_9_code_0 rfl dw_b_L_swap_0.2.2.2.1
theorem dc_L_swap_4 : decode method_9_code 4 = .ok (.invokevirtual 44, 3) := dw_row (j := 4) dw_h_method_9_code_0 rfl dw_b_L_swap_0.2.2.2.2.1
theorem dc_L_swap_14 : decode method_9_code 14 = .ok (.astore 4, 2) := dw_row (j := 14) dw_h_method_9_code_0 rfl dw_b_L_swap_0.2.2.2.2.2.1
theorem dc_L_swap_16 : decode method_9_code 16 = .ok (.iconst 1, 1) := dw_row (j := 16) dw_h_method_9_code_0 rfl dw_b_L_swap_0.2.2.2.2.2.2.1
theorem dc_L_swap_17 : decode method_9_code 17 = .ok (.ireturn, 1) := dw_row (j := 17) dw_h_method_9_code_0 rfl dw_b_L_swap_0.2.2.2.2.2.2.2.1
theorem dc_L_swap_7 : decode method_9_code 7 = .ok (.i2l, 1) := dw_row (j := 7) dw_h_method_9_code_0 rfl dw_b_L_swap_0.2.2.2.2.2.2.2.2.1
theorem dc_L_swap_8 : decode method_9_code 8 = .ok (.putfield 13, 3) := dw_row (j := 8) dw_h_method_9_code_0 rfl dw_b_L_swap_0.2.2.2.2.2.2.2.2.2.1
theorem dc_L_swap_11 : decode method_9_code 11 = .ok (.goto 7, 3) := dw_row (j := 11) dw_h_method_9_code_0 rfl dw_b_L_swap_0.2.2.2.2.2.2.2.2.2.2.1
theorem dc_L_swap_18 : decode method_9_code 18 = .ok (.iconst 0, 1) := dw_row (j := 18) dw_h_method_9_code_0 rfl dw_b_L_swap_0.2.2.2.2.2.2.2.2.2.2.2.1
theorem dc_L_swap_19 : decode method_9_code 19 = .ok (.ireturn, 1) := dw_row (j := 19) dw_h_method_9_code_0 rfl dw_b_L_swap_0.2.2.2.2.2.2.2.2.2.2.2.2
def dw_C_method_10_code_0 : List UInt8 := [45, 42, 27, 28, 182, 0, 47, 133, 181, 0, 13, 167, 0, 7, 58, 4, 4, 172, 3, 172]
theorem dw_h_method_10_code_0 : (method_10_code.data.toList.drop 0).take 72 = dw_C_method_10_code_0 := by decide +kernel
theorem dw_b_L_floor_0 : dw_chk dw_C_method_10_code_0 0 0 (.aload_n 3) 1 = true ∧ dw_chk dw_C_method_10_code_0 1 1 (.aload_n 0) 1 = true ∧ dw_chk dw_C_method_10_code_0 2 2 (.iload_n 1) 1 = true ∧ dw_chk dw_C_method_10_code_0 3 3 (.iload_n 2) 1 = true ∧ dw_chk dw_C_method_10_code_0 4 4 (.invokevirtual 47) 3 = true ∧ dw_chk dw_C_method_10_code_0 14 14 (.astore 4) 2 = true ∧ dw_chk dw_C_method_10_code_0 16 16 (.iconst 1) 1 = true ∧ dw_chk dw_C_method_10_code_0 17 17 (.ireturn) 1 = true ∧ dw_chk dw_C_method_10_code_0 7 7 (.i2l) 1 = true ∧ dw_chk dw_C_method_10_code_0 8 8 (.putfield 13) 3 = true ∧ dw_chk dw_C_method_10_code_0 11 11 (.goto 7) 3 = true ∧ dw_chk dw_C_method_10_code_0 18 18 (.iconst 0) 1 = true ∧ dw_chk dw_C_method_10_code_0 19 19 (.ireturn) 1 = true := by decide +kernel
theorem dc_L_floor_0 : decode method_10_code 0 = .ok (.aload_n 3, 1) := dw_row (j := 0) dw_h_method_10_code_0 rfl dw_b_L_floor_0.1
theorem dc_L_floor_1 : decode method_10_code 1 = .ok (.aload_n 0, 1) := dw_row (j := 1) dw_h_method_10_code_0 rfl dw_b_L_floor_0.2.1
theorem dc_L_floor_2 : decode method_10_code 2 = .ok (.iload_n 1, 1) := dw_row (j := 2) dw_h_method_10_code_0 rfl dw_b_L_floor_0.2.2.1
theorem dc_L_floor_3 : decode method_10_code 3 = .ok (.iload_n 2, 1) := dw_row (j := 3) dw_h_method_10_code_0 rfl dw_b_L_floor_0.2.2.2.1
theorem dc_L_floor_4 : decode method_10_code 4 = .ok (.invokevirtual 47, 3) := dw_row (j := 4) dw_h_method_10_code_0 rfl dw_b_L_floor_0.2.2.2.2.1
theorem dc_L_floor_14 : decode method_10_code 14 = .ok (.astore 4, 2) := dw_row (j := 14) dw_h_method_10_code_0 rfl dw_b_L_floor_0.2.2.2.2.2.1
theorem dc_L_floor_16 : decode method_10_code 16 = .ok (.iconst 1, 1) := dw_row (j := 16) dw_h_method_10_code_0 rfl dw_b_L_floor_0.2.2.2.2.2.2.1
theorem dc_L_floor_17 : decode method_10_code 17 = .ok (.ireturn, 1) := dw_row (j := 17) dw_h_method_10_code_0 rfl dw_b_L_floor_0.2.2.2.2.2.2.2.1
theorem dc_L_floor_7 : decode method_10_code 7 = .ok (.i2l, 1) := dw_row (j := 7) dw_h_method_10_code_0 rfl dw_b_L_floor_0.2.2.2.2.2.2.2.2.1
theorem dc_L_floor_8 : decode method_10_code 8 = .ok (.putfield 13, 3) := dw_row (j := 8) dw_h_method_10_code_0 rfl dw_b_L_floor_0.2.2.2.2.2.2.2.2.2.1
theorem dc_L_floor_11 : decode method_10_code 11 = .ok (.goto 7, 3) := dw_row (j := 11) dw_h_method_10_code_0 rfl dw_b_L_floor_0.2.2.2.2.2.2.2.2.2.2.1
theorem dc_L_floor_18 : decode method_10_code 18 = .ok (.iconst 0, 1) := dw_row (j := 18) dw_h_method_10_code_0 rfl dw_b_L_floor_0.2.2.2.2.2.2.2.2.2.2.2.1
theorem dc_L_floor_19 : decode method_10_code 19 = .ok (.ireturn, 1) := dw_row (j := 19) dw_h_method_10_code_0 rfl dw_b_L_floor_0.2.2.2.2.2.2.2.2.2.2.2.2
def dw_C_method_11_code_0 : List UInt8 := [45, 42, 27, 28, 182, 0, 50, 133, 181, 0, 13, 167, 0, 7, 58, 4, 4, 172, 3, 172]
theorem dw_h_method_11_code_0 : (method_11_code.data.toList.drop 0).take 72 = dw_C_method_11_code_0 := by decide +kernel
theorem dw_b_L_ceil_0 : dw_chk dw_C_method_11_code_0 0 0 (.aload_n 3) 1 = true ∧ dw_chk dw_C_method_11_code_0 1 1 (.aload_n 0) 1 = true ∧ dw_chk dw_C_method_11_code_0 2 2 (.iload_n 1) 1 = true ∧ dw_chk dw_C_method_11_code_0 3 3 (.iload_n 2) 1 = true ∧ dw_chk dw_C_method_11_code_0 4 4 (.invokevirtual 50) 3 = true ∧ dw_chk dw_C_method_11_code_0 14 14 (.astore 4) 2 = true ∧ dw_chk dw_C_method_11_code_0 16 16 (.iconst 1) 1 = true ∧ dw_chk dw_C_method_11_code_0 17 17 (.ireturn) 1 = true ∧ dw_chk dw_C_method_11_code_0 7 7 (.i2l) 1 = true ∧ dw_chk dw_C_method_11_code_0 8 8 (.putfield 13) 3 = true ∧ dw_chk dw_C_method_11_code_0 11 11 (.goto 7) 3 = true ∧ dw_chk dw_C_method_11_code_0 18 18 (.iconst 0) 1 = true ∧ dw_chk dw_C_method_11_code_0 19 19 (.ireturn) 1 = true := by decide +kernel
theorem dc_L_ceil_0 : decode method_11_code 0 = .ok (.aload_n 3, 1) := dw_row (j := 0) dw_h_method_11_code_0 rfl dw_b_L_ceil_0.1
theorem dc_L_ceil_1 : decode method_11_code 1 = .ok (.aload_n 0, 1) := dw_row (j := 1) dw_h_method_11_code_0 rfl dw_b_L_ceil_0.2.1
theorem dc_L_ceil_2 : decode method_11_code 2 = .ok (.iload_n 1, 1) := dw_row (j := 2) dw_h_method_11_code_0 rfl dw_b_L_ceil_0.2.2.1
theorem dc_L_ceil_3 : decode method_11_code 3 = .ok (.iload_n 2, 1) := dw_row (j := 3) dw_h_method_11_code_0 rfl dw_b_L_ceil_0.2.2.2.1
theorem dc_L_ceil_4 : decode method_11_code 4 = .ok (.invokevirtual 50, 3) := dw_row (j := 4) dw_h_method_11_code_0 rfl dw_b_L_ceil_0.2.2.2.2.1
theorem dc_L_ceil_14 : decode method_11_code 14 = .ok (.astore 4, 2) := dw_row (j := 14) dw_h_method_11_code_0 rfl dw_b_L_ceil_0.2.2.2.2.2.1
theorem dc_L_ceil_16 : decode method_11_code 16 = .ok (.iconst 1, 1) := dw_row (j := 16) dw_h_method_11_code_0 rfl dw_b_L_ceil_0.2.2.2.2.2.2.1
theorem dc_L_ceil_17 : decode method_11_code 17 = .ok (.ireturn, 1) := dw_row (j := 17) dw_h_method_11_code_0 rfl dw_b_L_ceil_0.2.2.2.2.2.2.2.1
theorem dc_L_ceil_7 : decode method_11_code 7 = .ok (.i2l, 1) := dw_row (j := 7) dw_h_method_11_code_0 rfl dw_b_L_ceil_0.2.2.2.2.2.2.2.2.1
theorem dc_L_ceil_8 : decode method_11_code 8 = .ok (.putfield 13, 3) := dw_row (j := 8) dw_h_method_11_code_0 rfl dw_b_L_ceil_0.2.2.2.2.2.2.2.2.2.1
theorem dc_L_ceil_11 : decode method_11_code 11 = .ok (.goto 7, 3) := dw_row (j := 11) dw_h_method_11_code_0 rfl dw_b_L_ceil_0.2.2.2.2.2.2.2.2.2.2.1
theorem dc_L_ceil_18 : decode method_11_code 18 = .ok (.iconst 0, 1) := dw_row (j := 18) dw_h_method_11_code_0 rfl dw_b_L_ceil_0.2.2.2.2.2.2.2.2.2.2.2.1
theorem dc_L_ceil_19 : decode method_11_code 19 = .ok (.ireturn, 1) := dw_row (j := 19) dw_h_method_11_code_0 rfl dw_b_L_ceil_0.2.2.2.2.2.2.2.2.2.2.2.2
def dw_C_method_12_code_0 : List UInt8 := [45, 42, 27, 28, 182, 0, 53, 133, 181, 0, 13, 167, 0, 7, 58, 4, 4, 172, 3, 172]
theorem dw_h_method_12_code_0 : (method_12_code.data.toList.drop 0).take 72 = dw_C_method_12_code_0 := by decide +kernel
theorem dw_b_L_rint_0 : dw_chk dw_C_method_12_code_0 0 0 (.aload_n 3) 1 = true ∧ dw_chk dw_C_method_12_code_0 1 1 (.aload_n 0) 1 = true ∧ dw_chk dw_C_method_12_code_0 2 2 (.iload_n 1) 1 = true ∧ dw_chk dw_C_method_12_code_0 3 3 (.iload_n 2) 1 = true ∧ dw_chk dw_C_method_12_code_0 4 4 (.invokevirtual 53) 3 = true ∧ dw_chk dw_C_method_12_code_0 14 14 (.astore 4) 2 = true ∧ dw_chk dw_C_method_12_code_0 16 16 (.iconst 1) 1 = true ∧ dw_chk dw_C_method_12_code_0 17 17 (.ireturn) 1 = true ∧ dw_chk dw_C_method_12_code_0 7 7 (.i2l) 1 = true ∧ dw_chk dw_C_method_12_code_0 8 8 (.putfield 13) 3 = true ∧ dw_chk dw_C_method_12_code_0 11 11 (.goto 7) 3 = true ∧ dw_chk dw_C_method_12_code_0 18 18 (.iconst 0) 1 = true ∧ dw_chk dw_C_method_12_code_0 19 19 (.ireturn) 1 = true := by decide +kernel
theorem dc_L_rint_0 : decode method_12_code 0 = .ok (.aload_n 3, 1) := dw_row (j := 0) dw_h_method_12_code_0 rfl dw_b_L_rint_0.1
theorem dc_L_rint_1 : decode method_12_code 1 = .ok (.aload_n 0, 1) := dw_row (j := 1) dw_h_method_12_code_0 rfl dw_b_L_rint_0.2.1
theorem dc_L_rint_2 : decode method_12_code 2 = .ok (.iload_n 1, 1) := dw_row (j := 2) dw_h_method_12_code_0 rfl dw_b_L_rint_0.2.2.1
theorem dc_L_rint_3 : decode method_12_code 3 = .ok (.iload_n 2, 1) := dw_row (j := 3) dw_h_method_12_code_0 rfl dw_b_L_rint_0.2.2.2.1
theorem dc_L_rint_4 : decode method_12_code 4 = .ok (.invokevirtual 53, 3) := dw_row (j := 4) dw_h_method_12_code_0 rfl dw_b_L_rint_0.2.2.2.2.1
theorem dc_L_rint_14 : decode method_12_code 14 = .ok (.astore 4, 2) := dw_row (j := 14) dw_h_method_12_code_0 rfl dw_b_L_rint_0.2.2.2.2.2.1
theorem dc_L_rint_16 : decode method_12_code 16 = .ok (.iconst 1, 1) := dw_row (j := 16) dw_h_method_12_code_0 rfl dw_b_L_rint_0.2.2.2.2.2.2.1
theorem dc_L_rint_17 : decode method_12_code 17 = .ok (.ireturn, 1) := dw_row (j := 17) dw_h_method_12_code_0 rfl dw_b_L_rint_0.2.2.2.2.2.2.2.1
theorem dc_L_rint_7 : decode method_12_code 7 = .ok (.i2l, 1) := dw_row (j := 7) dw_h_method_12_code_0 rfl dw_b_L_rint_0.2.2.2.2.2.2.2.2.1
theorem dc_L_rint_8 : decode method_12_code 8 = .ok (.putfield 13, 3) := dw_row (j := 8) dw_h_method_12_code_0 rfl dw_b_L_rint_0.2.2.2.2.2.2.2.2.2.1
theorem dc_L_rint_11 : decode method_12_code 11 = .ok (.goto 7, 3) := dw_row (j := 11) dw_h_method_12_code_0 rfl dw_b_L_rint_0.2.2.2.2.2.2.2.2.2.2.1
theorem dc_L_rint_18 : decode method_12_code 18 = .ok (.iconst 0, 1) := dw_row (j := 18) dw_h_method_12_code_0 rfl dw_b_L_rint_0.2.2.2.2.2.2.2.2.2.2.2.1
theorem dc_L_rint_19 : decode method_12_code 19 = .ok (.ireturn, 1) := dw_row (j := 19) dw_h_method_12_code_0 rfl dw_b_L_rint_0.2.2.2.2.2.2.2.2.2.2.2.2
def dw_C_method_13_code_0 : List UInt8 := [45, 42, 27, 28, 182, 0, 56, 133, 181, 0, 13, 167, 0, 7, 58, 4, 4, 172, 3, 172]
theorem dw_h_method_13_code_0 : (method_13_code.data.toList.drop 0).take 72 = dw_C_method_13_code_0 := by decide +kernel
theorem dw_b_L_size_0 : dw_chk dw_C_method_13_code_0 0 0 (.aload_n 3) 1 = true ∧ dw_chk dw_C_method_13_code_0 1 1 (.aload_n 0) 1 = true ∧ dw_chk dw_C_method_13_code_0 2 2 (.iload_n 1) 1 = true ∧ dw_chk dw_C_method_13_code_0 3 3 (.iload_n 2) 1 = true ∧ dw_chk dw_C_method_13_code_0 4 4 (.invokevirtual 56) 3 = true ∧ dw_chk dw_C_method_13_code_0 14 14 (.astore 4) 2 = true ∧ dw_chk dw_C_method_13_code_0 16 16 (.iconst 1) 1 = true ∧ dw_chk dw_C_method_13_code_0 17 17 (.ireturn) 1 = true ∧ dw_chk dw_C_method_13_code_0 7 7 (.i2l) 1 = true ∧ dw_chk dw_C_method_13_code_0 8 8 (.putfield 13) 3 = true ∧ dw_chk dw_C_method_13_code_0 11 11 (.goto 7) 3 = true ∧ dw_chk dw_C_method_13_code_0 18 18 (.iconst 0) 1 = true ∧ dw_chk dw_C_method_13_code_0 19 19 (.ireturn) 1 = true := by decide +kernel
theorem dc_L_size_0 : decode method_13_code 0 = .ok (.aload_n 3, 1) := dw_row (j := 0) dw_h_method_13_code_0 rfl dw_b_L_size_0.1
theorem dc_L_size_1 : decode method_13_code 1 = .ok (.aload_n 0, 1) := dw_row (j := 1) dw_h_method_13_code_0 rfl dw_b_L_size_0.2.1
theorem dc_L_size_2 : decode method_13_code 2 = .ok (.iload_n 1, 1) := dw_row (j := 2) dw_h_method_13_code_0 rfl dw_b_L_size_0.2.2.1
theorem dc_L_size_3 : decode method_13_code 3 = .ok (.iload_n 2, 1) := dw_row (j := 3) dw_h_method_13_code_0 rfl dw_b_L_size_0.2.2.2.1
theorem dc_L_size_4 : decode method_13_code 4 = .ok (.invokevirtual 56, 3) := dw_row (j := 4) dw_h_method_13_code_0 rfl dw_b_L_size_0.2.2.2.2.1
theorem dc_L_size_14 : decode method_13_code 14 = .ok (.astore 4, 2) := dw_row (j := 14) dw_h_method_13_code_0 rfl dw_b_L_size_0.2.2.2.2.2.1
theorem dc_L_size_16 : decode method_13_code 16 = .ok (.iconst 1, 1) := dw_row (j := 16) dw_h_method_13_code_0 rfl dw_b_L_size_0.2.2.2.2.2.2.1
theorem dc_L_size_17 : decode method_13_code 17 = .ok (.ireturn, 1) := dw_row (j := 17) dw_h_method_13_code_0 rfl dw_b_L_size_0.2.2.2.2.2.2.2.1
theorem dc_L_size_7 : decode method_13_code 7 = .ok (.i2l, 1) := dw_row (j := 7) dw_h_method_13_code_0 rfl dw_b_L_size_0.2.2.2.2.2.2.2.2.1
theorem dc_L_size_8 : decode method_13_code 8 = .ok (.putfield 13, 3) := dw_row (j := 8) dw_h_method_13_code_0 rfl dw_b_L_size_0.2.2.2.2.2.2.2.2.2.1
theorem dc_L_size_11 : decode method_13_code 11 = .ok (.goto 7, 3) := dw_row (j := 11) dw_h_method_13_code_0 rfl dw_b_L_size_0.2.2.2.2.2.2.2.2.2.2.1
theorem dc_L_size_18 : decode method_13_code 18 = .ok (.iconst 0, 1) := dw_row (j := 18) dw_h_method_13_code_0 rfl dw_b_L_size_0.2.2.2.2.2.2.2.2.2.2.2.1
theorem dc_L_size_19 : decode method_13_code 19 = .ok (.ireturn, 1) := dw_row (j := 19) dw_h_method_13_code_0 rfl dw_b_L_size_0.2.2.2.2.2.2.2.2.2.2.2.2
def dw_C_method_14_code_0 : List UInt8 := [45, 42, 27, 28, 182, 0, 59, 133, 181, 0, 13, 167, 0, 7, 58, 4, 4, 172, 3, 172]
theorem dw_h_method_14_code_0 : (method_14_code.data.toList.drop 0).take 72 = dw_C_method_14_code_0 := by decide +kernel
theorem dw_b_L_turn_0 : dw_chk dw_C_method_14_code_0 0 0 (.aload_n 3) 1 = true ∧ dw_chk dw_C_method_14_code_0 1 1 (.aload_n 0) 1 = true ∧ dw_chk dw_C_method_14_code_0 2 2 (.iload_n 1) 1 = true ∧ dw_chk dw_C_method_14_code_0 3 3 (.iload_n 2) 1 = true ∧ dw_chk dw_C_method_14_code_0 4 4 (.invokevirtual 59) 3 = true ∧ dw_chk dw_C_method_14_code_0 14 14 (.astore 4) 2 = true ∧ dw_chk dw_C_method_14_code_0 16 16 (.iconst 1) 1 = true ∧ dw_chk dw_C_method_14_code_0 17 17 (.ireturn) 1 = true ∧ dw_chk dw_C_method_14_code_0 7 7 (.i2l) 1 = true ∧ dw_chk dw_C_method_14_code_0 8 8 (.putfield 13) 3 = true ∧ dw_chk dw_C_method_14_code_0 11 11 (.goto 7) 3 = true ∧ dw_chk dw_C_method_14_code_0 18 18 (.iconst 0) 1 = true ∧ dw_chk dw_C_method_14_code_0 19 19 (.ireturn) 1 = true := by decide +kernel
theorem dc_L_turn_0 : decode method_14_code 0 = .ok (.aload_n 3, 1) := dw_row (j := 0) dw_h_method_14_code_0 rfl dw_b_L_turn_0.1
theorem dc_L_turn_1 : decode method_14_code 1 = .ok (.aload_n 0, 1) := dw_row (j := 1) dw_h_method_14_code_0 rfl dw_b_L_turn_0.2.1
theorem dc_L_turn_2 : decode method_14_code 2 = .ok (.iload_n 1, 1) := dw_row (j := 2) dw_h_method_14_code_0 rfl dw_b_L_turn_0.2.2.1
theorem dc_L_turn_3 : decode method_14_code 3 = .ok (.iload_n 2, 1) := dw_row (j := 3) dw_h_method_14_code_0 rfl dw_b_L_turn_0.2.2.2.1
theorem dc_L_turn_4 : decode method_14_code 4 = .ok (.invokevirtual 59, 3) := dw_row (j := 4) dw_h_method_14_code_0 rfl dw_b_L_turn_0.2.2.2.2.1
theorem dc_L_turn_14 : decode method_14_code 14 = .ok (.astore 4, 2) := dw_row (j := 14) dw_h_method_14_code_0 rfl dw_b_L_turn_0.2.2.2.2.2.1
theorem dc_L_turn_16 : decode method_14_code 16 = .ok (.iconst 1, 1) := dw_row (j := 16) dw_h_method_14_code_0 rfl dw_b_L_turn_0.2.2.2.2.2.2.1
theorem dc_L_turn_17 : decode method_14_code 17 = .ok (.ireturn, 1) := dw_row (j := 17) dw_h_method_14_code_0 rfl dw_b_L_turn_0.2.2.2.2.2.2.2.1
theorem dc_L_turn_7 : decode method_14_code 7 = .ok (.i2l, 1) := dw_row (j := 7) dw_h_method_14_code_0 rfl dw_b_L_turn_0.2.2.2.2.2.2.2.2.1
theorem dc_L_turn_8 : decode method_14_code 8 = .ok (.putfield 13, 3) := dw_row (j := 8) dw_h_method_14_code_0 rfl dw_b_L_turn_0.2.2.2.2.2.2.2.2.2.1
theorem dc_L_turn_11 : decode method_14_code 11 = .ok (.goto 7, 3) := dw_row (j := 11) dw_h_method_14_code_0 rfl dw_b_L_turn_0.2.2.2.2.2.2.2.2.2.2.1
theorem dc_L_turn_18 : decode method_14_code 18 = .ok (.iconst 0, 1) := dw_row (j := 18) dw_h_method_14_code_0 rfl dw_b_L_turn_0.2.2.2.2.2.2.2.2.2.2.2.1
theorem dc_L_turn_19 : decode method_14_code 19 = .ok (.ireturn, 1) := dw_row (j := 19) dw_h_method_14_code_0 rfl dw_b_L_turn_0.2.2.2.2.2.2.2.2.2.2.2.2
def dw_C_method_15_code_0 : List UInt8 := [45, 42, 27, 28, 182, 0, 62, 133, 181, 0, 13, 167, 0, 7, 58, 4, 4, 172, 3, 172]
theorem dw_h_method_15_code_0 : (method_15_code.data.toList.drop 0).take 72 = dw_C_method_15_code_0 := by decide +kernel
theorem dw_b_L_sign_0 : dw_chk dw_C_method_15_code_0 0 0 (.aload_n 3) 1 = true ∧ dw_chk dw_C_method_15_code_0 1 1 (.aload_n 0) 1 = true ∧ dw_chk dw_C_method_15_code_0 2 2 (.iload_n 1) 1 = true ∧ dw_chk dw_C_method_15_code_0 3 3 (.iload_n 2) 1 = true ∧ dw_chk dw_C_method_15_code_0 4 4 (.invokevirtual 62) 3 = true ∧ dw_chk dw_C_method_15_code_0 14 14 (.astore 4) 2 = true ∧ dw_chk dw_C_method_15_code_0 16 16 (.iconst 1) 1 = true ∧ dw_chk dw_C_method_15_code_0 17 17 (.ireturn) 1 = true ∧ dw_chk dw_C_method_15_code_0 7 7 (.i2l) 1 = true ∧ dw_chk dw_C_method_15_code_0 8 8 (.putfield 13) 3 = true ∧ dw_chk dw_C_method_15_code_0 11 11 (.goto 7) 3 = true ∧ dw_chk dw_C_method_15_code_0 18 18 (.iconst 0) 1 = true ∧ dw_chk dw_C_method_15_code_0 19 19 (.ireturn) 1 = true := by decide +kernel
theorem dc_L_sign_0 : decode method_15_code 0 = .ok (.aload_n 3, 1) := dw_row (j := 0) dw_h_method_15_code_0 rfl dw_b_L_sign_0.1
theorem dc_L_sign_1 : decode method_15_code 1 = .ok (.aload_n 0, 1) := dw_row (j := 1) dw_h_method_15_code_0 rfl dw_b_L_sign_0.2.1
theorem dc_L_sign_2 : decode method_15_code 2 = .ok (.iload_n 1, 1) := dw_row (j := 2) dw_h_method_15_code_0 rfl dw_b_L_sign_0.2.2.1
theorem dc_L_sign_3 : decode method_15_code 3 = .ok (.iload_n 2, 1) := dw_row (j := 3) dw_h_method_15_code_0 rfl dw_b_L_sign_0.2.2.2.1
theorem dc_L_sign_4 : decode method_15_code 4 = .ok (.invokevirtual 62, 3) := dw_row (j := 4) dw_h_method_15_code_0 rfl dw_b_L_sign_0.2.2.2.2.1
theorem dc_L_sign_14 : decode method_15_code 14 = .ok (.astore 4, 2) := dw_row (j := 14) dw_h_method_15_code_0 rfl dw_b_L_sign_0.2.2.2.2.2.1
theorem dc_L_sign_16 : decode method_15_code 16 = .ok (.iconst 1, 1) := dw_row (j := 16) dw_h_method_15_code_0 rfl dw_b_L_sign_0.2.2.2.2.2.2.1
theorem dc_L_sign_17 : decode method_15_code 17 = .ok (.ireturn, 1) := dw_row (j := 17) dw_h_method_15_code_0 rfl dw_b_L_sign_0.2.2.2.2.2.2.2.1
theorem dc_L_sign_7 : decode method_15_code 7 = .ok (.i2l, 1) := dw_row (j := 7) dw_h_method_15_code_0 rfl dw_b_L_sign_0.2.2.2.2.2.2.2.2.1
theorem dc_L_sign_8 : decode method_15_code 8 = .ok (.putfield 13, 3) := dw_row (j := 8) dw_h_method_15_code_0 rfl dw_b_L_sign_0.2.2.2.2.2.2.2.2.2.1
theorem dc_L_sign_11 : decode method_15_code 11 = .ok (.goto 7, 3) := dw_row (j := 11) dw_h_method_15_code_0 rfl dw_b_L_sign_0.2.2.2.2.2.2.2.2.2.2.1
theorem dc_L_sign_18 : decode method_15_code 18 = .ok (.iconst 0, 1) := dw_row (j := 18) dw_h_method_15_code_0 rfl dw_b_L_sign_0.2.2.2.2.2.2.2.2.2.2.2.1
theorem dc_L_sign_19 : decode method_15_code 19 = .ok (.ireturn, 1) := dw_row (j := 19) dw_h_method_15_code_0 rfl dw_b_L_sign_0.2.2.2.2.2.2.2.2.2.2.2.2
def dw_C_method_16_code_0 : List UInt8 := [45, 42, 27, 28, 182, 0, 65, 133, 181, 0, 13, 167, 0, 7, 58, 4, 4, 172, 3, 172]
theorem dw_h_method_16_code_0 : (method_16_code.data.toList.drop 0).take 72 = dw_C_method_16_code_0 := by decide +kernel
theorem dw_b_L_up_0 : dw_chk dw_C_method_16_code_0 0 0 (.aload_n 3) 1 = true ∧ dw_chk dw_C_method_16_code_0 1 1 (.aload_n 0) 1 = true ∧ dw_chk dw_C_method_16_code_0 2 2 (.iload_n 1) 1 = true ∧ dw_chk dw_C_method_16_code_0 3 3 (.iload_n 2) 1 = true ∧ dw_chk dw_C_method_16_code_0 4 4 (.invokevirtual 65) 3 = true ∧ dw_chk dw_C_method_16_code_0 14 14 (.astore 4) 2 = true ∧ dw_chk dw_C_method_16_code_0 16 16 (.iconst 1) 1 = true ∧ dw_chk dw_C_method_16_code_0 17 17 (.ireturn) 1 = true ∧ dw_chk dw_C_method_16_code_0 7 7 (.i2l) 1 = true ∧ dw_chk dw_C_method_16_code_0 8 8 (.putfield 13) 3 = true ∧ dw_chk dw_C_method_16_code_0 11 11 (.goto 7) 3 = true ∧ dw_chk dw_C_method_16_code_0 18 18 (.iconst 0) 1 = true ∧ dw_chk dw_C_method_16_code_0 19 19 (.ireturn) 1 = true := by decide +kernel
theorem dc_L_up_0 : decode method_16_code 0 = .ok (.aload_n 3, 1) := dw_row (j := 0) dw_h_method_16_code_0 rfl dw_b_L_up_0.1
theorem dc_L_up_1 : decode method_16_code 1 = .ok (.aload_n 0, 1) := dw_row (j := 1) dw_h_method_16_code_0 rfl dw_b_L_up_0.2.1
theorem dc_L_up_2 : decode method_16_code 2 = .ok (.iload_n 1, 1) := dw_row (j := 2) dw_h_method_16_code_0 rfl dw_b_L_up_0.2.2.1
theorem dc_L_up_3 : decode method_16_code 3 = .ok (.iload_n 2, 1) := dw_row (j := 3) dw_h_method_16_code_0 rfl dw_b_L_up_0.2.2.2.1
theorem dc_L_up_4 : decode method_16_code 4 = .ok (.invokevirtual 65, 3) := dw_row (j := 4) dw_h_method_16_code_0 rfl dw_b_L_up_0.2.2.2.2.1
theorem dc_L_up_14 : decode method_16_code 14 = .ok (.astore 4, 2) := dw_row (j := 14) dw_h_method_16_code_0 rfl dw_b_L_up_0.2.2.2.2.2.1
theorem dc_L_up_16 : decode method_16_code 16 = .ok (.iconst 1, 1) := dw_row (j := 16) dw_h_method_16_code_0 rfl dw_b_L_up_0.2.2.2.2.2.2.1
theorem dc_L_up_17 : decode method_16_code 17 = .ok (.ireturn, 1) := dw_row (j := 17) dw_h_method_16_code_0 rfl dw_b_L_up_0.2.2.2.2.2.2.2.1
theorem dc_L_up_7 : decode method_16_code 7 = .ok (.i2l, 1) := dw_row (j := 7) dw_h_method_16_code_0 rfl dw_b_L_up_0.2.2.2.2.2.2.2.2.1
theorem dc_L_up_8 : decode method_16_code 8 = .ok (.putfield 13, 3) := dw_row (j := 8) dw_h_method_16_code_0 rfl dw_b_L_up_0.2.2.2.2.2.2.2.2.2.1
theorem dc_L_up_11 : decode method_16_code 11 = .ok (.goto 7, 3) := dw_row (j := 11) dw_h_method_16_code_0 rfl dw_b_L_up_0.2.2.2.2.2.2.2.2.2.2.1
theorem dc_L_up_18 : decode method_16_code 18 = .ok (.iconst 0, 1) := dw_row (j := 18) dw_h_method_16_code_0 rfl dw_b_L_up_0.2.2.2.2.2.2.2.2.2.2.2.1
theorem dc_L_up_19 : decode method_16_code 19 = .ok (.ireturn, 1) := dw_row (j := 19) dw_h_method_16_code_0 rfl dw_b_L_up_0.2.2.2.2.2.2.2.2.2.2.2.2
def dw_C_method_17_code_0 : List UInt8 := [45, 42, 27, 28, 182, 0, 68, 133, 181, 0, 13, 167, 0, 7, 58, 4, 4, 172, 3, 172]
theorem dw_h_method_17_code_0 : (method_17_code.data.toList.drop 0).take 72 = dw_C_method_17_code_0 := by decide +kernel
theorem dw_b_L_down_0 : dw_chk dw_C_method_17_code_0 0 0 (.aload_n 3) 1 = true ∧ dw_chk dw_C_method_17_code_0 1 1 (.aload_n 0) 1 = true ∧ dw_chk dw_C_method_17_code_0 2 2 (.iload_n 1) 1 = true ∧ dw_chk dw_C_method_17_code_0 3 3 (.iload_n 2) 1 = true ∧ dw_chk dw_C_method_17_code_0 4 4 (.invokevirtual 68) 3 = true ∧ dw_chk dw_C_method_17_code_0 14 14 (.astore 4) 2 = true ∧ dw_chk dw_C_method_17_code_0 16 16 (.iconst 1) 1 = true ∧ dw_chk dw_C_method_17_code_0 17 17 (.ireturn) 1 = true ∧ dw_chk dw_C_method_17_code_0 7 7 (.i2l) 1 = true ∧ dw_chk dw_C_method_17_code_0 8 8 (.putfield 13) 3 = true ∧ dw_chk dw_C_method_17_code_0 11 11 (.goto 7) 3 = true ∧ dw_chk dw_C_method_17_code_0 18 18 (.iconst 0) 1 = true ∧ dw_chk dw_C_method_17_code_0 19 19 (.ireturn) 1 = true := by decide +kernel
theorem dc_L_down_0 : decode method_17_code 0 = .ok (.aload_n 3, 1) := dw_row (j := 0) dw_h_method_17_code_0 rfl dw_b_L_down_0.1
theorem dc_L_down_1 : decode method_17_code 1 = .ok (.aload_n 0, 1) := dw_row (j := 1) dw_h_method_17_code_0 rfl dw_b_L_down_0.2.1
theorem dc_L_down_2 : decode method_17_code 2 = .ok (.iload_n 1, 1) := dw_row (j := 2) dw_h_method_17_code_0 rfl dw_b_L_down_0.2.2.1
theorem dc_L_down_3 : decode method_17_code 3 = .ok (.iload_n 2, 1) := dw_row (j := 3) dw_h_method_17_code_0 rfl dw_b_L_down_0.2.2.2.1
theorem dc_L_down_4 : decode method_17_code 4 = .ok (.invokevirtual 68, 3) := dw_row (j := 4) dw_h_method_17_code_0 rfl dw_b_L_down_0.2.2.2.2.1
theorem dc_L_down_14 : decode method_17_code 14 = .ok (.astore 4, 2) := dw_row (j := 14) dw_h_method_17_code_0 rfl dw_b_L_down_0.2.2.2.2.2.1
theorem dc_L_down_16 : decode method_17_code 16 = .ok (.iconst 1, 1) := dw_row (j := 16) dw_h_method_17_code_0 rfl dw_b_L_down_0.2.2.2.2.2.2.1
theorem dc_L_down_17 : decode method_17_code 17 = .ok (.ireturn, 1) := dw_row (j := 17) dw_h_method_17_code_0 rfl dw_b_L_down_0.2.2.2.2.2.2.2.1
theorem dc_L_down_7 : decode method_17_code 7 = .ok (.i2l, 1) := dw_row (j := 7) dw_h_method_17_code_0 rfl dw_b_L_down_0.2.2.2.2.2.2.2.2.1
theorem dc_L_down_8 : decode method_17_code 8 = .ok (.putfield 13, 3) := dw_row (j := 8) dw_h_method_17_code_0 rfl dw_b_L_down_0.2.2.2.2.2.2.2.2.2.1
theorem dc_L_down_11 : decode method_17_code 11 = .ok (.goto 7, 3) := dw_row (j := 11) dw_h_method_17_code_0 rfl dw_b_L_down_0.2.2.2.2.2.2.2.2.2.2.1
theorem dc_L_down_18 : decode method_17_code 18 = .ok (.iconst 0, 1) := dw_row (j := 18) dw_h_method_17_code_0 rfl dw_b_L_down_0.2.2.2.2.2.2.2.2.2.2.2.1
theorem dc_L_down_19 : decode method_17_code 19 = .ok (.ireturn, 1) := dw_row (j := 19) dw_h_method_17_code_0 rfl dw_b_L_down_0.2.2.2.2.2.2.2.2.2.2.2.2
def dw_C_method_18_code_0 : List UInt8 := [45, 42, 27, 28, 182, 0, 71, 133, 181, 0, 13, 167, 0, 7, 58, 4, 4, 172, 3, 172]
theorem dw_h_method_18_code_0 : (method_18_code.data.toList.drop 0).take 72 = dw_C_method_18_code_0 := by decide +kernel
theorem dw_b_L_step_0 : dw_chk dw_C_method_18_code_0 0 0 (.aload_n 3) 1 = true ∧ dw_chk dw_C_method_18_code_0 1 1 (.aload_n 0) 1 = true ∧ dw_chk dw_C_method_18_code_0 2 2 (.iload_n 1) 1 = true ∧ dw_chk dw_C_method_18_code_0 3 3 (.iload_n 2) 1 = true ∧ dw_chk dw_C_method_18_code_0 4 4 (.invokevirtual 71) 3 = true ∧ dw_chk dw_C_method_18_code_0 14 14 (.astore 4) 2 = true ∧ dw_chk dw_C_method_18_code_0 16 16 (.iconst 1) 1 = true ∧ dw_chk dw_C_method_18_code_0 17 17 (.ireturn) 1 = true ∧ dw_chk dw_C_method_18_code_0 7 7 (.i2l) 1 = true ∧ dw_chk dw_C_method_18_code_0 8 8 (.putfield 13) 3 = true ∧ dw_chk dw_C_method_18_code_0 11 11 (.goto 7) 3 = true ∧ dw_chk dw_C_method_18_code_0 18 18 (.iconst 0) 1 = true ∧ dw_chk dw_C_method_18_code_0 19 19 (.ireturn) 1 = true := by decide +kernel
theorem dc_L_step_0 : decode method_18_code 0 = .ok (.aload_n 3, 1) := dw_row (j := 0) dw_h_method_18_code_0 rfl dw_b_L_step_0.1
theorem dc_L_step_1 : decode method_18_code 1 = .ok (.aload_n 0, 1) := dw_row (j := 1) dw_h_method_18_code_0 rfl dw_b_L_step_0.2.1
theorem dc_L_step_2 : decode method_18_code 2 = .ok (.iload_n 1, 1) := dw_row (j := 2) dw_h_method_18_code_0 rfl dw_b_L_step_0.2.2.1
theorem dc_L_step_3 : decode method_18_code 3 = .ok (.iload_n 2, 1) := dw_row (j := 3) dw_h_method_18_code_0 rfl dw_b_L_step_0.2.2.2.1
theorem dc_L_step_4 : decode method_18_code 4 = .ok (.invokevirtual 71, 3) := dw_row (j := 4) dw_h_method_18_code_0 rfl dw_b_L_step_0.2.2.2.2.1
theorem dc_L_step_14 : decode method_18_code 14 = .ok (.astore 4, 2) := dw_row (j := 14) dw_h_method_18_code_0 rfl dw_b_L_step_0.2.2.2.2.2.1
theorem dc_L_step_16 : decode method_18_code 16 = .ok (.iconst 1, 1) := dw_row (j := 16) dw_h_method_18_code_0 rfl dw_b_L_step_0.2.2.2.2.2.2.1
theorem dc_L_step_17 : decode method_18_code 17 = .ok (.ireturn, 1) := dw_row (j := 17) dw_h_method_18_code_0 rfl dw_b_L_step_0.2.2.2.2.2.2.2.1
theorem dc_L_step_7 : decode method_18_code 7 = .ok (.i2l, 1) := dw_row (j := 7) dw_h_method_18_code_0 rfl dw_b_L_step_0.2.2.2.2.2.2.2.2.1
theorem dc_L_step_8 : decode method_18_code 8 = .ok (.putfield 13, 3) := dw_row (j := 8) dw_h_method_18_code_0 rfl dw_b_L_step_0.2.2.2.2.2.2.2.2.2.1
theorem dc_L_step_11 : decode method_18_code 11 = .ok (.goto 7, 3) := dw_row (j := 11) dw_h_method_18_code_0 rfl dw_b_L_step_0.2.2.2.2.2.2.2.2.2.2.1
theorem dc_L_step_18 : decode method_18_code 18 = .ok (.iconst 0, 1) := dw_row (j := 18) dw_h_method_18_code_0 rfl dw_b_L_step_0.2.2.2.2.2.2.2.2.2.2.2.1
theorem dc_L_step_19 : decode method_18_code 19 = .ok (.ireturn, 1) := dw_row (j := 19) dw_h_method_18_code_0 rfl dw_b_L_step_0.2.2.2.2.2.2.2.2.2.2.2.2
def dw_C_method_19_code_0 : List UInt8 := [45, 42, 27, 28, 182, 0, 74, 133, 181, 0, 13, 167, 0, 7, 58, 4, 4, 172, 3, 172]
theorem dw_h_method_19_code_0 : (method_19_code.data.toList.drop 0).take 72 = dw_C_method_19_code_0 := by decide +kernel
theorem dw_b_L_unit_0 : dw_chk dw_C_method_19_code_0 0 0 (.aload_n 3) 1 = true ∧ dw_chk dw_C_method_19_code_0 1 1 (.aload_n 0) 1 = true ∧ dw_chk dw_C_method_19_code_0 2 2 (.iload_n 1) 1 = true ∧ dw_chk dw_C_method_19_code_0 3 3 (.iload_n 2) 1 = true ∧ dw_chk dw_C_method_19_code_0 4 4 (.invokevirtual 74) 3 = true ∧ dw_chk dw_C_method_19_code_0 14 14 (.astore 4) 2 = true ∧ dw_chk dw_C_method_19_code_0 16 16 (.iconst 1) 1 = true ∧ dw_chk dw_C_method_19_code_0 17 17 (.ireturn) 1 = true ∧ dw_chk dw_C_method_19_code_0 7 7 (.i2l) 1 = true ∧ dw_chk dw_C_method_19_code_0 8 8 (.putfield 13) 3 = true ∧ dw_chk dw_C_method_19_code_0 11 11 (.goto 7) 3 = true ∧ dw_chk dw_C_method_19_code_0 18 18 (.iconst 0) 1 = true ∧ dw_chk dw_C_method_19_code_0 19 19 (.ireturn) 1 = true := by decide +kernel
theorem dc_L_unit_0 : decode method_19_code 0 = .ok (.aload_n 3, 1) := dw_row (j := 0) dw_h_method_19_code_0 rfl dw_b_L_unit_0.1
theorem dc_L_unit_1 : decode method_19_code 1 = .ok (.aload_n 0, 1) := dw_row (j := 1) dw_h_method_19_code_0 rfl dw_b_L_unit_0.2.1
theorem dc_L_unit_2 : decode method_19_code 2 = .ok (.iload_n 1, 1) := dw_row (j := 2) dw_h_method_19_code_0 rfl dw_b_L_unit_0.2.2.1
theorem dc_L_unit_3 : decode method_19_code 3 = .ok (.iload_n 2, 1) := dw_row (j := 3) dw_h_method_19_code_0 rfl dw_b_L_unit_0.2.2.2.1
theorem dc_L_unit_4 : decode method_19_code 4 = .ok (.invokevirtual 74, 3) := dw_row (j := 4) dw_h_method_19_code_0 rfl dw_b_L_unit_0.2.2.2.2.1
theorem dc_L_unit_14 : decode method_19_code 14 = .ok (.astore 4, 2) := dw_row (j := 14) dw_h_method_19_code_0 rfl dw_b_L_unit_0.2.2.2.2.2.1
theorem dc_L_unit_16 : decode method_19_code 16 = .ok (.iconst 1, 1) := dw_row (j := 16) dw_h_method_19_code_0 rfl dw_b_L_unit_0.2.2.2.2.2.2.1
theorem dc_L_unit_17 : decode method_19_code 17 = .ok (.ireturn, 1) := dw_row (j := 17) dw_h_method_19_code_0 rfl dw_b_L_unit_0.2.2.2.2.2.2.2.1
theorem dc_L_unit_7 : decode method_19_code 7 = .ok (.i2l, 1) := dw_row (j := 7) dw_h_method_19_code_0 rfl dw_b_L_unit_0.2.2.2.2.2.2.2.2.1
theorem dc_L_unit_8 : decode method_19_code 8 = .ok (.putfield 13, 3) := dw_row (j := 8) dw_h_method_19_code_0 rfl dw_b_L_unit_0.2.2.2.2.2.2.2.2.2.1
theorem dc_L_unit_11 : decode method_19_code 11 = .ok (.goto 7, 3) := dw_row (j := 11) dw_h_method_19_code_0 rfl dw_b_L_unit_0.2.2.2.2.2.2.2.2.2.2.1
theorem dc_L_unit_18 : decode method_19_code 18 = .ok (.iconst 0, 1) := dw_row (j := 18) dw_h_method_19_code_0 rfl dw_b_L_unit_0.2.2.2.2.2.2.2.2.2.2.2.1
theorem dc_L_unit_19 : decode method_19_code 19 = .ok (.ireturn, 1) := dw_row (j := 19) dw_h_method_19_code_0 rfl dw_b_L_unit_0.2.2.2.2.2.2.2.2.2.2.2.2
def dw_C_method_20_code_0 : List UInt8 := [25, 4, 42, 27, 28, 29, 182, 0, 77, 133, 181, 0, 13, 167, 0, 7, 58, 5, 4, 172, 3, 172]
theorem dw_h_method_20_code_0 : (method_20_code.data.toList.drop 0).take 72 = dw_C_method_20_code_0 := by decide +kernel
theorem dw_b_L_times_0 : dw_chk dw_C_method_20_code_0 0 0 (.aload 4) 2 = true ∧ dw_chk dw_C_method_20_code_0 2 2 (.aload_n 0) 1 = true ∧ dw_chk dw_C_method_20_code_0 3 3 (.iload_n 1) 1 = true ∧ dw_chk dw_C_method_20_code_0 4 4 (.iload_n 2) 1 = true ∧ dw_chk dw_C_method_20_code_0 5 5 (.iload_n 3) 1 = true ∧ dw_chk dw_C_method_20_code_0 6 6 (.invokevirtual 77) 3 = true ∧ dw_chk dw_C_method_20_code_0 16 16 (.astore 5) 2 = true ∧ dw_chk dw_C_method_20_code_0 18 18 (.iconst 1) 1 = true ∧ dw_chk dw_C_method_20_code_0 19 19 (.ireturn) 1 = true ∧ dw_chk dw_C_method_20_code_0 9 9 (.i2l) 1 = true ∧ dw_chk dw_C_method_20_code_0 10 10 (.putfield 13) 3 = true ∧ dw_chk dw_C_method_20_code_0 13 13 (.goto 7) 3 = true ∧ dw_chk dw_C_method_20_code_0 20 20 (.iconst 0) 1 = true ∧ dw_chk dw_C_method_20_code_0 21 21 (.ireturn) 1 = true := by decide +kernel
theorem dc_L_times_0 : decode method_20_code 0 = .ok (.aload 4, 2) := dw_row (j := 0) dw_h_method_20_code_0 rfl dw_b_L_times_0.1
theorem dc_L_times_2 : decode method_20_code 2 = .ok (.aload_n 0, 1) := dw_row (j := 2) dw_h_method_20_code_0 rfl dw_b_L_times_0.2.1
theorem dc_L_times_3 : decode method_20_code 3 = .ok (.iload_n 1, 1) := dw_row (j := 3) dw_h_method_20_code_0 rfl dw_b_L_times_0.2.2.1
theorem dc_L_times_4 : decode method_20_code 4 = .ok (.iload_n 2, 1) := dw_row (j := 4) dw_h_method_20_code_0 rfl dw_b_L_times_0.2.2.2.1
theorem dc_L_times_5 : decode method_20_code 5 = .ok (.iload_n 3, 1) := dw_row (j := 5) dw_h_method_20_code_0 rfl dw_b_L_times_0.2.2.2.2.1
theorem dc_L_times_6 : decode method_20_code 6 = .ok (.invokevirtual 77, 3) := dw_row (j := 6) dw_h_method_20_code_0 rfl dw_b_L_times_0.2.2.2.2.2.1
theorem dc_L_times_16 : decode method_20_code 16 = .ok (.astore 5, 2) := dw_row (j := 16) dw_h_method_20_code_0 rfl dw_b_L_times_0.2.2.2.2.2.2.1
theorem dc_L_times_18 : decode method_20_code 18 = .ok (.iconst 1, 1) := dw_row (j := 18) dw_h_method_20_code_0 rfl dw_b_L_times_0.2.2.2.2.2.2.2.1
theorem dc_L_times_19 : decode method_20_code 19 = .ok (.ireturn, 1) := dw_row (j := 19) dw_h_method_20_code_0 rfl dw_b_L_times_0.2.2.2.2.2.2.2.2.1
theorem dc_L_times_9 : decode method_20_code 9 = .ok (.i2l, 1) := dw_row (j := 9) dw_h_method_20_code_0 rfl dw_b_L_times_0.2.2.2.2.2.2.2.2.2.1
theorem dc_L_times_10 : decode method_20_code 10 = .ok (.putfield 13, 3) := dw_row (j := 10) dw_h_method_20_code_0 rfl dw_b_L_times_0.2.2.2.2.2.2.2.2.2.2.1
theorem dc_L_times_13 : decode method_20_code 13 = .ok (.goto 7, 3) := dw_row (j := 13) dw_h_method_20_code_0 rfl dw_b_L_times_0.2.2.2.2.2.2.2.2.2.2.2.1
theorem dc_L_times_20 : decode method_20_code 20 = .ok (.iconst 0, 1) := dw_row (j := 20) dw_h_method_20_code_0 rfl dw_b_L_times_0.2.2.2.2.2.2.2.2.2.2.2.2.1
theorem dc_L_times_21 : decode method_20_code 21 = .ok (.ireturn, 1) := dw_row (j := 21) dw_h_method_20_code_0 rfl dw_b_L_times_0.2.2.2.2.2.2.2.2.2.2.2.2.2
def dw_C_method_21_code_0 : List UInt8 := [25, 4, 42, 27, 28, 29, 182, 0, 80, 133, 181, 0, 13, 167, 0, 7, 58, 5, 4, 172, 3, 172]
theorem dw_h_method_21_code_0 : (method_21_code.data.toList.drop 0).take 72 = dw_C_method_21_code_0 := by decide +kernel
theorem dw_b_L_side_0 : dw_chk dw_C_method_21_code_0 0 0 (.aload 4) 2 = true ∧ dw_chk dw_C_method_21_code_0 2 2 (.aload_n 0) 1 = true ∧ dw_chk dw_C_method_21_code_0 3 3 (.iload_n 1) 1 = true ∧ dw_chk dw_C_method_21_code_0 4 4 (.iload_n 2) 1 = true ∧ dw_chk dw_C_method_21_code_0 5 5 (.iload_n 3) 1 = true ∧ dw_chk dw_C_method_21_code_0 6 6 (.invokevirtual 80) 3 = true ∧ dw_chk dw_C_method_21_code_0 16 16 (.astore 5) 2 = true ∧ dw_chk dw_C_method_21_code_0 18 18 (.iconst 1) 1 = true ∧ dw_chk dw_C_method_21_code_0 19 19 (.ireturn) 1 = true ∧ dw_chk dw_C_method_21_code_0 9 9 (.i2l) 1 = true ∧ dw_chk dw_C_method_21_code_0 10 10 (.putfield 13) 3 = true ∧ dw_chk dw_C_method_21_code_0 13 13 (.goto 7) 3 = true ∧ dw_chk dw_C_method_21_code_0 20 20 (.iconst 0) 1 = true ∧ dw_chk dw_C_method_21_code_0 21 21 (.ireturn) 1 = true := by decide +kernel
theorem dc_L_side_0 : decode method_21_code 0 = .ok (.aload 4, 2) := dw_row (j := 0) dw_h_method_21_code_0 rfl dw_b_L_side_0.1
theorem dc_L_side_2 : decode method_21_code 2 = .ok (.aload_n 0, 1) := dw_row (j := 2) dw_h_method_21_code_0 rfl dw_b_L_side_0.2.1
theorem dc_L_side_3 : decode method_21_code 3 = .ok (.iload_n 1, 1) := dw_row (j := 3) dw_h_method_21_code_0 rfl dw_b_L_side_0.2.2.1
theorem dc_L_side_4 : decode method_21_code 4 = .ok (.iload_n 2, 1) := dw_row (j := 4) dw_h_method_21_code_0 rfl dw_b_L_side_0.2.2.2.1
theorem dc_L_side_5 : decode method_21_code 5 = .ok (.iload_n 3, 1) := dw_row (j := 5) dw_h_method_21_code_0 rfl dw_b_L_side_0.2.2.2.2.1
theorem dc_L_side_6 : decode method_21_code 6 = .ok (.invokevirtual 80, 3) := dw_row (j := 6) dw_h_method_21_code_0 rfl dw_b_L_side_0.2.2.2.2.2.1
theorem dc_L_side_16 : decode method_21_code 16 = .ok (.astore 5, 2) := dw_row (j := 16) dw_h_method_21_code_0 rfl dw_b_L_side_0.2.2.2.2.2.2.1
theorem dc_L_side_18 : decode method_21_code 18 = .ok (.iconst 1, 1) := dw_row (j := 18) dw_h_method_21_code_0 rfl dw_b_L_side_0.2.2.2.2.2.2.2.1
theorem dc_L_side_19 : decode method_21_code 19 = .ok (.ireturn, 1) := dw_row (j := 19) dw_h_method_21_code_0 rfl dw_b_L_side_0.2.2.2.2.2.2.2.2.1
theorem dc_L_side_9 : decode method_21_code 9 = .ok (.i2l, 1) := dw_row (j := 9) dw_h_method_21_code_0 rfl dw_b_L_side_0.2.2.2.2.2.2.2.2.2.1
theorem dc_L_side_10 : decode method_21_code 10 = .ok (.putfield 13, 3) := dw_row (j := 10) dw_h_method_21_code_0 rfl dw_b_L_side_0.2.2.2.2.2.2.2.2.2.2.1
theorem dc_L_side_13 : decode method_21_code 13 = .ok (.goto 7, 3) := dw_row (j := 13) dw_h_method_21_code_0 rfl dw_b_L_side_0.2.2.2.2.2.2.2.2.2.2.2.1
theorem dc_L_side_20 : decode method_21_code 20 = .ok (.iconst 0, 1) := dw_row (j := 20) dw_h_method_21_code_0 rfl dw_b_L_side_0.2.2.2.2.2.2.2.2.2.2.2.2.1
theorem dc_L_side_21 : decode method_21_code 21 = .ok (.ireturn, 1) := dw_row (j := 21) dw_h_method_21_code_0 rfl dw_b_L_side_0.2.2.2.2.2.2.2.2.2.2.2.2.2
def dw_C_method_22_code_0 : List UInt8 := [25, 4, 42, 27, 28, 29, 182, 0, 83, 133, 181, 0, 13, 167, 0, 7, 58, 5, 4, 172, 3, 172]
theorem dw_h_method_22_code_0 : (method_22_code.data.toList.drop 0).take 72 = dw_C_method_22_code_0 := by decide +kernel
theorem dw_b_L_max_0 : dw_chk dw_C_method_22_code_0 0 0 (.aload 4) 2 = true ∧ dw_chk dw_C_method_22_code_0 2 2 (.aload_n 0) 1 = true ∧ dw_chk dw_C_method_22_code_0 3 3 (.iload_n 1) 1 = true ∧ dw_chk dw_C_method_22_code_0 4 4 (.iload_n 2) 1 = true ∧ dw_chk dw_C_method_22_code_0 5 5 (.iload_n 3) 1 = true ∧ dw_chk dw_C_method_22_code_0 6 6 (.invokevirtual 83) 3 = true ∧ dw_chk dw_C_method_22_code_0 16 16 (.astore 5) 2 = true ∧ dw_chk dw_C_method_22_code_0 18 18 (.iconst 1) 1 = true ∧ dw_chk dw_C_method_22_code_0 19 19 (.ireturn) 1 = true ∧ dw_chk dw_C_method_22_code_0 9 9 (.i2l) 1 = true ∧ dw_chk dw_C_method_22_code_0 10 10 (.putfield 13) 3 = true ∧ dw_chk dw_C_method_22_code_0 13 13 (.goto 7) 3 = true ∧ dw_chk dw_C_method_22_code_0 20 20 (.iconst 0) 1 = true ∧ dw_chk dw_C_method_22_code_0 21 21 (.ireturn) 1 = true := by decide +kernel
theorem dc_L_max_0 : decode method_22_code 0 = .ok (.aload 4, 2) := dw_row (j := 0) dw_h_method_22_code_0 rfl dw_b_L_max_0.1
theorem dc_L_max_2 : decode method_22_code 2 = .ok (.aload_n 0, 1) := dw_row (j := 2) dw_h_method_22_code_0 rfl dw_b_L_max_0.2.1
theorem dc_L_max_3 : decode method_22_code 3 = .ok (.iload_n 1, 1) := dw_row (j := 3) dw_h_method_22_code_0 rfl dw_b_L_max_0.2.2.1
theorem dc_L_max_4 : decode method_22_code 4 = .ok (.iload_n 2, 1) := dw_row (j := 4) dw_h_method_22_code_0 rfl dw_b_L_max_0.2.2.2.1
theorem dc_L_max_5 : decode method_22_code 5 = .ok (.iload_n 3, 1) := dw_row (j := 5) dw_h_method_22_code_0 rfl dw_b_L_max_0.2.2.2.2.1
theorem dc_L_max_6 : decode method_22_code 6 = .ok (.invokevirtual 83, 3) := dw_row (j := 6) dw_h_method_22_code_0 rfl dw_b_L_max_0.2.2.2.2.2.1
theorem dc_L_max_16 : decode method_22_code 16 = .ok (.astore 5, 2) := dw_row (j := 16) dw_h_method_22_code_0 rfl dw_b_L_max_0.2.2.2.2.2.2.1
theorem dc_L_max_18 : decode method_22_code 18 = .ok (.iconst 1, 1) := dw_row (j := 18) dw_h_method_22_code_0 rfl dw_b_L_max_0.2.2.2.2.2.2.2.1
theorem dc_L_max_19 : decode method_22_code 19 = .ok (.ireturn, 1) := dw_row (j := 19) dw_h_method_22_code_0 rfl dw_b_L_max_0.2.2.2.2.2.2.2.2.1
theorem dc_L_max_9 : decode method_22_code 9 = .ok (.i2l, 1) := dw_row (j := 9) dw_h_method_22_code_0 rfl dw_b_L_max_0.2.2.2.2.2.2.2.2.2.1
theorem dc_L_max_10 : decode method_22_code 10 = .ok (.putfield 13, 3) := dw_row (j := 10) dw_h_method_22_code_0 rfl dw_b_L_max_0.2.2.2.2.2.2.2.2.2.2.1
theorem dc_L_max_13 : decode method_22_code 13 = .ok (.goto 7, 3) := dw_row (j := 13) dw_h_method_22_code_0 rfl dw_b_L_max_0.2.2.2.2.2.2.2.2.2.2.2.1
theorem dc_L_max_20 : decode method_22_code 20 = .ok (.iconst 0, 1) := dw_row (j := 20) dw_h_method_22_code_0 rfl dw_b_L_max_0.2.2.2.2.2.2.2.2.2.2.2.2.1
theorem dc_L_max_21 : decode method_22_code 21 = .ok (.ireturn, 1) := dw_row (j := 21) dw_h_method_22_code_0 rfl dw_b_L_max_0.2.2.2.2.2.2.2.2.2.2.2.2.2
def dw_C_method_23_code_0 : List UInt8 := [25, 4, 42, 27, 28, 29, 182, 0, 86, 133, 181, 0, 13, 167, 0, 7, 58, 5, 4, 172, 3, 172]
theorem dw_h_method_23_code_0 : (method_23_code.data.toList.drop 0).take 72 = dw_C_method_23_code_0 := by decide +kernel
theorem dw_b_L_min_0 : dw_chk dw_C_method_23_code_0 0 0 (.aload 4) 2 = true ∧ dw_chk dw_C_method_23_code_0 2 2 (.aload_n 0) 1 = true ∧ dw_chk dw_C_method_23_code_0 3 3 (.iload_n 1) 1 = true ∧ dw_chk dw_C_method_23_code_0 4 4 (.iload_n 2) 1 = true ∧ dw_chk dw_C_method_23_code_0 5 5 (.iload_n 3) 1 = true ∧ dw_chk dw_C_method_23_code_0 6 6 (.invokevirtual 86) 3 = true ∧ dw_chk dw_C_method_23_code_0 16 16 (.astore 5) 2 = true ∧ dw_chk dw_C_method_23_code_0 18 18 (.iconst 1) 1 = true ∧ dw_chk dw_C_method_23_code_0 19 19 (.ireturn) 1 = true ∧ dw_chk dw_C_method_23_code_0 9 9 (.i2l) 1 = true ∧ dw_chk dw_C_method_23_code_0 10 10 (.putfield 13) 3 = true ∧ dw_chk dw_C_method_23_code_0 13 13 (.goto 7) 3 = true ∧ dw_chk dw_C_method_23_code_0 20 20 (.iconst 0) 1 = true ∧ dw_chk dw_C_method_23_code_0 21 21 (.ireturn) 1 = true := by decide +kernel
theorem dc_L_min_0 : decode method_23_code 0 = .ok (.aload 4, 2) := dw_row (j := 0) dw_h_method_23_code_0 rfl dw_b_L_min_0.1
theorem dc_L_min_2 : decode method_23_code 2 = .ok (.aload_n 0, 1) := dw_row (j := 2) dw_h_method_23_code_0 rfl dw_b_L_min_0.2.1
theorem dc_L_min_3 : decode method_23_code 3 = .ok (.iload_n 1, 1) := dw_row (j := 3) dw_h_method_23_code_0 rfl dw_b_L_min_0.2.2.1
theorem dc_L_min_4 : decode method_23_code 4 = .ok (.iload_n 2, 1) := dw_row (j := 4) dw_h_method_23_code_0 rfl dw_b_L_min_0.2.2.2.1
theorem dc_L_min_5 : decode method_23_code 5 = .ok (.iload_n 3, 1) := dw_row (j := 5) dw_h_method_23_code_0 rfl dw_b_L_min_0.2.2.2.2.1
theorem dc_L_min_6 : decode method_23_code 6 = .ok (.invokevirtual 86, 3) := dw_row (j := 6) dw_h_method_23_code_0 rfl dw_b_L_min_0.2.2.2.2.2.1
theorem dc_L_min_16 : decode method_23_code 16 = .ok (.astore 5, 2) := dw_row (j := 16) dw_h_method_23_code_0 rfl dw_b_L_min_0.2.2.2.2.2.2.1
theorem dc_L_min_18 : decode method_23_code 18 = .ok (.iconst 1, 1) := dw_row (j := 18) dw_h_method_23_code_0 rfl dw_b_L_min_0.2.2.2.2.2.2.2.1
theorem dc_L_min_19 : decode method_23_code 19 = .ok (.ireturn, 1) := dw_row (j := 19) dw_h_method_23_code_0 rfl dw_b_L_min_0.2.2.2.2.2.2.2.2.1
theorem dc_L_min_9 : decode method_23_code 9 = .ok (.i2l, 1) := dw_row (j := 9) dw_h_method_23_code_0 rfl dw_b_L_min_0.2.2.2.2.2.2.2.2.2.1
theorem dc_L_min_10 : decode method_23_code 10 = .ok (.putfield 13, 3) := dw_row (j := 10) dw_h_method_23_code_0 rfl dw_b_L_min_0.2.2.2.2.2.2.2.2.2.2.1
theorem dc_L_min_13 : decode method_23_code 13 = .ok (.goto 7, 3) := dw_row (j := 13) dw_h_method_23_code_0 rfl dw_b_L_min_0.2.2.2.2.2.2.2.2.2.2.2.1
theorem dc_L_min_20 : decode method_23_code 20 = .ok (.iconst 0, 1) := dw_row (j := 20) dw_h_method_23_code_0 rfl dw_b_L_min_0.2.2.2.2.2.2.2.2.2.2.2.2.1
theorem dc_L_min_21 : decode method_23_code 21 = .ok (.ireturn, 1) := dw_row (j := 21) dw_h_method_23_code_0 rfl dw_b_L_min_0.2.2.2.2.2.2.2.2.2.2.2.2.2
def dw_C_method_24_code_0 : List UInt8 := [45, 42, 27, 28, 182, 0, 89, 133, 181, 0, 13, 167, 0, 11, 58, 4, 4, 172, 58, 4, 5, 172, 3, 172]
theorem dw_h_method_24_code_0 : (method_24_code.data.toList.drop 0).take 72 = dw_C_method_24_code_0 := by decide +kernel
theorem dw_b_L_walk_0 : dw_chk dw_C_method_24_code_0 0 0 (.aload_n 3) 1 = true ∧ dw_chk dw_C_method_24_code_0 1 1 (.aload_n 0) 1 = true ∧ dw_chk dw_C_method_24_code_0 2 2 (.iload_n 1) 1 = true ∧ dw_chk dw_C_method_24_code_0 3 3 (.iload_n 2) 1 = true ∧ dw_chk dw_C_method_24_code_0 4 4 (.invokevirtual 89) 3 = true ∧ dw_chk dw_C_method_24_code_0 14 14 (.astore 4) 2 = true ∧ dw_chk dw_C_method_24_code_0 16 16 (.iconst 1) 1 = true ∧ dw_chk dw_C_method_24_code_0 17 17 (.ireturn) 1 = true ∧ dw_chk dw_C_method_24_code_0 18 18 (.astore 4) 2 = true ∧ dw_chk dw_C_method_24_code_0 20 20 (.iconst 2) 1 = true ∧ dw_chk dw_C_method_24_code_0 21 21 (.ireturn) 1 = true ∧ dw_chk dw_C_method_24_code_0 7 7 (.i2l) 1 = true ∧ dw_chk dw_C_method_24_code_0 8 8 (.putfield 13) 3 = true ∧ dw_chk dw_C_method_24_code_0 11 11 (.goto 11) 3 = true ∧ dw_chk dw_C_method_24_code_0 22 22 (.iconst 0) 1 = true ∧ dw_chk dw_C_method_24_code_0 23 23 (.ireturn) 1 = true := by decide +kernel
theorem dc_L_walk_0 : decode method_24_code 0 = .ok (.aload_n 3, 1) := dw_row (j := 0) dw_h_method_24_code_0 rfl dw_b_L_walk_0.1
theorem dc_L_walk_1 : decode method_24_code 1 = .ok (.aload_n 0, 1) := dw_row (j := 1) dw_h_method_24_code_0 rfl dw_b_L_walk_0.2.1
theorem dc_L_walk_2 : decode method_24_code 2 = .ok (.iload_n 1, 1) := dw_row (j := 2) dw_h_method_24_code_0 rfl dw_b_L_walk_0.2.2.1
theorem dc_L_walk_3 : decode method_24_code 3 = .ok (.iload_n 2, 1) := dw_row (j := 3) dw_h_method_24_code_0 rfl dw_b_L_walk_0.2.2.2.1
theorem dc_L_walk_4 : decode method_24_code 4 = .ok (.invokevirtual 89, 3) := dw_row (j := 4) dw_h_method_24_code_0 rfl dw_b_L_walk_0.2.2.2.2.1
theorem dc_L_walk_14 : decode method_24_code 14 = .ok (.astore 4, 2) := dw_row (j := 14) dw_h_method_24_code_0 rfl dw_b_L_walk_0.2.2.2.2.2.1
theorem dc_L_walk_16 : decode method_24_code 16 = .ok (.iconst 1, 1) := dw_row (j := 16) dw_h_method_24_code_0 rfl dw_b_L_walk_0.2.2.2.2.2.2.1
theorem dc_L_walk_17 : decode method_24_code 17 = .ok (.ireturn, 1) := dw_row (j := 17) dw_h_method_24_code_0 rfl dw_b_L_walk_0.2.2.2.2.2.2.2.1
theorem dc_L_walk_18 : decode method_24_code 18 = .ok (.astore 4, 2) := dw_row (j := 18) dw_h_method_24_code_0 rfl dw_b_L_walk_0.2.2.2.2.2.2.2.2.1
theorem dc_L_walk_20 : decode method_24_code 20 = .ok (.iconst 2, 1) := dw_row (j := 20) dw_h_method_24_code_0 rfl dw_b_L_walk_0.2.2.2.2.2.2.2.2.2.1
theorem dc_L_walk_21 : decode method_24_code 21 = .ok (.ireturn, 1) := dw_row (j := 21) dw_h_method_24_code_0 rfl dw_b_L_walk_0.2.2.2.2.2.2.2.2.2.2.1
theorem dc_L_walk_7 : decode method_24_code 7 = .ok (.i2l, 1) := dw_row (j := 7) dw_h_method_24_code_0 rfl dw_b_L_walk_0.2.2.2.2.2.2.2.2.2.2.2.1
theorem dc_L_walk_8 : decode method_24_code 8 = .ok (.putfield 13, 3) := dw_row (j := 8) dw_h_method_24_code_0 rfl dw_b_L_walk_0.2.2.2.2.2.2.2.2.2.2.2.2.1
theorem dc_L_walk_11 : decode method_24_code 11 = .ok (.goto 11, 3) := dw_row (j := 11) dw_h_method_24_code_0 rfl dw_b_L_walk_0.2.2.2.2.2.2.2.2.2.2.2.2.2.1
theorem dc_L_walk_22 : decode method_24_code 22 = .ok (.iconst 0, 1) := dw_row (j := 22) dw_h_method_24_code_0 rfl dw_b_L_walk_0.2.2.2.2.2.2.2.2.2.2.2.2.2.2.1
theorem dc_L_walk_23 : decode method_24_code 23 = .ok (.ireturn, 1) := dw_row (j := 23) dw_h_method_24_code_0 rfl dw_b_L_walk_0.2.2.2.2.2.2.2.2.2.2.2.2.2.2.2
def dw_C_method_25_code_0 : List UInt8 := [44, 42, 27, 182, 0, 92, 133, 181, 0, 13, 167, 0, 6, 78, 4, 172, 3, 172]
theorem dw_h_method_25_code_0 : (method_25_code.data.toList.drop 0).take 72 = dw_C_method_25_code_0 := by decide +kernel
theorem dw_b_L_kind_0 : dw_chk dw_C_method_25_code_0 0 0 (.aload_n 2) 1 = true ∧ dw_chk dw_C_method_25_code_0 1 1 (.aload_n 0) 1 = true ∧ dw_chk dw_C_method_25_code_0 2 2 (.iload_n 1) 1 = true ∧ dw_chk dw_C_method_25_code_0 3 3 (.invokevirtual 92) 3 = true ∧ dw_chk dw_C_method_25_code_0 13 13 (.astore_n 3) 1 = true ∧ dw_chk dw_C_method_25_code_0 14 14 (.iconst 1) 1 = true ∧ dw_chk dw_C_method_25_code_0 15 15 (.ireturn) 1 = true ∧ dw_chk dw_C_method_25_code_0 6 6 (.i2l) 1 = true ∧ dw_chk dw_C_method_25_code_0 7 7 (.putfield 13) 3 = true ∧ dw_chk dw_C_method_25_code_0 10 10 (.goto 6) 3 = true ∧ dw_chk dw_C_method_25_code_0 16 16 (.iconst 0) 1 = true ∧ dw_chk dw_C_method_25_code_0 17 17 (.ireturn) 1 = true := by decide +kernel
theorem dc_L_kind_0 : decode method_25_code 0 = .ok (.aload_n 2, 1) := dw_row (j := 0) dw_h_method_25_code_0 rfl dw_b_L_kind_0.1
theorem dc_L_kind_1 : decode method_25_code 1 = .ok (.aload_n 0, 1) := dw_row (j := 1) dw_h_method_25_code_0 rfl dw_b_L_kind_0.2.1
theorem dc_L_kind_2 : decode method_25_code 2 = .ok (.iload_n 1, 1) := dw_row (j := 2) dw_h_method_25_code_0 rfl dw_b_L_kind_0.2.2.1
theorem dc_L_kind_3 : decode method_25_code 3 = .ok (.invokevirtual 92, 3) := dw_row (j := 3) dw_h_method_25_code_0 rfl dw_b_L_kind_0.2.2.2.1
theorem dc_L_kind_13 : decode method_25_code 13 = .ok (.astore_n 3, 1) := dw_row (j := 13) dw_h_method_25_code_0 rfl dw_b_L_kind_0.2.2.2.2.1
theorem dc_L_kind_14 : decode method_25_code 14 = .ok (.iconst 1, 1) := dw_row (j := 14) dw_h_method_25_code_0 rfl dw_b_L_kind_0.2.2.2.2.2.1
theorem dc_L_kind_15 : decode method_25_code 15 = .ok (.ireturn, 1) := dw_row (j := 15) dw_h_method_25_code_0 rfl dw_b_L_kind_0.2.2.2.2.2.2.1
theorem dc_L_kind_6 : decode method_25_code 6 = .ok (.i2l, 1) := dw_row (j := 6) dw_h_method_25_code_0 rfl dw_b_L_kind_0.2.2.2.2.2.2.2.1
theorem dc_L_kind_7 : decode method_25_code 7 = .ok (.putfield 13, 3) := dw_row (j := 7) dw_h_method_25_code_0 rfl dw_b_L_kind_0.2.2.2.2.2.2.2.2.1
theorem dc_L_kind_10 : decode method_25_code 10 = .ok (.goto 6, 3) := dw_row (j := 10) dw_h_method_25_code_0 rfl dw_b_L_kind_0.2.2.2.2.2.2.2.2.2.1
theorem dc_L_kind_16 : decode method_25_code 16 = .ok (.iconst 0, 1) := dw_row (j := 16) dw_h_method_25_code_0 rfl dw_b_L_kind_0.2.2.2.2.2.2.2.2.2.2.1
theorem dc_L_kind_17 : decode method_25_code 17 = .ok (.ireturn, 1) := dw_row (j := 17) dw_h_method_25_code_0 rfl dw_b_L_kind_0.2.2.2.2.2.2.2.2.2.2.2
def dw_C_method_26_code_0 : List UInt8 := [45, 42, 27, 28, 182, 0, 96, 133, 181, 0, 13, 167, 0, 11, 58, 4, 4, 172, 58, 4, 5, 172, 3, 172]
theorem dw_h_method_26_code_0 : (method_26_code.data.toList.drop 0).take 72 = dw_C_method_26_code_0 := by decide +kernel
theorem dw_b_L_digits_0 : dw_chk dw_C_method_26_code_0 0 0 (.aload_n 3) 1 = true ∧ dw_chk dw_C_method_26_code_0 1 1 (.aload_n 0) 1 = true ∧ dw_chk dw_C_method_26_code_0 2 2 (.iload_n 1) 1 = true ∧ dw_chk dw_C_method_26_code_0 3 3 (.iload_n 2) 1 = true ∧ dw_chk dw_C_method_26_code_0 4 4 (.invokevirtual 96) 3 = true ∧ dw_chk dw_C_method_26_code_0 14 14 (.astore 4) 2 = true ∧ dw_chk dw_C_method_26_code_0 16 16 (.iconst 1) 1 = true ∧ dw_chk dw_C_method_26_code_0 17 17 (.ireturn) 1 = true ∧ dw_chk dw_C_method_26_code_0 18 18 (.astore 4) 2 = true ∧ dw_chk dw_C_method_26_code_0 20 20 (.iconst 2) 1 = true ∧ dw_chk dw_C_method_26_code_0 21 21 (.ireturn) 1 = true ∧ dw_chk dw_C_method_26_code_0 7 7 (.i2l) 1 = true ∧ dw_chk dw_C_method_26_code_0 8 8 (.putfield 13) 3 = true ∧ dw_chk dw_C_method_26_code_0 11 11 (.goto 11) 3 = true ∧ dw_chk dw_C_method_26_code_0 22 22 (.iconst 0) 1 = true ∧ dw_chk dw_C_method_26_code_0 23 23 (.ireturn) 1 = true := by decide +kernel
theorem dc_L_digits_0 : decode method_26_code 0 = .ok (.aload_n 3, 1) := dw_row (j := 0) dw_h_method_26_code_0 rfl dw_b_L_digits_0.1
theorem dc_L_digits_1 : decode method_26_code 1 = .ok (.aload_n 0, 1) := dw_row (j := 1) dw_h_method_26_code_0 rfl dw_b_L_digits_0.2.1
theorem dc_L_digits_2 : decode method_26_code 2 = .ok (.iload_n 1, 1) := dw_row (j := 2) dw_h_method_26_code_0 rfl dw_b_L_digits_0.2.2.1
theorem dc_L_digits_3 : decode method_26_code 3 = .ok (.iload_n 2, 1) := dw_row (j := 3) dw_h_method_26_code_0 rfl dw_b_L_digits_0.2.2.2.1
theorem dc_L_digits_4 : decode method_26_code 4 = .ok (.invokevirtual 96, 3) := dw_row (j := 4) dw_h_method_26_code_0 rfl dw_b_L_digits_0.2.2.2.2.1
theorem dc_L_digits_14 : decode method_26_code 14 = .ok (.astore 4, 2) := dw_row (j := 14) dw_h_method_26_code_0 rfl dw_b_L_digits_0.2.2.2.2.2.1
theorem dc_L_digits_16 : decode method_26_code 16 = .ok (.iconst 1, 1) := dw_row (j := 16) dw_h_method_26_code_0 rfl dw_b_L_digits_0.2.2.2.2.2.2.1
theorem dc_L_digits_17 : decode method_26_code 17 = .ok (.ireturn, 1) := dw_row (j := 17) dw_h_method_26_code_0 rfl dw_b_L_digits_0.2.2.2.2.2.2.2.1
theorem dc_L_digits_18 : decode method_26_code 18 = .ok (.astore 4, 2) := dw_row (j := 18) dw_h_method_26_code_0 rfl dw_b_L_digits_0.2.2.2.2.2.2.2.2.1
theorem dc_L_digits_20 : decode method_26_code 20 = .ok (.iconst 2, 1) := dw_row (j := 20) dw_h_method_26_code_0 rfl dw_b_L_digits_0.2.2.2.2.2.2.2.2.2.1
theorem dc_L_digits_21 : decode method_26_code 21 = .ok (.ireturn, 1) := dw_row (j := 21) dw_h_method_26_code_0 rfl dw_b_L_digits_0.2.2.2.2.2.2.2.2.2.2.1
theorem dc_L_digits_7 : decode method_26_code 7 = .ok (.i2l, 1) := dw_row (j := 7) dw_h_method_26_code_0 rfl dw_b_L_digits_0.2.2.2.2.2.2.2.2.2.2.2.1
theorem dc_L_digits_8 : decode method_26_code 8 = .ok (.putfield 13, 3) := dw_row (j := 8) dw_h_method_26_code_0 rfl dw_b_L_digits_0.2.2.2.2.2.2.2.2.2.2.2.2.1
theorem dc_L_digits_11 : decode method_26_code 11 = .ok (.goto 11, 3) := dw_row (j := 11) dw_h_method_26_code_0 rfl dw_b_L_digits_0.2.2.2.2.2.2.2.2.2.2.2.2.2.1
theorem dc_L_digits_22 : decode method_26_code 22 = .ok (.iconst 0, 1) := dw_row (j := 22) dw_h_method_26_code_0 rfl dw_b_L_digits_0.2.2.2.2.2.2.2.2.2.2.2.2.2.2.1
theorem dc_L_digits_23 : decode method_26_code 23 = .ok (.ireturn, 1) := dw_row (j := 23) dw_h_method_26_code_0 rfl dw_b_L_digits_0.2.2.2.2.2.2.2.2.2.2.2.2.2.2.2
def dw_C_method_27_code_0 : List UInt8 := [44, 42, 27, 182, 0, 99, 181, 0, 103, 167, 0, 6, 78, 4, 172, 3, 172]
theorem dw_h_method_27_code_0 : (method_27_code.data.toList.drop 0).take 72 = dw_C_method_27_code_0 := by decide +kernel
theorem dw_b_L_text_0 : dw_chk dw_C_method_27_code_0 0 0 (.aload_n 2) 1 = true ∧ dw_chk dw_C_method_27_code_0 1 1 (.aload_n 0) 1 = true ∧ dw_chk dw_C_method_27_code_0 2 2 (.iload_n 1) 1 = true ∧ dw_chk dw_C_method_27_code_0 3 3 (.invokevirtual 99) 3 = true ∧ dw_chk dw_C_method_27_code_0 12 12 (.astore_n 3) 1 = true ∧ dw_chk dw_C_method_27_code_0 13 13 (.iconst 1) 1 = true ∧ dw_chk dw_C_method_27_code_0 14 14 (.ireturn) 1 = true ∧ dw_chk dw_C_method_27_code_0 6 6 (.putfield 103) 3 = true ∧ dw_chk dw_C_method_27_code_0 9 9 (.goto 6) 3 = true ∧ dw_chk dw_C_method_27_code_0 15 15 (.iconst 0) 1 = true ∧ dw_chk dw_C_method_27_code_0 16 16 (.ireturn) 1 = true := by decide +kernel
theorem dc_L_text_0 : decode method_27_code 0 = .ok (.aload_n 2, 1) := dw_row (j := 0) dw_h_method_27_code_0 rfl dw_b_L_text_0.1
theorem dc_L_text_1 : decode method_27_code 1 = .ok (.aload_n 0, 1) := dw_row (j := 1) dw_h_method_27_code_0 rfl dw_b_L_text_0.2.1
theorem dc_L_text_2 : decode method_27_code 2 = .ok (.iload_n 1, 1) := dw_row (j := 2) dw_h_method_27_code_0 rfl dw_b_L_text_0.2.2.1
theorem dc_L_text_3 : decode method_27_code 3 = .ok (.invokevirtual 99, 3) := dw_row (j := 3) dw_h_method_27_code_0 rfl dw_b_L_text_0.2.2.2.1
theorem dc_L_text_12 : decode method_27_code 12 = .ok (.astore_n 3, 1) := dw_row (j := 12) dw_h_method_27_code_0 rfl dw_b_L_text_0.2.2.2.2.1
theorem dc_L_text_13 : decode method_27_code 13 = .ok (.iconst 1, 1) := dw_row (j := 13) dw_h_method_27_code_0 rfl dw_b_L_text_0.2.2.2.2.2.1
theorem dc_L_text_14 : decode method_27_code 14 = .ok (.ireturn, 1) := dw_row (j := 14) dw_h_method_27_code_0 rfl dw_b_L_text_0.2.2.2.2.2.2.1
theorem dc_L_text_6 : decode method_27_code 6 = .ok (.putfield 103, 3) := dw_row (j := 6) dw_h_method_27_code_0 rfl dw_b_L_text_0.2.2.2.2.2.2.2.1
theorem dc_L_text_9 : decode method_27_code 9 = .ok (.goto 6, 3) := dw_row (j := 9) dw_h_method_27_code_0 rfl dw_b_L_text_0.2.2.2.2.2.2.2.2.1
theorem dc_L_text_15 : decode method_27_code 15 = .ok (.iconst 0, 1) := dw_row (j := 15) dw_h_method_27_code_0 rfl dw_b_L_text_0.2.2.2.2.2.2.2.2.2.1
theorem dc_L_text_16 : decode method_27_code 16 = .ok (.ireturn, 1) := dw_row (j := 16) dw_h_method_27_code_0 rfl dw_b_L_text_0.2.2.2.2.2.2.2.2.2.2
def dw_C_method_28_code_0 : List UInt8 := [44, 42, 27, 182, 0, 107, 133, 181, 0, 13, 167, 0, 6, 78, 4, 172, 3, 172]
theorem dw_h_method_28_code_0 : (method_28_code.data.toList.drop 0).take 72 = dw_C_method_28_code_0 := by decide +kernel
theorem dw_b_L_exponent_0 : dw_chk dw_C_method_28_code_0 0 0 (.aload_n 2) 1 = true ∧ dw_chk dw_C_method_28_code_0 1 1 (.aload_n 0) 1 = true ∧ dw_chk dw_C_method_28_code_0 2 2 (.iload_n 1) 1 = true ∧ dw_chk dw_C_method_28_code_0 3 3 (.invokevirtual 107) 3 = true ∧ dw_chk dw_C_method_28_code_0 13 13 (.astore_n 3) 1 = true ∧ dw_chk dw_C_method_28_code_0 14 14 (.iconst 1) 1 = true ∧ dw_chk dw_C_method_28_code_0 15 15 (.ireturn) 1 = true ∧ dw_chk dw_C_method_28_code_0 6 6 (.i2l) 1 = true ∧ dw_chk dw_C_method_28_code_0 7 7 (.putfield 13) 3 = true ∧ dw_chk dw_C_method_28_code_0 10 10 (.goto 6) 3 = true ∧ dw_chk dw_C_method_28_code_0 16 16 (.iconst 0) 1 = true ∧ dw_chk dw_C_method_28_code_0 17 17 (.ireturn) 1 = true := by decide +kernel
theorem dc_L_exponent_0 : decode method_28_code 0 = .ok (.aload_n 2, 1) := dw_row (j := 0) dw_h_method_28_code_0 rfl dw_b_L_exponent_0.1
theorem dc_L_exponent_1 : decode method_28_code 1 = .ok (.aload_n 0, 1) := dw_row (j := 1) dw_h_method_28_code_0 rfl dw_b_L_exponent_0.2.1
theorem dc_L_exponent_2 : decode method_28_code 2 = .ok (.iload_n 1, 1) := dw_row (j := 2) dw_h_method_28_code_0 rfl dw_b_L_exponent_0.2.2.1
theorem dc_L_exponent_3 : decode method_28_code 3 = .ok (.invokevirtual 107, 3) := dw_row (j := 3) dw_h_method_28_code_0 rfl dw_b_L_exponent_0.2.2.2.1
theorem dc_L_exponent_13 : decode method_28_code 13 = .ok (.astore_n 3, 1) := dw_row (j := 13) dw_h_method_28_code_0 rfl dw_b_L_exponent_0.2.2.2.2.1
theorem dc_L_exponent_14 : decode method_28_code 14 = .ok (.iconst 1, 1) := dw_row (j := 14) dw_h_method_28_code_0 rfl dw_b_L_exponent_0.2.2.2.2.2.1
theorem dc_L_exponent_15 : decode method_28_code 15 = .ok (.ireturn, 1) := dw_row (j := 15) dw_h_method_28_code_0 rfl dw_b_L_exponent_0.2.2.2.2.2.2.1
theorem dc_L_exponent_6 : decode method_28_code 6 = .ok (.i2l, 1) := dw_row (j := 6) dw_h_method_28_code_0 rfl dw_b_L_exponent_0.2.2.2.2.2.2.2.1
theorem dc_L_exponent_7 : decode method_28_code 7 = .ok (.putfield 13, 3) := dw_row (j := 7) dw_h_method_28_code_0 rfl dw_b_L_exponent_0.2.2.2.2.2.2.2.2.1
theorem dc_L_exponent_10 : decode method_28_code 10 = .ok (.goto 6, 3) := dw_row (j := 10) dw_h_method_28_code_0 rfl dw_b_L_exponent_0.2.2.2.2.2.2.2.2.2.1
theorem dc_L_exponent_16 : decode method_28_code 16 = .ok (.iconst 0, 1) := dw_row (j := 16) dw_h_method_28_code_0 rfl dw_b_L_exponent_0.2.2.2.2.2.2.2.2.2.2.1
theorem dc_L_exponent_17 : decode method_28_code 17 = .ok (.ireturn, 1) := dw_row (j := 17) dw_h_method_28_code_0 rfl dw_b_L_exponent_0.2.2.2.2.2.2.2.2.2.2.2
def dw_C_method_29_code_0 : List UInt8 := [45, 42, 27, 28, 182, 0, 110, 133, 181, 0, 13, 167, 0, 7, 58, 4, 4, 172, 3, 172]
theorem dw_h_method_29_code_0 : (method_29_code.data.toList.drop 0).take 72 = dw_C_method_29_code_0 := by decide +kernel
theorem dw_b_L_round_0 : dw_chk dw_C_method_29_code_0 0 0 (.aload_n 3) 1 = true ∧ dw_chk dw_C_method_29_code_0 1 1 (.aload_n 0) 1 = true ∧ dw_chk dw_C_method_29_code_0 2 2 (.iload_n 1) 1 = true ∧ dw_chk dw_C_method_29_code_0 3 3 (.iload_n 2) 1 = true ∧ dw_chk dw_C_method_29_code_0 4 4 (.invokevirtual 110) 3 = true ∧ dw_chk dw_C_method_29_code_0 14 14 (.astore 4) 2 = true ∧ dw_chk dw_C_method_29_code_0 16 16 (.iconst 1) 1 = true ∧ dw_chk dw_C_method_29_code_0 17 17 (.ireturn) 1 = true ∧ dw_chk dw_C_method_29_code_0 7 7 (.i2l) 1 = true ∧ dw_chk dw_C_method_29_code_0 8 8 (.putfield 13) 3 = true ∧ dw_chk dw_C_method_29_code_0 11 11 (.goto 7) 3 = true ∧ dw_chk dw_C_method_29_code_0 18 18 (.iconst 0) 1 = true ∧ dw_chk dw_C_method_29_code_0 19 19 (.ireturn) 1 = true := by decide +kernel
theorem dc_L_round_0 : decode method_29_code 0 = .ok (.aload_n 3, 1) := dw_row (j := 0) dw_h_method_29_code_0 rfl dw_b_L_round_0.1
theorem dc_L_round_1 : decode method_29_code 1 = .ok (.aload_n 0, 1) := dw_row (j := 1) dw_h_method_29_code_0 rfl dw_b_L_round_0.2.1
theorem dc_L_round_2 : decode method_29_code 2 = .ok (.iload_n 1, 1) := dw_row (j := 2) dw_h_method_29_code_0 rfl dw_b_L_round_0.2.2.1
theorem dc_L_round_3 : decode method_29_code 3 = .ok (.iload_n 2, 1) := dw_row (j := 3) dw_h_method_29_code_0 rfl dw_b_L_round_0.2.2.2.1
theorem dc_L_round_4 : decode method_29_code 4 = .ok (.invokevirtual 110, 3) := dw_row (j := 4) dw_h_method_29_code_0 rfl dw_b_L_round_0.2.2.2.2.1
theorem dc_L_round_14 : decode method_29_code 14 = .ok (.astore 4, 2) := dw_row (j := 14) dw_h_method_29_code_0 rfl dw_b_L_round_0.2.2.2.2.2.1
theorem dc_L_round_16 : decode method_29_code 16 = .ok (.iconst 1, 1) := dw_row (j := 16) dw_h_method_29_code_0 rfl dw_b_L_round_0.2.2.2.2.2.2.1
theorem dc_L_round_17 : decode method_29_code 17 = .ok (.ireturn, 1) := dw_row (j := 17) dw_h_method_29_code_0 rfl dw_b_L_round_0.2.2.2.2.2.2.2.1
theorem dc_L_round_7 : decode method_29_code 7 = .ok (.i2l, 1) := dw_row (j := 7) dw_h_method_29_code_0 rfl dw_b_L_round_0.2.2.2.2.2.2.2.2.1
theorem dc_L_round_8 : decode method_29_code 8 = .ok (.putfield 13, 3) := dw_row (j := 8) dw_h_method_29_code_0 rfl dw_b_L_round_0.2.2.2.2.2.2.2.2.2.1
theorem dc_L_round_11 : decode method_29_code 11 = .ok (.goto 7, 3) := dw_row (j := 11) dw_h_method_29_code_0 rfl dw_b_L_round_0.2.2.2.2.2.2.2.2.2.2.1
theorem dc_L_round_18 : decode method_29_code 18 = .ok (.iconst 0, 1) := dw_row (j := 18) dw_h_method_29_code_0 rfl dw_b_L_round_0.2.2.2.2.2.2.2.2.2.2.2.1
theorem dc_L_round_19 : decode method_29_code 19 = .ok (.ireturn, 1) := dw_row (j := 19) dw_h_method_29_code_0 rfl dw_b_L_round_0.2.2.2.2.2.2.2.2.2.2.2.2
def dw_C_method_30_code_0 : List UInt8 := [44, 42, 27, 182, 0, 113, 181, 0, 103, 167, 0, 6, 78, 4, 172, 3, 172]
theorem dw_h_method_30_code_0 : (method_30_code.data.toList.drop 0).take 72 = dw_C_method_30_code_0 := by decide +kernel
theorem dw_b_L_rounded_0 : dw_chk dw_C_method_30_code_0 0 0 (.aload_n 2) 1 = true ∧ dw_chk dw_C_method_30_code_0 1 1 (.aload_n 0) 1 = true ∧ dw_chk dw_C_method_30_code_0 2 2 (.iload_n 1) 1 = true ∧ dw_chk dw_C_method_30_code_0 3 3 (.invokevirtual 113) 3 = true ∧ dw_chk dw_C_method_30_code_0 12 12 (.astore_n 3) 1 = true ∧ dw_chk dw_C_method_30_code_0 13 13 (.iconst 1) 1 = true ∧ dw_chk dw_C_method_30_code_0 14 14 (.ireturn) 1 = true ∧ dw_chk dw_C_method_30_code_0 6 6 (.putfield 103) 3 = true ∧ dw_chk dw_C_method_30_code_0 9 9 (.goto 6) 3 = true ∧ dw_chk dw_C_method_30_code_0 15 15 (.iconst 0) 1 = true ∧ dw_chk dw_C_method_30_code_0 16 16 (.ireturn) 1 = true := by decide +kernel
theorem dc_L_rounded_0 : decode method_30_code 0 = .ok (.aload_n 2, 1) := dw_row (j := 0) dw_h_method_30_code_0 rfl dw_b_L_rounded_0.1
theorem dc_L_rounded_1 : decode method_30_code 1 = .ok (.aload_n 0, 1) := dw_row (j := 1) dw_h_method_30_code_0 rfl dw_b_L_rounded_0.2.1
theorem dc_L_rounded_2 : decode method_30_code 2 = .ok (.iload_n 1, 1) := dw_row (j := 2) dw_h_method_30_code_0 rfl dw_b_L_rounded_0.2.2.1
theorem dc_L_rounded_3 : decode method_30_code 3 = .ok (.invokevirtual 113, 3) := dw_row (j := 3) dw_h_method_30_code_0 rfl dw_b_L_rounded_0.2.2.2.1
theorem dc_L_rounded_12 : decode method_30_code 12 = .ok (.astore_n 3, 1) := dw_row (j := 12) dw_h_method_30_code_0 rfl dw_b_L_rounded_0.2.2.2.2.1
theorem dc_L_rounded_13 : decode method_30_code 13 = .ok (.iconst 1, 1) := dw_row (j := 13) dw_h_method_30_code_0 rfl dw_b_L_rounded_0.2.2.2.2.2.1
theorem dc_L_rounded_14 : decode method_30_code 14 = .ok (.ireturn, 1) := dw_row (j := 14) dw_h_method_30_code_0 rfl dw_b_L_rounded_0.2.2.2.2.2.2.1
theorem dc_L_rounded_6 : decode method_30_code 6 = .ok (.putfield 103, 3) := dw_row (j := 6) dw_h_method_30_code_0 rfl dw_b_L_rounded_0.2.2.2.2.2.2.2.1
theorem dc_L_rounded_9 : decode method_30_code 9 = .ok (.goto 6, 3) := dw_row (j := 9) dw_h_method_30_code_0 rfl dw_b_L_rounded_0.2.2.2.2.2.2.2.2.1
theorem dc_L_rounded_15 : decode method_30_code 15 = .ok (.iconst 0, 1) := dw_row (j := 15) dw_h_method_30_code_0 rfl dw_b_L_rounded_0.2.2.2.2.2.2.2.2.2.1
theorem dc_L_rounded_16 : decode method_30_code 16 = .ok (.ireturn, 1) := dw_row (j := 16) dw_h_method_30_code_0 rfl dw_b_L_rounded_0.2.2.2.2.2.2.2.2.2.2
def dw_C_method_31_code_0 : List UInt8 := [44, 42, 27, 182, 0, 116, 181, 0, 103, 167, 0, 6, 78, 4, 172, 3, 172]
theorem dw_h_method_31_code_0 : (method_31_code.data.toList.drop 0).take 72 = dw_C_method_31_code_0 := by decide +kernel
theorem dw_b_L_cut_0 : dw_chk dw_C_method_31_code_0 0 0 (.aload_n 2) 1 = true ∧ dw_chk dw_C_method_31_code_0 1 1 (.aload_n 0) 1 = true ∧ dw_chk dw_C_method_31_code_0 2 2 (.iload_n 1) 1 = true ∧ dw_chk dw_C_method_31_code_0 3 3 (.invokevirtual 116) 3 = true ∧ dw_chk dw_C_method_31_code_0 12 12 (.astore_n 3) 1 = true ∧ dw_chk dw_C_method_31_code_0 13 13 (.iconst 1) 1 = true ∧ dw_chk dw_C_method_31_code_0 14 14 (.ireturn) 1 = true ∧ dw_chk dw_C_method_31_code_0 6 6 (.putfield 103) 3 = true ∧ dw_chk dw_C_method_31_code_0 9 9 (.goto 6) 3 = true ∧ dw_chk dw_C_method_31_code_0 15 15 (.iconst 0) 1 = true ∧ dw_chk dw_C_method_31_code_0 16 16 (.ireturn) 1 = true := by decide +kernel
theorem dc_L_cut_0 : decode method_31_code 0 = .ok (.aload_n 2, 1) := dw_row (j := 0) dw_h_method_31_code_0 rfl dw_b_L_cut_0.1
theorem dc_L_cut_1 : decode method_31_code 1 = .ok (.aload_n 0, 1) := dw_row (j := 1) dw_h_method_31_code_0 rfl dw_b_L_cut_0.2.1
theorem dc_L_cut_2 : decode method_31_code 2 = .ok (.iload_n 1, 1) := dw_row (j := 2) dw_h_method_31_code_0 rfl dw_b_L_cut_0.2.2.1
theorem dc_L_cut_3 : decode method_31_code 3 = .ok (.invokevirtual 116, 3) := dw_row (j := 3) dw_h_method_31_code_0 rfl dw_b_L_cut_0.2.2.2.1
theorem dc_L_cut_12 : decode method_31_code 12 = .ok (.astore_n 3, 1) := dw_row (j := 12) dw_h_method_31_code_0 rfl dw_b_L_cut_0.2.2.2.2.1
theorem dc_L_cut_13 : decode method_31_code 13 = .ok (.iconst 1, 1) := dw_row (j := 13) dw_h_method_31_code_0 rfl dw_b_L_cut_0.2.2.2.2.2.1
theorem dc_L_cut_14 : decode method_31_code 14 = .ok (.ireturn, 1) := dw_row (j := 14) dw_h_method_31_code_0 rfl dw_b_L_cut_0.2.2.2.2.2.2.1
theorem dc_L_cut_6 : decode method_31_code 6 = .ok (.putfield 103, 3) := dw_row (j := 6) dw_h_method_31_code_0 rfl dw_b_L_cut_0.2.2.2.2.2.2.2.1
theorem dc_L_cut_9 : decode method_31_code 9 = .ok (.goto 6, 3) := dw_row (j := 9) dw_h_method_31_code_0 rfl dw_b_L_cut_0.2.2.2.2.2.2.2.2.1
theorem dc_L_cut_15 : decode method_31_code 15 = .ok (.iconst 0, 1) := dw_row (j := 15) dw_h_method_31_code_0 rfl dw_b_L_cut_0.2.2.2.2.2.2.2.2.2.1
theorem dc_L_cut_16 : decode method_31_code 16 = .ok (.ireturn, 1) := dw_row (j := 16) dw_h_method_31_code_0 rfl dw_b_L_cut_0.2.2.2.2.2.2.2.2.2.2
def dw_C_method_32_code_0 : List UInt8 := [44, 42, 27, 182, 0, 119, 133, 181, 0, 13, 167, 0, 6, 78, 4, 172, 3, 172]
theorem dw_h_method_32_code_0 : (method_32_code.data.toList.drop 0).take 72 = dw_C_method_32_code_0 := by decide +kernel
theorem dw_b_L_shortened_0 : dw_chk dw_C_method_32_code_0 0 0 (.aload_n 2) 1 = true ∧ dw_chk dw_C_method_32_code_0 1 1 (.aload_n 0) 1 = true ∧ dw_chk dw_C_method_32_code_0 2 2 (.iload_n 1) 1 = true ∧ dw_chk dw_C_method_32_code_0 3 3 (.invokevirtual 119) 3 = true ∧ dw_chk dw_C_method_32_code_0 13 13 (.astore_n 3) 1 = true ∧ dw_chk dw_C_method_32_code_0 14 14 (.iconst 1) 1 = true ∧ dw_chk dw_C_method_32_code_0 15 15 (.ireturn) 1 = true ∧ dw_chk dw_C_method_32_code_0 6 6 (.i2l) 1 = true ∧ dw_chk dw_C_method_32_code_0 7 7 (.putfield 13) 3 = true ∧ dw_chk dw_C_method_32_code_0 10 10 (.goto 6) 3 = true ∧ dw_chk dw_C_method_32_code_0 16 16 (.iconst 0) 1 = true ∧ dw_chk dw_C_method_32_code_0 17 17 (.ireturn) 1 = true := by decide +kernel
theorem dc_L_shortened_0 : decode method_32_code 0 = .ok (.aload_n 2, 1) := dw_row (j := 0) dw_h_method_32_code_0 rfl dw_b_L_shortened_0.1
theorem dc_L_shortened_1 : decode method_32_code 1 = .ok (.aload_n 0, 1) := dw_row (j := 1) dw_h_method_32_code_0 rfl dw_b_L_shortened_0.2.1
theorem dc_L_shortened_2 : decode method_32_code 2 = .ok (.iload_n 1, 1) := dw_row (j := 2) dw_h_method_32_code_0 rfl dw_b_L_shortened_0.2.2.1
theorem dc_L_shortened_3 : decode method_32_code 3 = .ok (.invokevirtual 119, 3) := dw_row (j := 3) dw_h_method_32_code_0 rfl dw_b_L_shortened_0.2.2.2.1
theorem dc_L_shortened_13 : decode method_32_code 13 = .ok (.astore_n 3, 1) := dw_row (j := 13) dw_h_method_32_code_0 rfl dw_b_L_shortened_0.2.2.2.2.1
theorem dc_L_shortened_14 : decode method_32_code 14 = .ok (.iconst 1, 1) := dw_row (j := 14) dw_h_method_32_code_0 rfl dw_b_L_shortened_0.2.2.2.2.2.1
theorem dc_L_shortened_15 : decode method_32_code 15 = .ok (.ireturn, 1) := dw_row (j := 15) dw_h_method_32_code_0 rfl dw_b_L_shortened_0.2.2.2.2.2.2.1
theorem dc_L_shortened_6 : decode method_32_code 6 = .ok (.i2l, 1) := dw_row (j := 6) dw_h_method_32_code_0 rfl dw_b_L_shortened_0.2.2.2.2.2.2.2.1
theorem dc_L_shortened_7 : decode method_32_code 7 = .ok (.putfield 13, 3) := dw_row (j := 7) dw_h_method_32_code_0 rfl dw_b_L_shortened_0.2.2.2.2.2.2.2.2.1
theorem dc_L_shortened_10 : decode method_32_code 10 = .ok (.goto 6, 3) := dw_row (j := 10) dw_h_method_32_code_0 rfl dw_b_L_shortened_0.2.2.2.2.2.2.2.2.2.1
theorem dc_L_shortened_16 : decode method_32_code 16 = .ok (.iconst 0, 1) := dw_row (j := 16) dw_h_method_32_code_0 rfl dw_b_L_shortened_0.2.2.2.2.2.2.2.2.2.2.1
theorem dc_L_shortened_17 : decode method_32_code 17 = .ok (.ireturn, 1) := dw_row (j := 17) dw_h_method_32_code_0 rfl dw_b_L_shortened_0.2.2.2.2.2.2.2.2.2.2.2
def dw_C_method_33_code_0 : List UInt8 := [44, 42, 27, 182, 0, 122, 133, 181, 0, 13, 167, 0, 6, 78, 4, 172, 3, 172]
theorem dw_h_method_33_code_0 : (method_33_code.data.toList.drop 0).take 72 = dw_C_method_33_code_0 := by decide +kernel
theorem dw_b_L_signed_0 : dw_chk dw_C_method_33_code_0 0 0 (.aload_n 2) 1 = true ∧ dw_chk dw_C_method_33_code_0 1 1 (.aload_n 0) 1 = true ∧ dw_chk dw_C_method_33_code_0 2 2 (.iload_n 1) 1 = true ∧ dw_chk dw_C_method_33_code_0 3 3 (.invokevirtual 122) 3 = true ∧ dw_chk dw_C_method_33_code_0 13 13 (.astore_n 3) 1 = true ∧ dw_chk dw_C_method_33_code_0 14 14 (.iconst 1) 1 = true ∧ dw_chk dw_C_method_33_code_0 15 15 (.ireturn) 1 = true ∧ dw_chk dw_C_method_33_code_0 6 6 (.i2l) 1 = true ∧ dw_chk dw_C_method_33_code_0 7 7 (.putfield 13) 3 = true ∧ dw_chk dw_C_method_33_code_0 10 10 (.goto 6) 3 = true ∧ dw_chk dw_C_method_33_code_0 16 16 (.iconst 0) 1 = true ∧ dw_chk dw_C_method_33_code_0 17 17 (.ireturn) 1 = true := by decide +kernel
theorem dc_L_signed_0 : decode method_33_code 0 = .ok (.aload_n 2, 1) := dw_row (j := 0) dw_h_method_33_code_0 rfl dw_b_L_signed_0.1
theorem dc_L_signed_1 : decode method_33_code 1 = .ok (.aload_n 0, 1) := dw_row (j := 1) dw_h_method_33_code_0 rfl dw_b_L_signed_0.2.1
theorem dc_L_signed_2 : decode method_33_code 2 = .ok (.iload_n 1, 1) := dw_row (j := 2) dw_h_method_33_code_0 rfl dw_b_L_signed_0.2.2.1
theorem dc_L_signed_3 : decode method_33_code 3 = .ok (.invokevirtual 122, 3) := dw_row (j := 3) dw_h_method_33_code_0 rfl dw_b_L_signed_0.2.2.2.1
theorem dc_L_signed_13 : decode method_33_code 13 = .ok (.astore_n 3, 1) := dw_row (j := 13) dw_h_method_33_code_0 rfl dw_b_L_signed_0.2.2.2.2.1
theorem dc_L_signed_14 : decode method_33_code 14 = .ok (.iconst 1, 1) := dw_row (j := 14) dw_h_method_33_code_0 rfl dw_b_L_signed_0.2.2.2.2.2.1
theorem dc_L_signed_15 : decode method_33_code 15 = .ok (.ireturn, 1) := dw_row (j := 15) dw_h_method_33_code_0 rfl dw_b_L_signed_0.2.2.2.2.2.2.1
theorem dc_L_signed_6 : decode method_33_code 6 = .ok (.i2l, 1) := dw_row (j := 6) dw_h_method_33_code_0 rfl dw_b_L_signed_0.2.2.2.2.2.2.2.1
theorem dc_L_signed_7 : decode method_33_code 7 = .ok (.putfield 13, 3) := dw_row (j := 7) dw_h_method_33_code_0 rfl dw_b_L_signed_0.2.2.2.2.2.2.2.2.1
theorem dc_L_signed_10 : decode method_33_code 10 = .ok (.goto 6, 3) := dw_row (j := 10) dw_h_method_33_code_0 rfl dw_b_L_signed_0.2.2.2.2.2.2.2.2.2.1
theorem dc_L_signed_16 : decode method_33_code 16 = .ok (.iconst 0, 1) := dw_row (j := 16) dw_h_method_33_code_0 rfl dw_b_L_signed_0.2.2.2.2.2.2.2.2.2.2.1
theorem dc_L_signed_17 : decode method_33_code 17 = .ok (.ireturn, 1) := dw_row (j := 17) dw_h_method_33_code_0 rfl dw_b_L_signed_0.2.2.2.2.2.2.2.2.2.2.2
def dw_C_method_34_code_0 : List UInt8 := [44, 42, 27, 182, 0, 125, 153, 0, 7, 10, 167, 0, 4, 9, 181, 0, 13, 167, 0, 6, 78, 4, 172, 3, 172]
theorem dw_h_method_34_code_0 : (method_34_code.data.toList.drop 0).take 72 = dw_C_method_34_code_0 := by decide +kernel
theorem dw_b_L_isWhole_0 : dw_chk dw_C_method_34_code_0 0 0 (.aload_n 2) 1 = true ∧ dw_chk dw_C_method_34_code_0 1 1 (.aload_n 0) 1 = true ∧ dw_chk dw_C_method_34_code_0 2 2 (.iload_n 1) 1 = true ∧ dw_chk dw_C_method_34_code_0 3 3 (.invokevirtual 125) 3 = true ∧ dw_chk dw_C_method_34_code_0 20 20 (.astore_n 3) 1 = true ∧ dw_chk dw_C_method_34_code_0 21 21 (.iconst 1) 1 = true ∧ dw_chk dw_C_method_34_code_0 22 22 (.ireturn) 1 = true ∧ dw_chk dw_C_method_34_code_0 6 6 (.ifCond .eq 7) 3 = true ∧ dw_chk dw_C_method_34_code_0 13 13 (.lconst 0) 1 = true ∧ dw_chk dw_C_method_34_code_0 14 14 (.putfield 13) 3 = true ∧ dw_chk dw_C_method_34_code_0 17 17 (.goto 6) 3 = true ∧ dw_chk dw_C_method_34_code_0 23 23 (.iconst 0) 1 = true ∧ dw_chk dw_C_method_34_code_0 24 24 (.ireturn) 1 = true ∧ dw_chk dw_C_method_34_code_0 9 9 (.lconst 1) 1 = true ∧ dw_chk dw_C_method_34_code_0 10 10 (.goto 4) 3 = true := by decide +kernel
theorem dc_L_isWhole_0 : decode method_34_code 0 = .ok (.aload_n 2, 1) := dw_row (j := 0) dw_h_method_34_code_0 rfl dw_b_L_isWhole_0.1
theorem dc_L_isWhole_1 : decode method_34_code 1 = .ok (.aload_n 0, 1) := dw_row (j := 1) dw_h_method_34_code_0 rfl dw_b_L_isWhole_0.2.1
theorem dc_L_isWhole_2 : decode method_34_code 2 = .ok (.iload_n 1, 1) := dw_row (j := 2) dw_h_method_34_code_0 rfl dw_b_L_isWhole_0.2.2.1
theorem dc_L_isWhole_3 : decode method_34_code 3 = .ok (.invokevirtual 125, 3) := dw_row (j := 3) dw_h_method_34_code_0 rfl dw_b_L_isWhole_0.2.2.2.1
theorem dc_L_isWhole_20 : decode method_34_code 20 = .ok (.astore_n 3, 1) := dw_row (j := 20) dw_h_method_34_code_0 rfl dw_b_L_isWhole_0.2.2.2.2.1
theorem dc_L_isWhole_21 : decode method_34_code 21 = .ok (.iconst 1, 1) := dw_row (j := 21) dw_h_method_34_code_0 rfl dw_b_L_isWhole_0.2.2.2.2.2.1
theorem dc_L_isWhole_22 : decode method_34_code 22 = .ok (.ireturn, 1) := dw_row (j := 22) dw_h_method_34_code_0 rfl dw_b_L_isWhole_0.2.2.2.2.2.2.1
theorem dc_L_isWhole_6 : decode method_34_code 6 = .ok (.ifCond .eq 7, 3) := dw_row (j := 6) dw_h_method_34_code_0 rfl dw_b_L_isWhole_0.2.2.2.2.2.2.2.1
theorem dc_L_isWhole_13 : decode method_34_code 13 = .ok (.lconst 0, 1) := dw_row (j := 13) dw_h_method_34_code_0 rfl dw_b_L_isWhole_0.2.2.2.2.2.2.2.2.1
theorem dc_L_isWhole_14 : decode method_34_code 14 = .ok (.putfield 13, 3) := dw_row (j := 14) dw_h_method_34_code_0 rfl dw_b_L_isWhole_0.2.2.2.2.2.2.2.2.2.1
theorem dc_L_isWhole_17 : decode method_34_code 17 = .ok (.goto 6, 3) := dw_row (j := 17) dw_h_method_34_code_0 rfl dw_b_L_isWhole_0.2.2.2.2.2.2.2.2.2.2.1
theorem dc_L_isWhole_23 : decode method_34_code 23 = .ok (.iconst 0, 1) := dw_row (j := 23) dw_h_method_34_code_0 rfl dw_b_L_isWhole_0.2.2.2.2.2.2.2.2.2.2.2.1
theorem dc_L_isWhole_24 : decode method_34_code 24 = .ok (.ireturn, 1) := dw_row (j := 24) dw_h_method_34_code_0 rfl dw_b_L_isWhole_0.2.2.2.2.2.2.2.2.2.2.2.2.1
theorem dc_L_isWhole_9 : decode method_34_code 9 = .ok (.lconst 1, 1) := dw_row (j := 9) dw_h_method_34_code_0 rfl dw_b_L_isWhole_0.2.2.2.2.2.2.2.2.2.2.2.2.2.1
theorem dc_L_isWhole_10 : decode method_34_code 10 = .ok (.goto 4, 3) := dw_row (j := 10) dw_h_method_34_code_0 rfl dw_b_L_isWhole_0.2.2.2.2.2.2.2.2.2.2.2.2.2.2
def dw_C_method_35_code_0 : List UInt8 := [45, 42, 27, 28, 182, 0, 129, 133, 181, 0, 13, 167, 0, 7, 58, 4, 4, 172, 3, 172]
theorem dw_h_method_35_code_0 : (method_35_code.data.toList.drop 0).take 72 = dw_C_method_35_code_0 := by decide +kernel
theorem dw_b_L_compare_0 : dw_chk dw_C_method_35_code_0 0 0 (.aload_n 3) 1 = true ∧ dw_chk dw_C_method_35_code_0 1 1 (.aload_n 0) 1 = true ∧ dw_chk dw_C_method_35_code_0 2 2 (.iload_n 1) 1 = true ∧ dw_chk dw_C_method_35_code_0 3 3 (.iload_n 2) 1 = true ∧ dw_chk dw_C_method_35_code_0 4 4 (.invokevirtual 129) 3 = true ∧ dw_chk dw_C_method_35_code_0 14 14 (.astore 4) 2 = true ∧ dw_chk dw_C_method_35_code_0 16 16 (.iconst 1) 1 = true ∧ dw_chk dw_C_method_35_code_0 17 17 (.ireturn) 1 = true ∧ dw_chk dw_C_method_35_code_0 7 7 (.i2l) 1 = true ∧ dw_chk dw_C_method_35_code_0 8 8 (.putfield 13) 3 = true ∧ dw_chk dw_C_method_35_code_0 11 11 (.goto 7) 3 = true ∧ dw_chk dw_C_method_35_code_0 18 18 (.iconst 0) 1 = true ∧ dw_chk dw_C_method_35_code_0 19 19 (.ireturn) 1 = true := by decide +kernel
theorem dc_L_compare_0 : decode method_35_code 0 = .ok (.aload_n 3, 1) := dw_row (j := 0) dw_h_method_35_code_0 rfl dw_b_L_compare_0.1
theorem dc_L_compare_1 : decode method_35_code 1 = .ok (.aload_n 0, 1) := dw_row (j := 1) dw_h_method_35_code_0 rfl dw_b_L_compare_0.2.1
theorem dc_L_compare_2 : decode method_35_code 2 = .ok (.iload_n 1, 1) := dw_row (j := 2) dw_h_method_35_code_0 rfl dw_b_L_compare_0.2.2.1
theorem dc_L_compare_3 : decode method_35_code 3 = .ok (.iload_n 2, 1) := dw_row (j := 3) dw_h_method_35_code_0 rfl dw_b_L_compare_0.2.2.2.1
theorem dc_L_compare_4 : decode method_35_code 4 = .ok (.invokevirtual 129, 3) := dw_row (j := 4) dw_h_method_35_code_0 rfl dw_b_L_compare_0.2.2.2.2.1
theorem dc_L_compare_14 : decode method_35_code 14 = .ok (.astore 4, 2) := dw_row (j := 14) dw_h_method_35_code_0 rfl dw_b_L_compare_0.2.2.2.2.2.1
theorem dc_L_compare_16 : decode method_35_code 16 = .ok (.iconst 1, 1) := dw_row (j := 16) dw_h_method_35_code_0 rfl dw_b_L_compare_0.2.2.2.2.2.2.1
theorem dc_L_compare_17 : decode method_35_code 17 = .ok (.ireturn, 1) := dw_row (j := 17) dw_h_method_35_code_0 rfl dw_b_L_compare_0.2.2.2.2.2.2.2.1
theorem dc_L_compare_7 : decode method_35_code 7 = .ok (.i2l, 1) := dw_row (j := 7) dw_h_method_35_code_0 rfl dw_b_L_compare_0.2.2.2.2.2.2.2.2.1
theorem dc_L_compare_8 : decode method_35_code 8 = .ok (.putfield 13, 3) := dw_row (j := 8) dw_h_method_35_code_0 rfl dw_b_L_compare_0.2.2.2.2.2.2.2.2.2.1
theorem dc_L_compare_11 : decode method_35_code 11 = .ok (.goto 7, 3) := dw_row (j := 11) dw_h_method_35_code_0 rfl dw_b_L_compare_0.2.2.2.2.2.2.2.2.2.2.1
theorem dc_L_compare_18 : decode method_35_code 18 = .ok (.iconst 0, 1) := dw_row (j := 18) dw_h_method_35_code_0 rfl dw_b_L_compare_0.2.2.2.2.2.2.2.2.2.2.2.1
theorem dc_L_compare_19 : decode method_35_code 19 = .ok (.ireturn, 1) := dw_row (j := 19) dw_h_method_35_code_0 rfl dw_b_L_compare_0.2.2.2.2.2.2.2.2.2.2.2.2
def dw_C_method_36_code_0 : List UInt8 := [45, 42, 27, 28, 182, 0, 132, 153, 0, 7, 10, 167, 0, 4, 9, 181, 0, 13, 167, 0, 7, 58, 4, 4, 172, 3, 172]
theorem dw_h_method_36_code_0 : (method_36_code.data.toList.drop 0).take 72 = dw_C_method_36_code_0 := by decide +kernel
theorem dw_b_L_areLike_0 : dw_chk dw_C_method_36_code_0 0 0 (.aload_n 3) 1 = true ∧ dw_chk dw_C_method_36_code_0 1 1 (.aload_n 0) 1 = true ∧ dw_chk dw_C_method_36_code_0 2 2 (.iload_n 1) 1 = true ∧ dw_chk dw_C_method_36_code_0 3 3 (.iload_n 2) 1 = true ∧ dw_chk dw_C_method_36_code_0 4 4 (.invokevirtual 132) 3 = true ∧ dw_chk dw_C_method_36_code_0 21 21 (.astore 4) 2 = true ∧ dw_chk dw_C_method_36_code_0 23 23 (.iconst 1) 1 = true ∧ dw_chk dw_C_method_36_code_0 24 24 (.ireturn) 1 = true ∧ dw_chk dw_C_method_36_code_0 7 7 (.ifCond .eq 7) 3 = true ∧ dw_chk dw_C_method_36_code_0 14 14 (.lconst 0) 1 = true ∧ dw_chk dw_C_method_36_code_0 15 15 (.putfield 13) 3 = true ∧ dw_chk dw_C_method_36_code_0 18 18 (.goto 7) 3 = true ∧ dw_chk dw_C_method_36_code_0 25 25 (.iconst 0) 1 = true ∧ dw_chk dw_C_method_36_code_0 26 26 (.ireturn) 1 = true ∧ dw_chk dw_C_method_36_code_0 10 10 (.lconst 1) 1 = true ∧ dw_chk dw_C_method_36_code_0 11 11 (.goto 4) 3 = true := by decide +kernel
theorem dc_L_areLike_0 : decode method_36_code 0 = .ok (.aload_n 3, 1) := dw_row (j := 0) dw_h_method_36_code_0 rfl dw_b_L_areLike_0.1
theorem dc_L_areLike_1 : decode method_36_code 1 = .ok (.aload_n 0, 1) := dw_row (j := 1) dw_h_method_36_code_0 rfl dw_b_L_areLike_0.2.1
theorem dc_L_areLike_2 : decode method_36_code 2 = .ok (.iload_n 1, 1) := dw_row (j := 2) dw_h_method_36_code_0 rfl dw_b_L_areLike_0.2.2.1
theorem dc_L_areLike_3 : decode method_36_code 3 = .ok (.iload_n 2, 1) := dw_row (j := 3) dw_h_method_36_code_0 rfl dw_b_L_areLike_0.2.2.2.1
theorem dc_L_areLike_4 : decode method_36_code 4 = .ok (.invokevirtual 132, 3) := dw_row (j := 4) dw_h_method_36_code_0 rfl dw_b_L_areLike_0.2.2.2.2.1
theorem dc_L_areLike_21 : decode method_36_code 21 = .ok (.astore 4, 2) := dw_row (j := 21) dw_h_method_36_code_0 rfl dw_b_L_areLike_0.2.2.2.2.2.1
theorem dc_L_areLike_23 : decode method_36_code 23 = .ok (.iconst 1, 1) := dw_row (j := 23) dw_h_method_36_code_0 rfl dw_b_L_areLike_0.2.2.2.2.2.2.1
theorem dc_L_areLike_24 : decode method_36_code 24 = .ok (.ireturn, 1) := dw_row (j := 24) dw_h_method_36_code_0 rfl dw_b_L_areLike_0.2.2.2.2.2.2.2.1
theorem dc_L_areLike_7 : decode method_36_code 7 = .ok (.ifCond .eq 7, 3) := dw_row (j := 7) dw_h_method_36_code_0 rfl dw_b_L_areLike_0.2.2.2.2.2.2.2.2.1
theorem dc_L_areLike_14 : decode method_36_code 14 = .ok (.lconst 0, 1) := dw_row (j := 14) dw_h_method_36_code_0 rfl dw_b_L_areLike_0.2.2.2.2.2.2.2.2.2.1
theorem dc_L_areLike_15 : decode method_36_code 15 = .ok (.putfield 13, 3) := dw_row (j := 15) dw_h_method_36_code_0 rfl dw_b_L_areLike_0.2.2.2.2.2.2.2.2.2.2.1
theorem dc_L_areLike_18 : decode method_36_code 18 = .ok (.goto 7, 3) := dw_row (j := 18) dw_h_method_36_code_0 rfl dw_b_L_areLike_0.2.2.2.2.2.2.2.2.2.2.2.1
theorem dc_L_areLike_25 : decode method_36_code 25 = .ok (.iconst 0, 1) := dw_row (j := 25) dw_h_method_36_code_0 rfl dw_b_L_areLike_0.2.2.2.2.2.2.2.2.2.2.2.2.1
theorem dc_L_areLike_26 : decode method_36_code 26 = .ok (.ireturn, 1) := dw_row (j := 26) dw_h_method_36_code_0 rfl dw_b_L_areLike_0.2.2.2.2.2.2.2.2.2.2.2.2.2.1
theorem dc_L_areLike_10 : decode method_36_code 10 = .ok (.lconst 1, 1) := dw_row (j := 10) dw_h_method_36_code_0 rfl dw_b_L_areLike_0.2.2.2.2.2.2.2.2.2.2.2.2.2.2.1
theorem dc_L_areLike_11 : decode method_36_code 11 = .ok (.goto 4, 3) := dw_row (j := 11) dw_h_method_36_code_0 rfl dw_b_L_areLike_0.2.2.2.2.2.2.2.2.2.2.2.2.2.2.2
def dw_C_method_37_code_0 : List UInt8 := [45, 42, 27, 28, 182, 0, 136, 153, 0, 7, 10, 167, 0, 4, 9, 181, 0, 13, 167, 0, 7, 58, 4, 4, 172, 3, 172]
theorem dw_h_method_37_code_0 : (method_37_code.data.toList.drop 0).take 72 = dw_C_method_37_code_0 := by decide +kernel
theorem dw_b_L_isBelow_0 : dw_chk dw_C_method_37_code_0 0 0 (.aload_n 3) 1 = true ∧ dw_chk dw_C_method_37_code_0 1 1 (.aload_n 0) 1 = true ∧ dw_chk dw_C_method_37_code_0 2 2 (.iload_n 1) 1 = true ∧ dw_chk dw_C_method_37_code_0 3 3 (.iload_n 2) 1 = true ∧ dw_chk dw_C_method_37_code_0 4 4 (.invokevirtual 136) 3 = true ∧ dw_chk dw_C_method_37_code_0 21 21 (.astore 4) 2 = true ∧ dw_chk dw_C_method_37_code_0 23 23 (.iconst 1) 1 = true ∧ dw_chk dw_C_method_37_code_0 24 24 (.ireturn) 1 = true ∧ dw_chk dw_C_method_37_code_0 7 7 (.ifCond .eq 7) 3 = true ∧ dw_chk dw_C_method_37_code_0 14 14 (.lconst 0) 1 = true ∧ dw_chk dw_C_method_37_code_0 15 15 (.putfield 13) 3 = true ∧ dw_chk dw_C_method_37_code_0 18 18 (.goto 7) 3 = true ∧ dw_chk dw_C_method_37_code_0 25 25 (.iconst 0) 1 = true ∧ dw_chk dw_C_method_37_code_0 26 26 (.ireturn) 1 = true ∧ dw_chk dw_C_method_37_code_0 10 10 (.lconst 1) 1 = true ∧ dw_chk dw_C_method_37_code_0 11 11 (.goto 4) 3 = true := by decide +kernel
theorem dc_L_isBelow_0 : decode method_37_code 0 = .ok (.aload_n 3, 1) := dw_row (j := 0) dw_h_method_37_code_0 rfl dw_b_L_isBelow_0.1
theorem dc_L_isBelow_1 : decode method_37_code 1 = .ok (.aload_n 0, 1) := dw_row (j := 1) dw_h_method_37_code_0 rfl dw_b_L_isBelow_0.2.1
theorem dc_L_isBelow_2 : decode method_37_code 2 = .ok (.iload_n 1, 1) := dw_row (j := 2) dw_h_method_37_code_0 rfl dw_b_L_isBelow_0.2.2.1
theorem dc_L_isBelow_3 : decode method_37_code 3 = .ok (.iload_n 2, 1) := dw_row (j := 3) dw_h_method_37_code_0 rfl dw_b_L_isBelow_0.2.2.2.1
theorem dc_L_isBelow_4 : decode method_37_code 4 = .ok (.invokevirtual 136, 3) := dw_row (j := 4) dw_h_method_37_code_0 rfl dw_b_L_isBelow_0.2.2.2.2.1
theorem dc_L_isBelow_21 : decode method_37_code 21 = .ok (.astore 4, 2) := dw_row (j := 21) dw_h_method_37_code_0 rfl dw_b_L_isBelow_0.2.2.2.2.2.1
theorem dc_L_isBelow_23 : decode method_37_code 23 = .ok (.iconst 1, 1) := dw_row (j := 23) dw_h_method_37_code_0 rfl dw_b_L_isBelow_0.2.2.2.2.2.2.1
theorem dc_L_isBelow_24 : decode method_37_code 24 = .ok (.ireturn, 1) := dw_row (j := 24) dw_h_method_37_code_0 rfl dw_b_L_isBelow_0.2.2.2.2.2.2.2.1
theorem dc_L_isBelow_7 : decode method_37_code 7 = .ok (.ifCond .eq 7, 3) := dw_row (j := 7) dw_h_method_37_code_0 rfl dw_b_L_isBelow_0.2.2.2.2.2.2.2.2.1
theorem dc_L_isBelow_14 : decode method_37_code 14 = .ok (.lconst 0, 1) := dw_row (j := 14) dw_h_method_37_code_0 rfl dw_b_L_isBelow_0.2.2.2.2.2.2.2.2.2.1
theorem dc_L_isBelow_15 : decode method_37_code 15 = .ok (.putfield 13, 3) := dw_row (j := 15) dw_h_method_37_code_0 rfl dw_b_L_isBelow_0.2.2.2.2.2.2.2.2.2.2.1
theorem dc_L_isBelow_18 : decode method_37_code 18 = .ok (.goto 7, 3) := dw_row (j := 18) dw_h_method_37_code_0 rfl dw_b_L_isBelow_0.2.2.2.2.2.2.2.2.2.2.2.1
theorem dc_L_isBelow_25 : decode method_37_code 25 = .ok (.iconst 0, 1) := dw_row (j := 25) dw_h_method_37_code_0 rfl dw_b_L_isBelow_0.2.2.2.2.2.2.2.2.2.2.2.2.1
theorem dc_L_isBelow_26 : decode method_37_code 26 = .ok (.ireturn, 1) := dw_row (j := 26) dw_h_method_37_code_0 rfl dw_b_L_isBelow_0.2.2.2.2.2.2.2.2.2.2.2.2.2.1
theorem dc_L_isBelow_10 : decode method_37_code 10 = .ok (.lconst 1, 1) := dw_row (j := 10) dw_h_method_37_code_0 rfl dw_b_L_isBelow_0.2.2.2.2.2.2.2.2.2.2.2.2.2.2.1
theorem dc_L_isBelow_11 : decode method_37_code 11 = .ok (.goto 4, 3) := dw_row (j := 11) dw_h_method_37_code_0 rfl dw_b_L_isBelow_0.2.2.2.2.2.2.2.2.2.2.2.2.2.2.2
def dw_C_method_38_code_0 : List UInt8 := [45, 42, 27, 28, 182, 0, 139, 153, 0, 7, 10, 167, 0, 4, 9, 181, 0, 13, 167, 0, 7, 58, 4, 4, 172, 3, 172]
theorem dw_h_method_38_code_0 : (method_38_code.data.toList.drop 0).take 72 = dw_C_method_38_code_0 := by decide +kernel
theorem dw_b_L_areSame_0 : dw_chk dw_C_method_38_code_0 0 0 (.aload_n 3) 1 = true ∧ dw_chk dw_C_method_38_code_0 1 1 (.aload_n 0) 1 = true ∧ dw_chk dw_C_method_38_code_0 2 2 (.iload_n 1) 1 = true ∧ dw_chk dw_C_method_38_code_0 3 3 (.iload_n 2) 1 = true ∧ dw_chk dw_C_method_38_code_0 4 4 (.invokevirtual 139) 3 = true ∧ dw_chk dw_C_method_38_code_0 21 21 (.astore 4) 2 = true ∧ dw_chk dw_C_method_38_code_0 23 23 (.iconst 1) 1 = true ∧ dw_chk dw_C_method_38_code_0 24 24 (.ireturn) 1 = true ∧ dw_chk dw_C_method_38_code_0 7 7 (.ifCond .eq 7) 3 = true ∧ dw_chk dw_C_method_38_code_0 14 14 (.lconst 0) 1 = true ∧ dw_chk dw_C_method_38_code_0 15 15 (.putfield 13) 3 = true ∧ dw_chk dw_C_method_38_code_0 18 18 (.goto 7) 3 = true ∧ dw_chk dw_C_method_38_code_0 25 25 (.iconst 0) 1 = true ∧ dw_chk dw_C_method_38_code_0 26 26 (.ireturn) 1 = true ∧ dw_chk dw_C_method_38_code_0 10 10 (.lconst 1) 1 = true ∧ dw_chk dw_C_method_38_code_0 11 11 (.goto 4) 3 = true := by decide +kernel
theorem dc_L_areSame_0 : decode method_38_code 0 = .ok (.aload_n 3, 1) := dw_row (j := 0) dw_h_method_38_code_0 rfl dw_b_L_areSame_0.1
theorem dc_L_areSame_1 : decode method_38_code 1 = .ok (.aload_n 0, 1) := dw_row (j := 1) dw_h_method_38_code_0 rfl dw_b_L_areSame_0.2.1
theorem dc_L_areSame_2 : decode method_38_code 2 = .ok (.iload_n 1, 1) := dw_row (j := 2) dw_h_method_38_code_0 rfl dw_b_L_areSame_0.2.2.1
theorem dc_L_areSame_3 : decode method_38_code 3 = .ok (.iload_n 2, 1) := dw_row (j := 3) dw_h_method_38_code_0 rfl dw_b_L_areSame_0.2.2.2.1
theorem dc_L_areSame_4 : decode method_38_code 4 = .ok (.invokevirtual 139, 3) := dw_row (j := 4) dw_h_method_38_code_0 rfl dw_b_L_areSame_0.2.2.2.2.1
theorem dc_L_areSame_21 : decode method_38_code 21 = .ok (.astore 4, 2) := dw_row (j := 21) dw_h_method_38_code_0 rfl dw_b_L_areSame_0.2.2.2.2.2.1
theorem dc_L_areSame_23 : decode method_38_code 23 = .ok (.iconst 1, 1) := dw_row (j := 23) dw_h_method_38_code_0 rfl dw_b_L_areSame_0.2.2.2.2.2.2.1
theorem dc_L_areSame_24 : decode method_38_code 24 = .ok (.ireturn, 1) := dw_row (j := 24) dw_h_method_38_code_0 rfl dw_b_L_areSame_0.2.2.2.2.2.2.2.1
theorem dc_L_areSame_7 : decode method_38_code 7 = .ok (.ifCond .eq 7, 3) := dw_row (j := 7) dw_h_method_38_code_0 rfl dw_b_L_areSame_0.2.2.2.2.2.2.2.2.1
theorem dc_L_areSame_14 : decode method_38_code 14 = .ok (.lconst 0, 1) := dw_row (j := 14) dw_h_method_38_code_0 rfl dw_b_L_areSame_0.2.2.2.2.2.2.2.2.2.1
theorem dc_L_areSame_15 : decode method_38_code 15 = .ok (.putfield 13, 3) := dw_row (j := 15) dw_h_method_38_code_0 rfl dw_b_L_areSame_0.2.2.2.2.2.2.2.2.2.2.1
theorem dc_L_areSame_18 : decode method_38_code 18 = .ok (.goto 7, 3) := dw_row (j := 18) dw_h_method_38_code_0 rfl dw_b_L_areSame_0.2.2.2.2.2.2.2.2.2.2.2.1
theorem dc_L_areSame_25 : decode method_38_code 25 = .ok (.iconst 0, 1) := dw_row (j := 25) dw_h_method_38_code_0 rfl dw_b_L_areSame_0.2.2.2.2.2.2.2.2.2.2.2.2.1
theorem dc_L_areSame_26 : decode method_38_code 26 = .ok (.ireturn, 1) := dw_row (j := 26) dw_h_method_38_code_0 rfl dw_b_L_areSame_0.2.2.2.2.2.2.2.2.2.2.2.2.2.1
theorem dc_L_areSame_10 : decode method_38_code 10 = .ok (.lconst 1, 1) := dw_row (j := 10) dw_h_method_38_code_0 rfl dw_b_L_areSame_0.2.2.2.2.2.2.2.2.2.2.2.2.2.2.1
theorem dc_L_areSame_11 : decode method_38_code 11 = .ok (.goto 4, 3) := dw_row (j := 11) dw_h_method_38_code_0 rfl dw_b_L_areSame_0.2.2.2.2.2.2.2.2.2.2.2.2.2.2.2
def dw_C_method_39_code_0 : List UInt8 := [45, 42, 27, 28, 182, 0, 142, 153, 0, 7, 10, 167, 0, 4, 9, 181, 0, 13, 167, 0, 7, 58, 4, 4, 172, 3, 172]
theorem dw_h_method_39_code_0 : (method_39_code.data.toList.drop 0).take 72 = dw_C_method_39_code_0 := by decide +kernel
theorem dw_b_L_isNext_0 : dw_chk dw_C_method_39_code_0 0 0 (.aload_n 3) 1 = true ∧ dw_chk dw_C_method_39_code_0 1 1 (.aload_n 0) 1 = true ∧ dw_chk dw_C_method_39_code_0 2 2 (.iload_n 1) 1 = true ∧ dw_chk dw_C_method_39_code_0 3 3 (.iload_n 2) 1 = true ∧ dw_chk dw_C_method_39_code_0 4 4 (.invokevirtual 142) 3 = true ∧ dw_chk dw_C_method_39_code_0 21 21 (.astore 4) 2 = true ∧ dw_chk dw_C_method_39_code_0 23 23 (.iconst 1) 1 = true ∧ dw_chk dw_C_method_39_code_0 24 24 (.ireturn) 1 = true ∧ dw_chk dw_C_method_39_code_0 7 7 (.ifCond .eq 7) 3 = true ∧ dw_chk dw_C_method_39_code_0 14 14 (.lconst 0) 1 = true ∧ dw_chk dw_C_method_39_code_0 15 15 (.putfield 13) 3 = true ∧ dw_chk dw_C_method_39_code_0 18 18 (.goto 7) 3 = true ∧ dw_chk dw_C_method_39_code_0 25 25 (.iconst 0) 1 = true ∧ dw_chk dw_C_method_39_code_0 26 26 (.ireturn) 1 = true ∧ dw_chk dw_C_method_39_code_0 10 10 (.lconst 1) 1 = true ∧ dw_chk dw_C_method_39_code_0 11 11 (.goto 4) 3 = true := by decide +kernel
theorem dc_L_isNext_0 : decode method_39_code 0 = .ok (.aload_n 3, 1) := dw_row (j := 0) dw_h_method_39_code_0 rfl dw_b_L_isNext_0.1
theorem dc_L_isNext_1 : decode method_39_code 1 = .ok (.aload_n 0, 1) := dw_row (j := 1) dw_h_method_39_code_0 rfl dw_b_L_isNext_0.2.1
theorem dc_L_isNext_2 : decode method_39_code 2 = .ok (.iload_n 1, 1) := dw_row (j := 2) dw_h_method_39_code_0 rfl dw_b_L_isNext_0.2.2.1
theorem dc_L_isNext_3 : decode method_39_code 3 = .ok (.iload_n 2, 1) := dw_row (j := 3) dw_h_method_39_code_0 rfl dw_b_L_isNext_0.2.2.2.1
theorem dc_L_isNext_4 : decode method_39_code 4 = .ok (.invokevirtual 142, 3) := dw_row (j := 4) dw_h_method_39_code_0 rfl dw_b_L_isNext_0.2.2.2.2.1
theorem dc_L_isNext_21 : decode method_39_code 21 = .ok (.astore 4, 2) := dw_row (j := 21) dw_h_method_39_code_0 rfl dw_b_L_isNext_0.2.2.2.2.2.1
theorem dc_L_isNext_23 : decode method_39_code 23 = .ok (.iconst 1, 1) := dw_row (j := 23) dw_h_method_39_code_0 rfl dw_b_L_isNext_0.2.2.2.2.2.2.1
theorem dc_L_isNext_24 : decode method_39_code 24 = .ok (.ireturn, 1) := dw_row (j := 24) dw_h_method_39_code_0 rfl dw_b_L_isNext_0.2.2.2.2.2.2.2.1
theorem dc_L_isNext_7 : decode method_39_code 7 = .ok (.ifCond .eq 7, 3) := dw_row (j := 7) dw_h_method_39_code_0 rfl dw_b_L_isNext_0.2.2.2.2.2.2.2.2.1
theorem dc_L_isNext_14 : decode method_39_code 14 = .ok (.lconst 0, 1) := dw_row (j := 14) dw_h_method_39_code_0 rfl dw_b_L_isNext_0.2.2.2.2.2.2.2.2.2.1
theorem dc_L_isNext_15 : decode method_39_code 15 = .ok (.putfield 13, 3) := dw_row (j := 15) dw_h_method_39_code_0 rfl dw_b_L_isNext_0.2.2.2.2.2.2.2.2.2.2.1
theorem dc_L_isNext_18 : decode method_39_code 18 = .ok (.goto 7, 3) := dw_row (j := 18) dw_h_method_39_code_0 rfl dw_b_L_isNext_0.2.2.2.2.2.2.2.2.2.2.2.1
theorem dc_L_isNext_25 : decode method_39_code 25 = .ok (.iconst 0, 1) := dw_row (j := 25) dw_h_method_39_code_0 rfl dw_b_L_isNext_0.2.2.2.2.2.2.2.2.2.2.2.2.1
theorem dc_L_isNext_26 : decode method_39_code 26 = .ok (.ireturn, 1) := dw_row (j := 26) dw_h_method_39_code_0 rfl dw_b_L_isNext_0.2.2.2.2.2.2.2.2.2.2.2.2.2.1
theorem dc_L_isNext_10 : decode method_39_code 10 = .ok (.lconst 1, 1) := dw_row (j := 10) dw_h_method_39_code_0 rfl dw_b_L_isNext_0.2.2.2.2.2.2.2.2.2.2.2.2.2.2.1
theorem dc_L_isNext_11 : decode method_39_code 11 = .ok (.goto 4, 3) := dw_row (j := 11) dw_h_method_39_code_0 rfl dw_b_L_isNext_0.2.2.2.2.2.2.2.2.2.2.2.2.2.2.2
def dw_C_method_40_code_0 : List UInt8 := [45, 42, 27, 28, 182, 0, 145, 133, 181, 0, 13, 167, 0, 7, 58, 4, 4, 172, 3, 172]
theorem dw_h_method_40_code_0 : (method_40_code.data.toList.drop 0).take 72 = dw_C_method_40_code_0 := by decide +kernel
theorem dw_b_L_apart_0 : dw_chk dw_C_method_40_code_0 0 0 (.aload_n 3) 1 = true ∧ dw_chk dw_C_method_40_code_0 1 1 (.aload_n 0) 1 = true ∧ dw_chk dw_C_method_40_code_0 2 2 (.iload_n 1) 1 = true ∧ dw_chk dw_C_method_40_code_0 3 3 (.iload_n 2) 1 = true ∧ dw_chk dw_C_method_40_code_0 4 4 (.invokevirtual 145) 3 = true ∧ dw_chk dw_C_method_40_code_0 14 14 (.astore 4) 2 = true ∧ dw_chk dw_C_method_40_code_0 16 16 (.iconst 1) 1 = true ∧ dw_chk dw_C_method_40_code_0 17 17 (.ireturn) 1 = true ∧ dw_chk dw_C_method_40_code_0 7 7 (.i2l) 1 = true ∧ dw_chk dw_C_method_40_code_0 8 8 (.putfield 13) 3 = true ∧ dw_chk dw_C_method_40_code_0 11 11 (.goto 7) 3 = true ∧ dw_chk dw_C_method_40_code_0 18 18 (.iconst 0) 1 = true ∧ dw_chk dw_C_method_40_code_0 19 19 (.ireturn) 1 = true := by decide +kernel
theorem dc_L_apart_0 : decode method_40_code 0 = .ok (.aload_n 3, 1) := dw_row (j := 0) dw_h_method_40_code_0 rfl dw_b_L_apart_0.1
theorem dc_L_apart_1 : decode method_40_code 1 = .ok (.aload_n 0, 1) := dw_row (j := 1) dw_h_method_40_code_0 rfl dw_b_L_apart_0.2.1
theorem dc_L_apart_2 : decode method_40_code 2 = .ok (.iload_n 1, 1) := dw_row (j := 2) dw_h_method_40_code_0 rfl dw_b_L_apart_0.2.2.1
theorem dc_L_apart_3 : decode method_40_code 3 = .ok (.iload_n 2, 1) := dw_row (j := 3) dw_h_method_40_code_0 rfl dw_b_L_apart_0.2.2.2.1
theorem dc_L_apart_4 : decode method_40_code 4 = .ok (.invokevirtual 145, 3) := dw_row (j := 4) dw_h_method_40_code_0 rfl dw_b_L_apart_0.2.2.2.2.1
theorem dc_L_apart_14 : decode method_40_code 14 = .ok (.astore 4, 2) := dw_row (j := 14) dw_h_method_40_code_0 rfl dw_b_L_apart_0.2.2.2.2.2.1
theorem dc_L_apart_16 : decode method_40_code 16 = .ok (.iconst 1, 1) := dw_row (j := 16) dw_h_method_40_code_0 rfl dw_b_L_apart_0.2.2.2.2.2.2.1
theorem dc_L_apart_17 : decode method_40_code 17 = .ok (.ireturn, 1) := dw_row (j := 17) dw_h_method_40_code_0 rfl dw_b_L_apart_0.2.2.2.2.2.2.2.1
theorem dc_L_apart_7 : decode method_40_code 7 = .ok (.i2l, 1) := dw_row (j := 7) dw_h_method_40_code_0 rfl dw_b_L_apart_0.2.2.2.2.2.2.2.2.1
theorem dc_L_apart_8 : decode method_40_code 8 = .ok (.putfield 13, 3) := dw_row (j := 8) dw_h_method_40_code_0 rfl dw_b_L_apart_0.2.2.2.2.2.2.2.2.2.1
theorem dc_L_apart_11 : decode method_40_code 11 = .ok (.goto 7, 3) := dw_row (j := 11) dw_h_method_40_code_0 rfl dw_b_L_apart_0.2.2.2.2.2.2.2.2.2.2.1
theorem dc_L_apart_18 : decode method_40_code 18 = .ok (.iconst 0, 1) := dw_row (j := 18) dw_h_method_40_code_0 rfl dw_b_L_apart_0.2.2.2.2.2.2.2.2.2.2.2.1
theorem dc_L_apart_19 : decode method_40_code 19 = .ok (.ireturn, 1) := dw_row (j := 19) dw_h_method_40_code_0 rfl dw_b_L_apart_0.2.2.2.2.2.2.2.2.2.2.2.2
def dw_C_method_41_code_0 : List UInt8 := [44, 42, 27, 182, 0, 148, 133, 181, 0, 13, 167, 0, 6, 78, 4, 172, 3, 172]
theorem dw_h_method_41_code_0 : (method_41_code.data.toList.drop 0).take 72 = dw_C_method_41_code_0 := by decide +kernel
theorem dw_b_L_place_0 : dw_chk dw_C_method_41_code_0 0 0 (.aload_n 2) 1 = true ∧ dw_chk dw_C_method_41_code_0 1 1 (.aload_n 0) 1 = true ∧ dw_chk dw_C_method_41_code_0 2 2 (.iload_n 1) 1 = true ∧ dw_chk dw_C_method_41_code_0 3 3 (.invokevirtual 148) 3 = true ∧ dw_chk dw_C_method_41_code_0 13 13 (.astore_n 3) 1 = true ∧ dw_chk dw_C_method_41_code_0 14 14 (.iconst 1) 1 = true ∧ dw_chk dw_C_method_41_code_0 15 15 (.ireturn) 1 = true ∧ dw_chk dw_C_method_41_code_0 6 6 (.i2l) 1 = true ∧ dw_chk dw_C_method_41_code_0 7 7 (.putfield 13) 3 = true ∧ dw_chk dw_C_method_41_code_0 10 10 (.goto 6) 3 = true ∧ dw_chk dw_C_method_41_code_0 16 16 (.iconst 0) 1 = true ∧ dw_chk dw_C_method_41_code_0 17 17 (.ireturn) 1 = true := by decide +kernel
theorem dc_L_place_0 : decode method_41_code 0 = .ok (.aload_n 2, 1) := dw_row (j := 0) dw_h_method_41_code_0 rfl dw_b_L_place_0.1
theorem dc_L_place_1 : decode method_41_code 1 = .ok (.aload_n 0, 1) := dw_row (j := 1) dw_h_method_41_code_0 rfl dw_b_L_place_0.2.1
theorem dc_L_place_2 : decode method_41_code 2 = .ok (.iload_n 1, 1) := dw_row (j := 2) dw_h_method_41_code_0 rfl dw_b_L_place_0.2.2.1
theorem dc_L_place_3 : decode method_41_code 3 = .ok (.invokevirtual 148, 3) := dw_row (j := 3) dw_h_method_41_code_0 rfl dw_b_L_place_0.2.2.2.1
theorem dc_L_place_13 : decode method_41_code 13 = .ok (.astore_n 3, 1) := dw_row (j := 13) dw_h_method_41_code_0 rfl dw_b_L_place_0.2.2.2.2.1
theorem dc_L_place_14 : decode method_41_code 14 = .ok (.iconst 1, 1) := dw_row (j := 14) dw_h_method_41_code_0 rfl dw_b_L_place_0.2.2.2.2.2.1
theorem dc_L_place_15 : decode method_41_code 15 = .ok (.ireturn, 1) := dw_row (j := 15) dw_h_method_41_code_0 rfl dw_b_L_place_0.2.2.2.2.2.2.1
theorem dc_L_place_6 : decode method_41_code 6 = .ok (.i2l, 1) := dw_row (j := 6) dw_h_method_41_code_0 rfl dw_b_L_place_0.2.2.2.2.2.2.2.1
theorem dc_L_place_7 : decode method_41_code 7 = .ok (.putfield 13, 3) := dw_row (j := 7) dw_h_method_41_code_0 rfl dw_b_L_place_0.2.2.2.2.2.2.2.2.1
theorem dc_L_place_10 : decode method_41_code 10 = .ok (.goto 6, 3) := dw_row (j := 10) dw_h_method_41_code_0 rfl dw_b_L_place_0.2.2.2.2.2.2.2.2.2.1
theorem dc_L_place_16 : decode method_41_code 16 = .ok (.iconst 0, 1) := dw_row (j := 16) dw_h_method_41_code_0 rfl dw_b_L_place_0.2.2.2.2.2.2.2.2.2.2.1
theorem dc_L_place_17 : decode method_41_code 17 = .ok (.ireturn, 1) := dw_row (j := 17) dw_h_method_41_code_0 rfl dw_b_L_place_0.2.2.2.2.2.2.2.2.2.2.2
def dw_C_method_42_code_0 : List UInt8 := [44, 42, 27, 182, 0, 151, 181, 0, 103, 167, 0, 6, 78, 4, 172, 3, 172]
theorem dw_h_method_42_code_0 : (method_42_code.data.toList.drop 0).take 72 = dw_C_method_42_code_0 := by decide +kernel
theorem dw_b_L_floorOf_0 : dw_chk dw_C_method_42_code_0 0 0 (.aload_n 2) 1 = true ∧ dw_chk dw_C_method_42_code_0 1 1 (.aload_n 0) 1 = true ∧ dw_chk dw_C_method_42_code_0 2 2 (.iload_n 1) 1 = true ∧ dw_chk dw_C_method_42_code_0 3 3 (.invokevirtual 151) 3 = true ∧ dw_chk dw_C_method_42_code_0 12 12 (.astore_n 3) 1 = true ∧ dw_chk dw_C_method_42_code_0 13 13 (.iconst 1) 1 = true ∧ dw_chk dw_C_method_42_code_0 14 14 (.ireturn) 1 = true ∧ dw_chk dw_C_method_42_code_0 6 6 (.putfield 103) 3 = true ∧ dw_chk dw_C_method_42_code_0 9 9 (.goto 6) 3 = true ∧ dw_chk dw_C_method_42_code_0 15 15 (.iconst 0) 1 = true ∧ dw_chk dw_C_method_42_code_0 16 16 (.ireturn) 1 = true := by decide +kernel
theorem dc_L_floorOf_0 : decode method_42_code 0 = .ok (.aload_n 2, 1) := dw_row (j := 0) dw_h_method_42_code_0 rfl dw_b_L_floorOf_0.1
theorem dc_L_floorOf_1 : decode method_42_code 1 = .ok (.aload_n 0, 1) := dw_row (j := 1) dw_h_method_42_code_0 rfl dw_b_L_floorOf_0.2.1
theorem dc_L_floorOf_2 : decode method_42_code 2 = .ok (.iload_n 1, 1) := dw_row (j := 2) dw_h_method_42_code_0 rfl dw_b_L_floorOf_0.2.2.1
theorem dc_L_floorOf_3 : decode method_42_code 3 = .ok (.invokevirtual 151, 3) := dw_row (j := 3) dw_h_method_42_code_0 rfl dw_b_L_floorOf_0.2.2.2.1
theorem dc_L_floorOf_12 : decode method_42_code 12 = .ok (.astore_n 3, 1) := dw_row (j := 12) dw_h_method_42_code_0 rfl dw_b_L_floorOf_0.2.2.2.2.1
theorem dc_L_floorOf_13 : decode method_42_code 13 = .ok (.iconst 1, 1) := dw_row (j := 13) dw_h_method_42_code_0 rfl dw_b_L_floorOf_0.2.2.2.2.2.1
theorem dc_L_floorOf_14 : decode method_42_code 14 = .ok (.ireturn, 1) := dw_row (j := 14) dw_h_method_42_code_0 rfl dw_b_L_floorOf_0.2.2.2.2.2.2.1
theorem dc_L_floorOf_6 : decode method_42_code 6 = .ok (.putfield 103, 3) := dw_row (j := 6) dw_h_method_42_code_0 rfl dw_b_L_floorOf_0.2.2.2.2.2.2.2.1
theorem dc_L_floorOf_9 : decode method_42_code 9 = .ok (.goto 6, 3) := dw_row (j := 9) dw_h_method_42_code_0 rfl dw_b_L_floorOf_0.2.2.2.2.2.2.2.2.1
theorem dc_L_floorOf_15 : decode method_42_code 15 = .ok (.iconst 0, 1) := dw_row (j := 15) dw_h_method_42_code_0 rfl dw_b_L_floorOf_0.2.2.2.2.2.2.2.2.2.1
theorem dc_L_floorOf_16 : decode method_42_code 16 = .ok (.ireturn, 1) := dw_row (j := 16) dw_h_method_42_code_0 rfl dw_b_L_floorOf_0.2.2.2.2.2.2.2.2.2.2
def dw_C_method_43_code_0 : List UInt8 := [44, 42, 27, 182, 0, 154, 181, 0, 103, 167, 0, 6, 78, 4, 172, 3, 172]
theorem dw_h_method_43_code_0 : (method_43_code.data.toList.drop 0).take 72 = dw_C_method_43_code_0 := by decide +kernel
theorem dw_b_L_ceilOf_0 : dw_chk dw_C_method_43_code_0 0 0 (.aload_n 2) 1 = true ∧ dw_chk dw_C_method_43_code_0 1 1 (.aload_n 0) 1 = true ∧ dw_chk dw_C_method_43_code_0 2 2 (.iload_n 1) 1 = true ∧ dw_chk dw_C_method_43_code_0 3 3 (.invokevirtual 154) 3 = true ∧ dw_chk dw_C_method_43_code_0 12 12 (.astore_n 3) 1 = true ∧ dw_chk dw_C_method_43_code_0 13 13 (.iconst 1) 1 = true ∧ dw_chk dw_C_method_43_code_0 14 14 (.ireturn) 1 = true ∧ dw_chk dw_C_method_43_code_0 6 6 (.putfield 103) 3 = true ∧ dw_chk dw_C_method_43_code_0 9 9 (.goto 6) 3 = true ∧ dw_chk dw_C_method_43_code_0 15 15 (.iconst 0) 1 = true ∧ dw_chk dw_C_method_43_code_0 16 16 (.ireturn) 1 = true := by decide +kernel
theorem dc_L_ceilOf_0 : decode method_43_code 0 = .ok (.aload_n 2, 1) := dw_row (j := 0) dw_h_method_43_code_0 rfl dw_b_L_ceilOf_0.1
theorem dc_L_ceilOf_1 : decode method_43_code 1 = .ok (.aload_n 0, 1) := dw_row (j := 1) dw_h_method_43_code_0 rfl dw_b_L_ceilOf_0.2.1
theorem dc_L_ceilOf_2 : decode method_43_code 2 = .ok (.iload_n 1, 1) := dw_row (j := 2) dw_h_method_43_code_0 rfl dw_b_L_ceilOf_0.2.2.1
theorem dc_L_ceilOf_3 : decode method_43_code 3 = .ok (.invokevirtual 154, 3) := dw_row (j := 3) dw_h_method_43_code_0 rfl dw_b_L_ceilOf_0.2.2.2.1
theorem dc_L_ceilOf_12 : decode method_43_code 12 = .ok (.astore_n 3, 1) := dw_row (j := 12) dw_h_method_43_code_0 rfl dw_b_L_ceilOf_0.2.2.2.2.1
theorem dc_L_ceilOf_13 : decode method_43_code 13 = .ok (.iconst 1, 1) := dw_row (j := 13) dw_h_method_43_code_0 rfl dw_b_L_ceilOf_0.2.2.2.2.2.1
theorem dc_L_ceilOf_14 : decode method_43_code 14 = .ok (.ireturn, 1) := dw_row (j := 14) dw_h_method_43_code_0 rfl dw_b_L_ceilOf_0.2.2.2.2.2.2.1
theorem dc_L_ceilOf_6 : decode method_43_code 6 = .ok (.putfield 103, 3) := dw_row (j := 6) dw_h_method_43_code_0 rfl dw_b_L_ceilOf_0.2.2.2.2.2.2.2.1
theorem dc_L_ceilOf_9 : decode method_43_code 9 = .ok (.goto 6, 3) := dw_row (j := 9) dw_h_method_43_code_0 rfl dw_b_L_ceilOf_0.2.2.2.2.2.2.2.2.1
theorem dc_L_ceilOf_15 : decode method_43_code 15 = .ok (.iconst 0, 1) := dw_row (j := 15) dw_h_method_43_code_0 rfl dw_b_L_ceilOf_0.2.2.2.2.2.2.2.2.2.1
theorem dc_L_ceilOf_16 : decode method_43_code 16 = .ok (.ireturn, 1) := dw_row (j := 16) dw_h_method_43_code_0 rfl dw_b_L_ceilOf_0.2.2.2.2.2.2.2.2.2.2
def dw_C_method_44_code_0 : List UInt8 := [44, 42, 27, 182, 0, 157, 181, 0, 103, 167, 0, 6, 78, 4, 172, 3, 172]
theorem dw_h_method_44_code_0 : (method_44_code.data.toList.drop 0).take 72 = dw_C_method_44_code_0 := by decide +kernel
theorem dw_b_L_rintOf_0 : dw_chk dw_C_method_44_code_0 0 0 (.aload_n 2) 1 = true ∧ dw_chk dw_C_method_44_code_0 1 1 (.aload_n 0) 1 = true ∧ dw_chk dw_C_method_44_code_0 2 2 (.iload_n 1) 1 = true ∧ dw_chk dw_C_method_44_code_0 3 3 (.invokevirtual 157) 3 = true ∧ dw_chk dw_C_method_44_code_0 12 12 (.astore_n 3) 1 = true ∧ dw_chk dw_C_method_44_code_0 13 13 (.iconst 1) 1 = true ∧ dw_chk dw_C_method_44_code_0 14 14 (.ireturn) 1 = true ∧ dw_chk dw_C_method_44_code_0 6 6 (.putfield 103) 3 = true ∧ dw_chk dw_C_method_44_code_0 9 9 (.goto 6) 3 = true ∧ dw_chk dw_C_method_44_code_0 15 15 (.iconst 0) 1 = true ∧ dw_chk dw_C_method_44_code_0 16 16 (.ireturn) 1 = true := by decide +kernel
theorem dc_L_rintOf_0 : decode method_44_code 0 = .ok (.aload_n 2, 1) := dw_row (j := 0) dw_h_method_44_code_0 rfl dw_b_L_rintOf_0.1
theorem dc_L_rintOf_1 : decode method_44_code 1 = .ok (.aload_n 0, 1) := dw_row (j := 1) dw_h_method_44_code_0 rfl dw_b_L_rintOf_0.2.1
theorem dc_L_rintOf_2 : decode method_44_code 2 = .ok (.iload_n 1, 1) := dw_row (j := 2) dw_h_method_44_code_0 rfl dw_b_L_rintOf_0.2.2.1
theorem dc_L_rintOf_3 : decode method_44_code 3 = .ok (.invokevirtual 157, 3) := dw_row (j := 3) dw_h_method_44_code_0 rfl dw_b_L_rintOf_0.2.2.2.1
theorem dc_L_rintOf_12 : decode method_44_code 12 = .ok (.astore_n 3, 1) := dw_row (j := 12) dw_h_method_44_code_0 rfl dw_b_L_rintOf_0.2.2.2.2.1
theorem dc_L_rintOf_13 : decode method_44_code 13 = .ok (.iconst 1, 1) := dw_row (j := 13) dw_h_method_44_code_0 rfl dw_b_L_rintOf_0.2.2.2.2.2.1
theorem dc_L_rintOf_14 : decode method_44_code 14 = .ok (.ireturn, 1) := dw_row (j := 14) dw_h_method_44_code_0 rfl dw_b_L_rintOf_0.2.2.2.2.2.2.1
theorem dc_L_rintOf_6 : decode method_44_code 6 = .ok (.putfield 103, 3) := dw_row (j := 6) dw_h_method_44_code_0 rfl dw_b_L_rintOf_0.2.2.2.2.2.2.2.1
theorem dc_L_rintOf_9 : decode method_44_code 9 = .ok (.goto 6, 3) := dw_row (j := 9) dw_h_method_44_code_0 rfl dw_b_L_rintOf_0.2.2.2.2.2.2.2.2.1
theorem dc_L_rintOf_15 : decode method_44_code 15 = .ok (.iconst 0, 1) := dw_row (j := 15) dw_h_method_44_code_0 rfl dw_b_L_rintOf_0.2.2.2.2.2.2.2.2.2.1
theorem dc_L_rintOf_16 : decode method_44_code 16 = .ok (.ireturn, 1) := dw_row (j := 16) dw_h_method_44_code_0 rfl dw_b_L_rintOf_0.2.2.2.2.2.2.2.2.2.2
def dw_C_method_45_code_0 : List UInt8 := [44, 42, 27, 182, 0, 160, 181, 0, 103, 167, 0, 6, 78, 4, 172, 3, 172]
theorem dw_h_method_45_code_0 : (method_45_code.data.toList.drop 0).take 72 = dw_C_method_45_code_0 := by decide +kernel
theorem dw_b_L_stepOf_0 : dw_chk dw_C_method_45_code_0 0 0 (.aload_n 2) 1 = true ∧ dw_chk dw_C_method_45_code_0 1 1 (.aload_n 0) 1 = true ∧ dw_chk dw_C_method_45_code_0 2 2 (.iload_n 1) 1 = true ∧ dw_chk dw_C_method_45_code_0 3 3 (.invokevirtual 160) 3 = true ∧ dw_chk dw_C_method_45_code_0 12 12 (.astore_n 3) 1 = true ∧ dw_chk dw_C_method_45_code_0 13 13 (.iconst 1) 1 = true ∧ dw_chk dw_C_method_45_code_0 14 14 (.ireturn) 1 = true ∧ dw_chk dw_C_method_45_code_0 6 6 (.putfield 103) 3 = true ∧ dw_chk dw_C_method_45_code_0 9 9 (.goto 6) 3 = true ∧ dw_chk dw_C_method_45_code_0 15 15 (.iconst 0) 1 = true ∧ dw_chk dw_C_method_45_code_0 16 16 (.ireturn) 1 = true := by decide +kernel
theorem dc_L_stepOf_0 : decode method_45_code 0 = .ok (.aload_n 2, 1) := dw_row (j := 0) dw_h_method_45_code_0 rfl dw_b_L_stepOf_0.1
theorem dc_L_stepOf_1 : decode method_45_code 1 = .ok (.aload_n 0, 1) := dw_row (j := 1) dw_h_method_45_code_0 rfl dw_b_L_stepOf_0.2.1
theorem dc_L_stepOf_2 : decode method_45_code 2 = .ok (.iload_n 1, 1) := dw_row (j := 2) dw_h_method_45_code_0 rfl dw_b_L_stepOf_0.2.2.1
theorem dc_L_stepOf_3 : decode method_45_code 3 = .ok (.invokevirtual 160, 3) := dw_row (j := 3) dw_h_method_45_code_0 rfl dw_b_L_stepOf_0.2.2.2.1
theorem dc_L_stepOf_12 : decode method_45_code 12 = .ok (.astore_n 3, 1) := dw_row (j := 12) dw_h_method_45_code_0 rfl dw_b_L_stepOf_0.2.2.2.2.1
theorem dc_L_stepOf_13 : decode method_45_code 13 = .ok (.iconst 1, 1) := dw_row (j := 13) dw_h_method_45_code_0 rfl dw_b_L_stepOf_0.2.2.2.2.2.1
theorem dc_L_stepOf_14 : decode method_45_code 14 = .ok (.ireturn, 1) := dw_row (j := 14) dw_h_method_45_code_0 rfl dw_b_L_stepOf_0.2.2.2.2.2.2.1
theorem dc_L_stepOf_6 : decode method_45_code 6 = .ok (.putfield 103, 3) := dw_row (j := 6) dw_h_method_45_code_0 rfl dw_b_L_stepOf_0.2.2.2.2.2.2.2.1
theorem dc_L_stepOf_9 : decode method_45_code 9 = .ok (.goto 6, 3) := dw_row (j := 9) dw_h_method_45_code_0 rfl dw_b_L_stepOf_0.2.2.2.2.2.2.2.2.1
theorem dc_L_stepOf_15 : decode method_45_code 15 = .ok (.iconst 0, 1) := dw_row (j := 15) dw_h_method_45_code_0 rfl dw_b_L_stepOf_0.2.2.2.2.2.2.2.2.2.1
theorem dc_L_stepOf_16 : decode method_45_code 16 = .ok (.ireturn, 1) := dw_row (j := 16) dw_h_method_45_code_0 rfl dw_b_L_stepOf_0.2.2.2.2.2.2.2.2.2.2
def dw_C_method_46_code_0 : List UInt8 := [45, 42, 27, 28, 182, 0, 163, 181, 0, 103, 167, 0, 7, 58, 4, 4, 172, 3, 172]
theorem dw_h_method_46_code_0 : (method_46_code.data.toList.drop 0).take 72 = dw_C_method_46_code_0 := by decide +kernel
theorem dw_b_L_nextOf_0 : dw_chk dw_C_method_46_code_0 0 0 (.aload_n 3) 1 = true ∧ dw_chk dw_C_method_46_code_0 1 1 (.aload_n 0) 1 = true ∧ dw_chk dw_C_method_46_code_0 2 2 (.iload_n 1) 1 = true ∧ dw_chk dw_C_method_46_code_0 3 3 (.iload_n 2) 1 = true ∧ dw_chk dw_C_method_46_code_0 4 4 (.invokevirtual 163) 3 = true ∧ dw_chk dw_C_method_46_code_0 13 13 (.astore 4) 2 = true ∧ dw_chk dw_C_method_46_code_0 15 15 (.iconst 1) 1 = true ∧ dw_chk dw_C_method_46_code_0 16 16 (.ireturn) 1 = true ∧ dw_chk dw_C_method_46_code_0 7 7 (.putfield 103) 3 = true ∧ dw_chk dw_C_method_46_code_0 10 10 (.goto 7) 3 = true ∧ dw_chk dw_C_method_46_code_0 17 17 (.iconst 0) 1 = true ∧ dw_chk dw_C_method_46_code_0 18 18 (.ireturn) 1 = true := by decide +kernel
theorem dc_L_nextOf_0 : decode method_46_code 0 = .ok (.aload_n 3, 1) := dw_row (j := 0) dw_h_method_46_code_0 rfl dw_b_L_nextOf_0.1
theorem dc_L_nextOf_1 : decode method_46_code 1 = .ok (.aload_n 0, 1) := dw_row (j := 1) dw_h_method_46_code_0 rfl dw_b_L_nextOf_0.2.1
theorem dc_L_nextOf_2 : decode method_46_code 2 = .ok (.iload_n 1, 1) := dw_row (j := 2) dw_h_method_46_code_0 rfl dw_b_L_nextOf_0.2.2.1
theorem dc_L_nextOf_3 : decode method_46_code 3 = .ok (.iload_n 2, 1) := dw_row (j := 3) dw_h_method_46_code_0 rfl dw_b_L_nextOf_0.2.2.2.1
theorem dc_L_nextOf_4 : decode method_46_code 4 = .ok (.invokevirtual 163, 3) := dw_row (j := 4) dw_h_method_46_code_0 rfl dw_b_L_nextOf_0.2.2.2.2.1
theorem dc_L_nextOf_13 : decode method_46_code 13 = .ok (.astore 4, 2) := dw_row (j := 13) dw_h_method_46_code_0 rfl dw_b_L_nextOf_0.2.2.2.2.2.1
theorem dc_L_nextOf_15 : decode method_46_code 15 = .ok (.iconst 1, 1) := dw_row (j := 15) dw_h_method_46_code_0 rfl dw_b_L_nextOf_0.2.2.2.2.2.2.1
theorem dc_L_nextOf_16 : decode method_46_code 16 = .ok (.ireturn, 1) := dw_row (j := 16) dw_h_method_46_code_0 rfl dw_b_L_nextOf_0.2.2.2.2.2.2.2.1
theorem dc_L_nextOf_7 : decode method_46_code 7 = .ok (.putfield 103, 3) := dw_row (j := 7) dw_h_method_46_code_0 rfl dw_b_L_nextOf_0.2.2.2.2.2.2.2.2.1
theorem dc_L_nextOf_10 : decode method_46_code 10 = .ok (.goto 7, 3) := dw_row (j := 10) dw_h_method_46_code_0 rfl dw_b_L_nextOf_0.2.2.2.2.2.2.2.2.2.1
theorem dc_L_nextOf_17 : decode method_46_code 17 = .ok (.iconst 0, 1) := dw_row (j := 17) dw_h_method_46_code_0 rfl dw_b_L_nextOf_0.2.2.2.2.2.2.2.2.2.2.1
theorem dc_L_nextOf_18 : decode method_46_code 18 = .ok (.ireturn, 1) := dw_row (j := 18) dw_h_method_46_code_0 rfl dw_b_L_nextOf_0.2.2.2.2.2.2.2.2.2.2.2
def dw_C_method_47_code_0 : List UInt8 := [45, 42, 27, 28, 182, 0, 167, 181, 0, 103, 167, 0, 7, 58, 4, 4, 172, 3, 172]
theorem dw_h_method_47_code_0 : (method_47_code.data.toList.drop 0).take 72 = dw_C_method_47_code_0 := by decide +kernel
theorem dw_b_L_timesOf_0 : dw_chk dw_C_method_47_code_0 0 0 (.aload_n 3) 1 = true ∧ dw_chk dw_C_method_47_code_0 1 1 (.aload_n 0) 1 = true ∧ dw_chk dw_C_method_47_code_0 2 2 (.iload_n 1) 1 = true ∧ dw_chk dw_C_method_47_code_0 3 3 (.iload_n 2) 1 = true ∧ dw_chk dw_C_method_47_code_0 4 4 (.invokevirtual 167) 3 = true ∧ dw_chk dw_C_method_47_code_0 13 13 (.astore 4) 2 = true ∧ dw_chk dw_C_method_47_code_0 15 15 (.iconst 1) 1 = true ∧ dw_chk dw_C_method_47_code_0 16 16 (.ireturn) 1 = true ∧ dw_chk dw_C_method_47_code_0 7 7 (.putfield 103) 3 = true ∧ dw_chk dw_C_method_47_code_0 10 10 (.goto 7) 3 = true ∧ dw_chk dw_C_method_47_code_0 17 17 (.iconst 0) 1 = true ∧ dw_chk dw_C_method_47_code_0 18 18 (.ireturn) 1 = true := by decide +kernel
theorem dc_L_timesOf_0 : decode method_47_code 0 = .ok (.aload_n 3, 1) := dw_row (j := 0) dw_h_method_47_code_0 rfl dw_b_L_timesOf_0.1
theorem dc_L_timesOf_1 : decode method_47_code 1 = .ok (.aload_n 0, 1) := dw_row (j := 1) dw_h_method_47_code_0 rfl dw_b_L_timesOf_0.2.1
theorem dc_L_timesOf_2 : decode method_47_code 2 = .ok (.iload_n 1, 1) := dw_row (j := 2) dw_h_method_47_code_0 rfl dw_b_L_timesOf_0.2.2.1
theorem dc_L_timesOf_3 : decode method_47_code 3 = .ok (.iload_n 2, 1) := dw_row (j := 3) dw_h_method_47_code_0 rfl dw_b_L_timesOf_0.2.2.2.1
theorem dc_L_timesOf_4 : decode method_47_code 4 = .ok (.invokevirtual 167, 3) := dw_row (j := 4) dw_h_method_47_code_0 rfl dw_b_L_timesOf_0.2.2.2.2.1
theorem dc_L_timesOf_13 : decode method_47_code 13 = .ok (.astore 4, 2) := dw_row (j := 13) dw_h_method_47_code_0 rfl dw_b_L_timesOf_0.2.2.2.2.2.1
theorem dc_L_timesOf_15 : decode method_47_code 15 = .ok (.iconst 1, 1) := dw_row (j := 15) dw_h_method_47_code_0 rfl dw_b_L_timesOf_0.2.2.2.2.2.2.1
theorem dc_L_timesOf_16 : decode method_47_code 16 = .ok (.ireturn, 1) := dw_row (j := 16) dw_h_method_47_code_0 rfl dw_b_L_timesOf_0.2.2.2.2.2.2.2.1
theorem dc_L_timesOf_7 : decode method_47_code 7 = .ok (.putfield 103, 3) := dw_row (j := 7) dw_h_method_47_code_0 rfl dw_b_L_timesOf_0.2.2.2.2.2.2.2.2.1
theorem dc_L_timesOf_10 : decode method_47_code 10 = .ok (.goto 7, 3) := dw_row (j := 10) dw_h_method_47_code_0 rfl dw_b_L_timesOf_0.2.2.2.2.2.2.2.2.2.1
theorem dc_L_timesOf_17 : decode method_47_code 17 = .ok (.iconst 0, 1) := dw_row (j := 17) dw_h_method_47_code_0 rfl dw_b_L_timesOf_0.2.2.2.2.2.2.2.2.2.2.1
theorem dc_L_timesOf_18 : decode method_47_code 18 = .ok (.ireturn, 1) := dw_row (j := 18) dw_h_method_47_code_0 rfl dw_b_L_timesOf_0.2.2.2.2.2.2.2.2.2.2.2
def dw_C_method_48_code_0 : List UInt8 := [45, 42, 27, 28, 182, 0, 171, 153, 0, 7, 10, 167, 0, 4, 9, 181, 0, 13, 167, 0, 11, 58, 4, 4, 172, 58, 4, 5, 172, 3, 172]
theorem dw_h_method_48_code_0 : (method_48_code.data.toList.drop 0).take 72 = dw_C_method_48_code_0 := by decide +kernel
theorem dw_b_L_isBack_0 : dw_chk dw_C_method_48_code_0 0 0 (.aload_n 3) 1 = true ∧ dw_chk dw_C_method_48_code_0 1 1 (.aload_n 0) 1 = true ∧ dw_chk dw_C_method_48_code_0 2 2 (.iload_n 1) 1 = true ∧ dw_chk dw_C_method_48_code_0 3 3 (.iload_n 2) 1 = true ∧ dw_chk dw_C_method_48_code_0 4 4 (.invokevirtual 171) 3 = true ∧ dw_chk dw_C_method_48_code_0 21 21 (.astore 4) 2 = true ∧ dw_chk dw_C_method_48_code_0 23 23 (.iconst 1) 1 = true ∧ dw_chk dw_C_method_48_code_0 24 24 (.ireturn) 1 = true ∧ dw_chk dw_C_method_48_code_0 25 25 (.astore 4) 2 = true ∧ dw_chk dw_C_method_48_code_0 27 27 (.iconst 2) 1 = true ∧ dw_chk dw_C_method_48_code_0 28 28 (.ireturn) 1 = true ∧ dw_chk dw_C_method_48_code_0 7 7 (.ifCond .eq 7) 3 = true ∧ dw_chk dw_C_method_48_code_0 14 14 (.lconst 0) 1 = true ∧ dw_chk dw_C_method_48_code_0 15 15 (.putfield 13) 3 = true ∧ dw_chk dw_C_method_48_code_0 18 18 (.goto 11) 3 = true ∧ dw_chk dw_C_method_48_code_0 29 29 (.iconst 0) 1 = true ∧ dw_chk dw_C_method_48_code_0 30 30 (.ireturn) 1 = true ∧ dw_chk dw_C_method_48_code_0 10 10 (.lconst 1) 1 = true ∧ dw_chk dw_C_method_48_code_0 11 11 (.goto 4) 3 = true := by decide +kernel
theorem dc_L_isBack_0 : decode method_48_code 0 = .ok (.aload_n 3, 1) := dw_row (j := 0) dw_h_method_48_code_0 rfl dw_b_L_isBack_0.1
theorem dc_L_isBack_1 : decode method_48_code 1 = .ok (.aload_n 0, 1) := dw_row (j := 1) dw_h_method_48_code_0 rfl dw_b_L_isBack_0.2.1
theorem dc_L_isBack_2 : decode method_48_code 2 = .ok (.iload_n 1, 1) := dw_row (j := 2) dw_h_method_48_code_0 rfl dw_b_L_isBack_0.2.2.1
theorem dc_L_isBack_3 : decode method_48_code 3 = .ok (.iload_n 2, 1) := dw_row (j := 3) dw_h_method_48_code_0 rfl dw_b_L_isBack_0.2.2.2.1
theorem dc_L_isBack_4 : decode method_48_code 4 = .ok (.invokevirtual 171, 3) := dw_row (j := 4) dw_h_method_48_code_0 rfl dw_b_L_isBack_0.2.2.2.2.1
theorem dc_L_isBack_21 : decode method_48_code 21 = .ok (.astore 4, 2) := dw_row (j := 21) dw_h_method_48_code_0 rfl dw_b_L_isBack_0.2.2.2.2.2.1
theorem dc_L_isBack_23 : decode method_48_code 23 = .ok (.iconst 1, 1) := dw_row (j := 23) dw_h_method_48_code_0 rfl dw_b_L_isBack_0.2.2.2.2.2.2.1
theorem dc_L_isBack_24 : decode method_48_code 24 = .ok (.ireturn, 1) := dw_row (j := 24) dw_h_method_48_code_0 rfl dw_b_L_isBack_0.2.2.2.2.2.2.2.1
theorem dc_L_isBack_25 : decode method_48_code 25 = .ok (.astore 4, 2) := dw_row (j := 25) dw_h_method_48_code_0 rfl dw_b_L_isBack_0.2.2.2.2.2.2.2.2.1
theorem dc_L_isBack_27 : decode method_48_code 27 = .ok (.iconst 2, 1) := dw_row (j := 27) dw_h_method_48_code_0 rfl dw_b_L_isBack_0.2.2.2.2.2.2.2.2.2.1
theorem dc_L_isBack_28 : decode method_48_code 28 = .ok (.ireturn, 1) := dw_row (j := 28) dw_h_method_48_code_0 rfl dw_b_L_isBack_0.2.2.2.2.2.2.2.2.2.2.1
theorem dc_L_isBack_7 : decode method_48_code 7 = .ok (.ifCond .eq 7, 3) := dw_row (j := 7) dw_h_method_48_code_0 rfl dw_b_L_isBack_0.2.2.2.2.2.2.2.2.2.2.2.1
theorem dc_L_isBack_14 : decode method_48_code 14 = .ok (.lconst 0, 1) := dw_row (j := 14) dw_h_method_48_code_0 rfl dw_b_L_isBack_0.2.2.2.2.2.2.2.2.2.2.2.2.1
theorem dc_L_isBack_15 : decode method_48_code 15 = .ok (.putfield 13, 3) := dw_row (j := 15) dw_h_method_48_code_0 rfl dw_b_L_isBack_0.2.2.2.2.2.2.2.2.2.2.2.2.2.1
theorem dc_L_isBack_18 : decode method_48_code 18 = .ok (.goto 11, 3) := dw_row (j := 18) dw_h_method_48_code_0 rfl dw_b_L_isBack_0.2.2.2.2.2.2.2.2.2.2.2.2.2.2.1
theorem dc_L_isBack_29 : decode method_48_code 29 = .ok (.iconst 0, 1) := dw_row (j := 29) dw_h_method_48_code_0 rfl dw_b_L_isBack_0.2.2.2.2.2.2.2.2.2.2.2.2.2.2.2.1
theorem dc_L_isBack_30 : decode method_48_code 30 = .ok (.ireturn, 1) := dw_row (j := 30) dw_h_method_48_code_0 rfl dw_b_L_isBack_0.2.2.2.2.2.2.2.2.2.2.2.2.2.2.2.2.1
theorem dc_L_isBack_10 : decode method_48_code 10 = .ok (.lconst 1, 1) := dw_row (j := 10) dw_h_method_48_code_0 rfl dw_b_L_isBack_0.2.2.2.2.2.2.2.2.2.2.2.2.2.2.2.2.2.1
theorem dc_L_isBack_11 : decode method_48_code 11 = .ok (.goto 4, 3) := dw_row (j := 11) dw_h_method_48_code_0 rfl dw_b_L_isBack_0.2.2.2.2.2.2.2.2.2.2.2.2.2.2.2.2.2.2
def dw_C_method_49_code_0 : List UInt8 := [44, 42, 27, 182, 0, 174, 133, 181, 0, 13, 167, 0, 6, 78, 4, 172, 3, 172]
theorem dw_h_method_49_code_0 : (method_49_code.data.toList.drop 0).take 72 = dw_C_method_49_code_0 := by decide +kernel
theorem dw_b_L_house_0 : dw_chk dw_C_method_49_code_0 0 0 (.aload_n 2) 1 = true ∧ dw_chk dw_C_method_49_code_0 1 1 (.aload_n 0) 1 = true ∧ dw_chk dw_C_method_49_code_0 2 2 (.iload_n 1) 1 = true ∧ dw_chk dw_C_method_49_code_0 3 3 (.invokevirtual 174) 3 = true ∧ dw_chk dw_C_method_49_code_0 13 13 (.astore_n 3) 1 = true ∧ dw_chk dw_C_method_49_code_0 14 14 (.iconst 1) 1 = true ∧ dw_chk dw_C_method_49_code_0 15 15 (.ireturn) 1 = true ∧ dw_chk dw_C_method_49_code_0 6 6 (.i2l) 1 = true ∧ dw_chk dw_C_method_49_code_0 7 7 (.putfield 13) 3 = true ∧ dw_chk dw_C_method_49_code_0 10 10 (.goto 6) 3 = true ∧ dw_chk dw_C_method_49_code_0 16 16 (.iconst 0) 1 = true ∧ dw_chk dw_C_method_49_code_0 17 17 (.ireturn) 1 = true := by decide +kernel
theorem dc_L_house_0 : decode method_49_code 0 = .ok (.aload_n 2, 1) := dw_row (j := 0) dw_h_method_49_code_0 rfl dw_b_L_house_0.1
theorem dc_L_house_1 : decode method_49_code 1 = .ok (.aload_n 0, 1) := dw_row (j := 1) dw_h_method_49_code_0 rfl dw_b_L_house_0.2.1
theorem dc_L_house_2 : decode method_49_code 2 = .ok (.iload_n 1, 1) := dw_row (j := 2) dw_h_method_49_code_0 rfl dw_b_L_house_0.2.2.1
theorem dc_L_house_3 : decode method_49_code 3 = .ok (.invokevirtual 174, 3) := dw_row (j := 3) dw_h_method_49_code_0 rfl dw_b_L_house_0.2.2.2.1
theorem dc_L_house_13 : decode method_49_code 13 = .ok (.astore_n 3, 1) := dw_row (j := 13) dw_h_method_49_code_0 rfl dw_b_L_house_0.2.2.2.2.1
theorem dc_L_house_14 : decode method_49_code 14 = .ok (.iconst 1, 1) := dw_row (j := 14) dw_h_method_49_code_0 rfl dw_b_L_house_0.2.2.2.2.2.1
theorem dc_L_house_15 : decode method_49_code 15 = .ok (.ireturn, 1) := dw_row (j := 15) dw_h_method_49_code_0 rfl dw_b_L_house_0.2.2.2.2.2.2.1
theorem dc_L_house_6 : decode method_49_code 6 = .ok (.i2l, 1) := dw_row (j := 6) dw_h_method_49_code_0 rfl dw_b_L_house_0.2.2.2.2.2.2.2.1
theorem dc_L_house_7 : decode method_49_code 7 = .ok (.putfield 13, 3) := dw_row (j := 7) dw_h_method_49_code_0 rfl dw_b_L_house_0.2.2.2.2.2.2.2.2.1
theorem dc_L_house_10 : decode method_49_code 10 = .ok (.goto 6, 3) := dw_row (j := 10) dw_h_method_49_code_0 rfl dw_b_L_house_0.2.2.2.2.2.2.2.2.2.1
theorem dc_L_house_16 : decode method_49_code 16 = .ok (.iconst 0, 1) := dw_row (j := 16) dw_h_method_49_code_0 rfl dw_b_L_house_0.2.2.2.2.2.2.2.2.2.2.1
theorem dc_L_house_17 : decode method_49_code 17 = .ok (.ireturn, 1) := dw_row (j := 17) dw_h_method_49_code_0 rfl dw_b_L_house_0.2.2.2.2.2.2.2.2.2.2.2

