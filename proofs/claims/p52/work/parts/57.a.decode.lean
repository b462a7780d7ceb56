theorem dc_L_law_43 : decode code 43 = .ok (.tableswitch 2251 0 52 #[225, 281, 337, 377, 445, 497, 565, 605, 645, 685, 725, 765, 805, 845, 885, 925, 965, 1005, 1045, 1097, 1149, 1201, 1253, 1293, 1321, 1361, 1389, 1417, 1473, 1501, 1529, 1557, 1585, 1613, 1653, 1693, 1733, 1773, 1813, 1853, 1881, 1909, 1937, 1965, 1993, 2049, 2089, 2129, 2142, 2155, 2168, 2225, 2238], 225) := by decide +kernel
def dw_C_code_0 : List UInt8 := [187, 0, 8, 89, 183, 0, 177, 76, 187, 0, 178, 89, 183, 0, 180, 77, 187, 0, 14, 89, 183, 0, 181, 78, 3, 54, 4, 21, 4, 42, 190, 7, 100, 163, 8, 219, 42, 21, 4, 46, 16, 63, 126, 170, 0, 0, 8, 203, 0, 0, 0, 0, 0, 0, 0, 52, 0, 0, 0, 225, 0, 0, 1, 25, 0, 0, 1, 81, 0, 0, 1, 121]
theorem dw_h_code_0 : (code.data.toList.drop 0).take 72 = dw_C_code_0 := by decide +kernel
theorem dw_b_L_law_0 : dw_chk dw_C_code_0 0 0 (.new 8) 3 = true ∧ dw_chk dw_C_code_0 3 3 (.dup) 1 = true ∧ dw_chk dw_C_code_0 4 4 (.invokespecial 177) 3 = true ∧ dw_chk dw_C_code_0 7 7 (.astore_n 1) 1 = true ∧ dw_chk dw_C_code_0 8 8 (.new 178) 3 = true ∧ dw_chk dw_C_code_0 11 11 (.dup) 1 = true ∧ dw_chk dw_C_code_0 12 12 (.invokespecial 180) 3 = true ∧ dw_chk dw_C_code_0 15 15 (.astore_n 2) 1 = true ∧ dw_chk dw_C_code_0 16 16 (.new 14) 3 = true ∧ dw_chk dw_C_code_0 19 19 (.dup) 1 = true ∧ dw_chk dw_C_code_0 20 20 (.invokespecial 181) 3 = true ∧ dw_chk dw_C_code_0 23 23 (.astore_n 3) 1 = true ∧ dw_chk dw_C_code_0 24 24 (.iconst 0) 1 = true ∧ dw_chk dw_C_code_0 25 25 (.istore 4) 2 = true ∧ dw_chk dw_C_code_0 27 27 (.iload 4) 2 = true ∧ dw_chk dw_C_code_0 29 29 (.aload_n 0) 1 = true ∧ dw_chk dw_C_code_0 30 30 (.arraylength) 1 = true ∧ dw_chk dw_C_code_0 31 31 (.iconst 4) 1 = true ∧ dw_chk dw_C_code_0 32 32 (.isub) 1 = true ∧ dw_chk dw_C_code_0 33 33 (.if_icmp .gt 2267) 3 = true ∧ dw_chk dw_C_code_0 36 36 (.aload_n 0) 1 = true ∧ dw_chk dw_C_code_0 37 37 (.iload 4) 2 = true ∧ dw_chk dw_C_code_0 39 39 (.iaload) 1 = true ∧ dw_chk dw_C_code_0 40 40 (.bipush 63) 2 = true ∧ dw_chk dw_C_code_0 42 42 (.iand) 1 = true := by decide +kernel
theorem dc_L_law_0 : decode code 0 = .ok (.new 8, 3) := dw_row (j := 0) dw_h_code_0 rfl dw_b_L_law_0.1
theorem dc_L_law_3 : decode code 3 = .ok (.dup, 1) := dw_row (j := 3) dw_h_code_0 rfl dw_b_L_law_0.2.1
theorem dc_L_law_4 : decode code 4 = .ok (.invokespecial 177, 3) := dw_row (j := 4) dw_h_code_0 rfl dw_b_L_law_0.2.2.1
theorem dc_L_law_7 : decode code 7 = .ok (.astore_n 1, 1) := dw_row (j := 7) dw_h_code_0 rfl dw_b_L_law_0.2.2.2.1
theorem dc_L_law_8 : decode code 8 = .ok (.new 178, 3) := dw_row (j := 8) dw_h_code_0 rfl dw_b_L_law_0.2.2.2.2.1
theorem dc_L_law_11 : decode code 11 = .ok (.dup, 1) := dw_row (j := 11) dw_h_code_0 rfl dw_b_L_law_0.2.2.2.2.2.1
theorem dc_L_law_12 : decode code 12 = .ok (.invokespecial 180, 3) := dw_row (j := 12) dw_h_code_0 rfl dw_b_L_law_0.2.2.2.2.2.2.1
theorem dc_L_law_15 : decode code 15 = .ok (.astore_n 2, 1) := dw_row (j := 15) dw_h_code_0 rfl dw_b_L_law_0.2.2.2.2.2.2.2.1
theorem dc_L_law_16 : decode code 16 = .ok (.new 14, 3) := dw_row (j := 16) dw_h_code_0 rfl dw_b_L_law_0.2.2.2.2.2.2.2.2.1
theorem dc_L_law_19 : decode code 19 = .ok (.dup, 1) := dw_row (j := 19) dw_h_code_0 rfl dw_b_L_law_0.2.2.2.2.2.2.2.2.2.1
theorem dc_L_law_20 : decode code 20 = .ok (.invokespecial 181, 3) := dw_row (j := 20) dw_h_code_0 rfl dw_b_L_law_0.2.2.2.2.2.2.2.2.2.2.1
theorem dc_L_law_23 : decode code 23 = .ok (.astore_n 3, 1) := dw_row (j := 23) dw_h_code_0 rfl dw_b_L_law_0.2.2.2.2.2.2.2.2.2.2.2.1
theorem dc_L_law_24 : decode code 24 = .ok (.iconst 0, 1) := dw_row (j := 24) dw_h_code_0 rfl dw_b_L_law_0.2.2.2.2.2.2.2.2.2.2.2.2.1
theorem dc_L_law_25 : decode code 25 = .ok (.istore 4, 2) := dw_row (j := 25) dw_h_code_0 rfl dw_b_L_law_0.2.2.2.2.2.2.2.2.2.2.2.2.2.1
theorem dc_L_law_27 : decode code 27 = .ok (.iload 4, 2) := dw_row (j := 27) dw_h_code_0 rfl dw_b_L_law_0.2.2.2.2.2.2.2.2.2.2.2.2.2.2.1
theorem dc_L_law_29 : decode code 29 = .ok (.aload_n 0, 1) := dw_row (j := 29) dw_h_code_0 rfl dw_b_L_law_0.2.2.2.2.2.2.2.2.2.2.2.2.2.2.2.1
theorem dc_L_law_30 : decode code 30 = .ok (.arraylength, 1) := dw_row (j := 30) dw_h_code_0 rfl dw_b_L_law_0.2.2.2.2.2.2.2.2.2.2.2.2.2.2.2.2.1
theorem dc_L_law_31 : decode code 31 = .ok (.iconst 4, 1) := dw_row (j := 31) dw_h_code_0 rfl dw_b_L_law_0.2.2.2.2.2.2.2.2.2.2.2.2.2.2.2.2.2.1
theorem dc_L_law_32 : decode code 32 = .ok (.isub, 1) := dw_row (j := 32) dw_h_code_0 rfl dw_b_L_law_0.2.2.2.2.2.2.2.2.2.2.2.2.2.2.2.2.2.2.1
theorem dc_L_law_33 : decode code 33 = .ok (.if_icmp .gt 2267, 3) := dw_row (j := 33) dw_h_code_0 rfl dw_b_L_law_0.2.2.2.2.2.2.2.2.2.2.2.2.2.2.2.2.2.2.2.1
theorem dc_L_law_36 : decode code 36 = .ok (.aload_n 0, 1) := dw_row (j := 36) dw_h_code_0 rfl dw_b_L_law_0.2.2.2.2.2.2.2.2.2.2.2.2.2.2.2.2.2.2.2.2.1
theorem dc_L_law_37 : decode code 37 = .ok (.iload 4, 2) := dw_row (j := 37) dw_h_code_0 rfl dw_b_L_law_0.2.2.2.2.2.2.2.2.2.2.2.2.2.2.2.2.2.2.2.2.2.1
theorem dc_L_law_39 : decode code 39 = .ok (.iaload, 1) := dw_row (j := 39) dw_h_code_0 rfl dw_b_L_law_0.2.2.2.2.2.2.2.2.2.2.2.2.2.2.2.2.2.2.2.2.2.2.1
theorem dc_L_law_40 : decode code 40 = .ok (.bipush 63, 2) := dw_row (j := 40) dw_h_code_0 rfl dw_b_L_law_0.2.2.2.2.2.2.2.2.2.2.2.2.2.2.2.2.2.2.2.2.2.2.2.1
theorem dc_L_law_42 : decode code 42 = .ok (.iand, 1) := dw_row (j := 42) dw_h_code_0 rfl dw_b_L_law_0.2.2.2.2.2.2.2.2.2.2.2.2.2.2.2.2.2.2.2.2.2.2.2.2
theorem dw_b_L_law_2294 : dw_chk dw_C_code_35 2294 54 (.iinc 4 4) 3 = true ∧ dw_chk dw_C_code_35 2297 57 (.goto (-2270)) 3 = true ∧ dw_chk dw_C_code_35 2300 60 (.iconst 1) 1 = true ∧ dw_chk dw_C_code_35 2301 61 (.ireturn) 1 = true := by decide +kernel
theorem dc_L_law_2294 : decode code 2294 = .ok (.iinc 4 4, 3) := dw_row (j := 54) dw_h_code_35 rfl dw_b_L_law_2294.1
theorem dc_L_law_2297 : decode code 2297 = .ok (.goto (-2270), 3) := dw_row (j := 57) dw_h_code_35 rfl dw_b_L_law_2294.2.1
theorem dc_L_law_2300 : decode code 2300 = .ok (.iconst 1, 1) := dw_row (j := 60) dw_h_code_35 rfl dw_b_L_law_2294.2.2.1
theorem dc_L_law_2301 : decode code 2301 = .ok (.ireturn, 1) := dw_row (j := 61) dw_h_code_35 rfl dw_b_L_law_2294.2.2.2
