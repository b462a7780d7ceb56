def dl_L_law_0 : List (ByteArray × Nat × Jvm.ClassFile.Instr × Nat) := [(code, 0, .new 8, 3), (code, 3, .dup, 1), (code, 4, .invokespecial 177, 3), (code, 7, .astore_n 1, 1), (code, 8, .new 178, 3), (code, 11, .dup, 1), (code, 12, .invokespecial 180, 3), (code, 15, .astore_n 2, 1), (code, 16, .new 14, 3), (code, 19, .dup, 1), (code, 20, .invokespecial 181, 3), (code, 23, .astore_n 3, 1), (code, 24, .iconst 0, 1), (code, 25, .istore 4, 2), (code, 27, .iload 4, 2), (code, 29, .aload_n 0, 1), (code, 30, .arraylength, 1), (code, 31, .iconst 4, 1), (code, 32, .isub, 1), (code, 33, .if_icmp .gt 2267, 3), (code, 36, .aload_n 0, 1), (code, 37, .iload 4, 2), (code, 39, .iaload, 1), (code, 40, .bipush 63, 2), (code, 42, .iand, 1), (code, 43, .tableswitch 2251 0 52 #[225, 281, 337, 377, 445, 526, 594, 634, 674, 714, 754, 794, 834, 874, 914, 954, 994, 1034, 1074, 1126, 1178, 1230, 1282, 1322, 1350, 1390, 1418, 1446, 1502, 1530, 1558, 1586, 1614, 1642, 1682, 1722, 1762, 1802, 1842, 1882, 1910, 1938, 1966, 1994, 2022, 2078, 2118, 2158, 2171, 2184, 2197, 2225, 2238], 225), (code, 2294, .iinc 4 4, 3), (code, 2297, .goto (-2270), 3), (code, 2300, .iconst 1, 1), (code, 2301, .ireturn, 1)]
theorem db_L_law_0 : dl_L_law_0.all (fun x => decide (decode x.1 x.2.1 = .ok x.2.2)) = true := by decide +kernel
theorem dc_L_law_0 : decode code 0 = .ok (.new 8, 3) := ky_dc db_L_law_0 0 rfl
theorem dc_L_law_3 : decode code 3 = .ok (.dup, 1) := ky_dc db_L_law_0 1 rfl
theorem dc_L_law_4 : decode code 4 = .ok (.invokespecial 177, 3) := ky_dc db_L_law_0 2 rfl
theorem dc_L_law_7 : decode code 7 = .ok (.astore_n 1, 1) := ky_dc db_L_law_0 3 rfl
theorem dc_L_law_8 : decode code 8 = .ok (.new 178, 3) := ky_dc db_L_law_0 4 rfl
theorem dc_L_law_11 : decode code 11 = .ok (.dup, 1) := ky_dc db_L_law_0 5 rfl
theorem dc_L_law_12 : decode code 12 = .ok (.invokespecial 180, 3) := ky_dc db_L_law_0 6 rfl
theorem dc_L_law_15 : decode code 15 = .ok (.astore_n 2, 1) := ky_dc db_L_law_0 7 rfl
theorem dc_L_law_16 : decode code 16 = .ok (.new 14, 3) := ky_dc db_L_law_0 8 rfl
theorem dc_L_law_19 : decode code 19 = .ok (.dup, 1) := ky_dc db_L_law_0 9 rfl
theorem dc_L_law_20 : decode code 20 = .ok (.invokespecial 181, 3) := ky_dc db_L_law_0 10 rfl
theorem dc_L_law_23 : decode code 23 = .ok (.astore_n 3, 1) := ky_dc db_L_law_0 11 rfl
theorem dc_L_law_24 : decode code 24 = .ok (.iconst 0, 1) := ky_dc db_L_law_0 12 rfl
theorem dc_L_law_25 : decode code 25 = .ok (.istore 4, 2) := ky_dc db_L_law_0 13 rfl
theorem dc_L_law_27 : decode code 27 = .ok (.iload 4, 2) := ky_dc db_L_law_0 14 rfl
theorem dc_L_law_29 : decode code 29 = .ok (.aload_n 0, 1) := ky_dc db_L_law_0 15 rfl
theorem dc_L_law_30 : decode code 30 = .ok (.arraylength, 1) := ky_dc db_L_law_0 16 rfl
theorem dc_L_law_31 : decode code 31 = .ok (.iconst 4, 1) := ky_dc db_L_law_0 17 rfl
theorem dc_L_law_32 : decode code 32 = .ok (.isub, 1) := ky_dc db_L_law_0 18 rfl
theorem dc_L_law_33 : decode code 33 = .ok (.if_icmp .gt 2267, 3) := ky_dc db_L_law_0 19 rfl
theorem dc_L_law_36 : decode code 36 = .ok (.aload_n 0, 1) := ky_dc db_L_law_0 20 rfl
theorem dc_L_law_37 : decode code 37 = .ok (.iload 4, 2) := ky_dc db_L_law_0 21 rfl
theorem dc_L_law_39 : decode code 39 = .ok (.iaload, 1) := ky_dc db_L_law_0 22 rfl
theorem dc_L_law_40 : decode code 40 = .ok (.bipush 63, 2) := ky_dc db_L_law_0 23 rfl
theorem dc_L_law_42 : decode code 42 = .ok (.iand, 1) := ky_dc db_L_law_0 24 rfl
theorem dc_L_law_43 : decode code 43 = .ok (.tableswitch 2251 0 52 #[225, 281, 337, 377, 445, 526, 594, 634, 674, 714, 754, 794, 834, 874, 914, 954, 994, 1034, 1074, 1126, 1178, 1230, 1282, 1322, 1350, 1390, 1418, 1446, 1502, 1530, 1558, 1586, 1614, 1642, 1682, 1722, 1762, 1802, 1842, 1882, 1910, 1938, 1966, 1994, 2022, 2078, 2118, 2158, 2171, 2184, 2197, 2225, 2238], 225) := ky_dc db_L_law_0 25 rfl
theorem dc_L_law_2294 : decode code 2294 = .ok (.iinc 4 4, 3) := ky_dc db_L_law_0 26 rfl
theorem dc_L_law_2297 : decode code 2297 = .ok (.goto (-2270), 3) := ky_dc db_L_law_0 27 rfl
theorem dc_L_law_2300 : decode code 2300 = .ok (.iconst 1, 1) := ky_dc db_L_law_0 28 rfl
theorem dc_L_law_2301 : decode code 2301 = .ok (.ireturn, 1) := ky_dc db_L_law_0 29 rfl
