theorem dc_L_law_0 : decode code 0 = .ok (.new 8, 3) := by decide +kernel
theorem dc_L_law_3 : decode code 3 = .ok (.dup, 1) := by decide +kernel
theorem dc_L_law_4 : decode code 4 = .ok (.invokespecial 177, 3) := by decide +kernel
theorem dc_L_law_7 : decode code 7 = .ok (.astore_n 1, 1) := by decide +kernel
theorem dc_L_law_8 : decode code 8 = .ok (.new 178, 3) := by decide +kernel
theorem dc_L_law_11 : decode code 11 = .ok (.dup, 1) := by decide +kernel
theorem dc_L_law_12 : decode code 12 = .ok (.invokespecial 180, 3) := by decide +kernel
theorem dc_L_law_15 : decode code 15 = .ok (.astore_n 2, 1) := by decide +kernel
theorem dc_L_law_16 : decode code 16 = .ok (.new 14, 3) := by decide +kernel
theorem dc_L_law_19 : decode code 19 = .ok (.dup, 1) := by decide +kernel
theorem dc_L_law_20 : decode code 20 = .ok (.invokespecial 181, 3) := by decide +kernel
theorem dc_L_law_23 : decode code 23 = .ok (.astore_n 3, 1) := by decide +kernel
theorem dc_L_law_24 : decode code 24 = .ok (.iconst 0, 1) := by decide +kernel
theorem dc_L_law_25 : decode code 25 = .ok (.istore 4, 2) := by decide +kernel
theorem dc_L_law_27 : decode code 27 = .ok (.iload 4, 2) := by decide +kernel
theorem dc_L_law_29 : decode code 29 = .ok (.aload_n 0, 1) := by decide +kernel
theorem dc_L_law_30 : decode code 30 = .ok (.arraylength, 1) := by decide +kernel
theorem dc_L_law_31 : decode code 31 = .ok (.iconst 4, 1) := by decide +kernel
theorem dc_L_law_32 : decode code 32 = .ok (.isub, 1) := by decide +kernel
theorem dc_L_law_33 : decode code 33 = .ok (.if_icmp .gt 2267, 3) := by decide +kernel
theorem dc_L_law_36 : decode code 36 = .ok (.aload_n 0, 1) := by decide +kernel
theorem dc_L_law_37 : decode code 37 = .ok (.iload 4, 2) := by decide +kernel
theorem dc_L_law_39 : decode code 39 = .ok (.iaload, 1) := by decide +kernel
theorem dc_L_law_40 : decode code 40 = .ok (.bipush 63, 2) := by decide +kernel
theorem dc_L_law_42 : decode code 42 = .ok (.iand, 1) := by decide +kernel
theorem dc_L_law_43 : decode code 43 = .ok (.tableswitch 2251 0 52 #[225, 281, 337, 377, 445, 526, 594, 634, 674, 714, 754, 794, 834, 874, 914, 954, 994, 1034, 1074, 1126, 1178, 1230, 1282, 1322, 1350, 1390, 1418, 1446, 1502, 1530, 1558, 1586, 1614, 1642, 1682, 1722, 1762, 1802, 1842, 1882, 1910, 1938, 1966, 1994, 2022, 2078, 2118, 2158, 2171, 2184, 2197, 2225, 2238], 225) := by decide +kernel
theorem dc_L_law_2294 : decode code 2294 = .ok (.iinc 4 4, 3) := by decide +kernel
theorem dc_L_law_2297 : decode code 2297 = .ok (.goto (-2270), 3) := by decide +kernel
theorem dc_L_law_2300 : decode code 2300 = .ok (.iconst 1, 1) := by decide +kernel
theorem dc_L_law_2301 : decode code 2301 = .ok (.ireturn, 1) := by decide +kernel
